set_option maxRecDepth 100000 in
set_option maxHeartbeats 4000000 in
theorem l20_EX_expand_xv (G : jG) (d b : Nat)  (I : Nat → Nat → Int) (A : Nat → Int → Int) (hI : cSI I) (hA : cSA A) (hK : cTok A) (hD0 : ∀ j, 0 ≤ j → j < I 1 3 → A 4 j = 0) (hM : cMac I A) (f0 : jF) (sz : Nat)  (X0 : Int → Int) (Y0 : Int → Int) (D0 : Int → Int) (hH0 : gH X0 Y0 D0 (xs (A 2) (A 3) (A 4) 0 (I 1 3))) : ∀ (n9 : Nat) (e : Int) (s : Int) (J : Nat → Nat → Int) (B : Nat → Int → Int), cPx [85, 86, 131, 627] [9, 10, 11, 12, 13, 40, 41, 42] I A J B → (-13 ≤ e ∧ e ≤ 0) → (0 ≤ s ∧ s ≤ 401) → (e = 0 → s = J 5 5 + J 5 6 ∧ J 5 6 ≤ 100) → (e = 0 → ∀ j, 0 ≤ j → j < J 39 3 → 0 ≤ B 42 j ∧ B 42 j ≤ 6) → (e = 0 → ∀ z : XR, cXE I A (J 39 3) (B 40) (B 41) (B 42) (J 5 5) (J 5 6) z → cXE I A (I 1 3) X0 Y0 D0 0 0 z) → (e ≠ 0 → ∃ (n : Int) (X Y : Int → Int), cXE I A (I 1 3) X0 Y0 D0 0 0 ⟨e, J 5 5, J 5 6, n, X, Y⟩) → (cTok B) → 401 - s < (n9 : Int) → jt (jm G Y_EX_expand (gR (d + 4)) (cQ b f0 sz (fun (rv : Option Value) (I2 : Nat → Nat → Int) (A2 : Nat → Int → Int) => ∃ y : Int, rv = some (.int (jI y)) ∧ (-13 ≤ y ∧ y ≤ 0) ∧ cPx [85, 86, 131, 627] [9, 10, 11, 12, 13, 40, 41, 42] I A I2 A2 ∧ cTok A2 ∧ ∃ X0 Y0 D0 : Int → Int, gH X0 Y0 D0 (xs (A 2) (A 3) (A 4) 0 (I 1 3)) ∧ (y = 0 → cXE I A (I 1 3) X0 Y0 D0 0 0 ⟨y, I2 5 5, I2 5 6, I2 39 3, A2 40, A2 41⟩) ∧ (y ≠ 0 → ∃ (n : Int) (X Y : Int → Int), cXE I A (I 1 3) X0 Y0 D0 0 0 ⟨y, I2 5 5, I2 5 6, n, X, Y⟩)))) 20 [(0, .ref (b + 5)), (1, .ref (b + 1)), (2, .ref (b + 39)), (3, .int (jI e)), (4, .int (jI s))] [] (cmf b f0 J B) sz 0 0 := by
  intro n9
  induction n9 with
  | zero =>
    intro e s J B hJ e0 s0 hs hDJ hX hE hKJ hmeas
    have r55 : 0 ≤ J 5 5 ∧ J 5 5 ≤ 300 := hJ.1 5 5
    have r39 : 0 ≤ J 39 3 ∧ J 39 3 ≤ 300 := hJ.1 39 3
    exfalso
    omega
  | succ n9 ih =>
    intro e s J B hJ e0 s0 hs hDJ hX hE hKJ hmeas
    have r55 : 0 ≤ J 5 5 ∧ J 5 5 ≤ 300 := hJ.1 5 5
    have r39 : 0 ≤ J 39 3 ∧ J 39 3 ≤ 300 := hJ.1 39 3
    refine jt_iload d_EX_expand_20 rfl ?_
    refine jt_sipush d_EX_expand_22 (by omega) ?_
    refine jt_icmp_ge (t := 100) d_EX_expand_25 rfl (by unfold jRi; omega) (by unfold jRi; omega) (fun c101 => ?_) (fun c101 => ?_)
    · skip
      refine jt_iload_n d_EX_expand_100 rfl ?_
      exact cm_ret d_EX_expand_101 rfl rfl (⟨e, rfl, by omega, hJ, hKJ, X0, Y0, D0, hH0, fun y0 => by have h9 := hX y0 _ (XE.done (by omega)); rw [y0]; exact h9, hE⟩)
    · skip
      refine jt_aload_n d_EX_expand_28 rfl ?_
      refine cm_get (k := 5) (v := .int (jI (J 5 5))) d_EX_expand_29 EX_f42 (by decide) cc_2 rfl ?_
      have rb102 : 0 ≤ J 5 5 ∧ J 5 5 ≤ 300 := hJ.1 5 5
      refine jt_aload_n d_EX_expand_32 rfl ?_
      refine cm_get (k := 39) (v := .int (jI (J 39 3))) d_EX_expand_33 EX_f38 (by decide) (cc_1 rfl) rfl ?_
      have rb103 : 0 ≤ J 39 3 ∧ J 39 3 ≤ 300 := hJ.1 39 3
      refine jt_icmp_ge (t := 100) d_EX_expand_36 rfl (by unfold jRi; omega) (by unfold jRi; omega) (fun c104 => ?_) (fun c104 => ?_)
      · skip
        refine jt_iload_n d_EX_expand_100 rfl ?_
        exact cm_ret d_EX_expand_101 rfl rfl (⟨e, rfl, by omega, hJ, hKJ, X0, Y0, D0, hH0, fun y0 => by have h9 := hX y0 _ (XE.done (by omega)); rw [y0]; exact h9, hE⟩)
      · skip
        refine jt_iload_n d_EX_expand_39 rfl ?_
        refine jt_if_ne (t := 100) d_EX_expand_40 rfl (by unfold jRi; omega) (fun c105 => ?_) (fun c105 => ?_)
        · skip
          refine jt_iload_n d_EX_expand_100 rfl ?_
          exact cm_ret d_EX_expand_101 rfl rfl (⟨e, rfl, by omega, hJ, hKJ, X0, Y0, D0, hH0, fun y0 => by have h9 := hX y0 _ (XE.done (by omega)); rw [y0]; exact h9, hE⟩)
        · skip
          have tk : gtok (B 40 (J 5 5)) (B 41 (J 5 5)) := hKJ 39 rfl (J 5 5)
          unfold gtok at tk
          refine jt_aload_n d_EX_expand_43 rfl ?_
          refine cm_get (k := 39) (v := .ref (b + 40)) d_EX_expand_44 EX_f48 (by decide) (cc_1 rfl) rfl ?_
          refine jt_aload_n d_EX_expand_47 rfl ?_
          refine cm_get (k := 5) (v := .int (jI (J 5 5))) d_EX_expand_48 EX_f42 (by decide) cc_2 rfl ?_
          refine cm_ld0 (k := 40) (n := 300) (v := (B 40) (J 5 5)) d_EX_expand_51 (by decide) rfl rfl (by omega) (by omega) (by omega) rfl ?_
          refine jt_topi (fun v106 ev106 => ?_)
          have bv106 : -2147483648 ≤ v106 ∧ v106 ≤ 2147483647 := by rw [ev106]; exact hJ.2.1 40 (J 5 5)
          refine jt_iconst d_EX_expand_52 ?_
          refine jt_icmp_ne (t := 62) d_EX_expand_53 rfl (by unfold jRi; omega) (by unfold jRi; omega) (fun c107 => ?_) (fun c107 => ?_)
          · skip
            refine jt_aload_n d_EX_expand_62 rfl ?_
            refine cm_get (k := 39) (v := .ref (b + 40)) d_EX_expand_63 EX_f48 (by decide) (cc_1 rfl) rfl ?_
            refine jt_aload_n d_EX_expand_66 rfl ?_
            refine cm_get (k := 5) (v := .int (jI (J 5 5))) d_EX_expand_67 EX_f42 (by decide) cc_2 rfl ?_
            refine cm_ld0 (k := 40) (n := 300) (v := (B 40) (J 5 5)) d_EX_expand_70 (by decide) rfl rfl (by omega) (by omega) (by omega) rfl ?_
            refine jt_topi (fun v108 ev108 => ?_)
            have bv108 : -2147483648 ≤ v108 ∧ v108 ≤ 2147483647 := by rw [ev108]; exact hJ.2.1 40 (J 5 5)
            refine jt_iconst d_EX_expand_71 ?_
            refine jt_icmp_ne (t := 84) d_EX_expand_72 rfl (by unfold jRi; omega) (by unfold jRi; omega) (fun c109 => ?_) (fun c109 => ?_)
            · skip
              refine jt_aload_n d_EX_expand_84 rfl ?_
              refine jt_dup d_EX_expand_85 rfl ?_
              refine cm_get (k := 5) (v := .int (jI (J 5 5))) d_EX_expand_86 EX_f42 (by decide) cc_2 rfl ?_
              refine jt_iconst d_EX_expand_89 ?_
              refine jt_iadd d_EX_expand_90 ?_
              refine jt_topi (fun v110 ev110 => ?_)
              refine cm_put (k := 5) (j := 5) (v := v110) d_EX_expand_91 (EX_w42 _ rfl) (by decide) cc_2 rfl rfl (Nat.le_of_ble_eq_true rfl) rfl ?_
              have p111 := cPx.I 5 5 v110 hJ rfl (show 0 ≤ v110 ∧ v110 ≤ 300 by omega)
              refine jt_iinc (L' := [(0, .ref (b + 5)), (1, .ref (b + 1)), (2, .ref (b + 39)), (3, .int (jI e)), (4, .int (jI (s + 1)))]) d_EX_expand_94 rfl (Nat.le_of_ble_eq_true rfl) rfl ?_
              refine jt_goto (t := 20) d_EX_expand_97 rfl ?_
              exact ih e (s + 1) (cu J 5 5 v110) B p111 (by omega) (by omega) (show e = 0 → (s + 1) = v110 + (J 5 6) ∧ (J 5 6) ≤ 100 by omega) (fun _ => hDJ (by omega)) (fun y0 z hz => hX (by omega) z (XE.next (by omega) (by omega) (by omega) (by have h9 : cXE I A (J 39 3) (B 40) (B 41) (B 42) v110 (J 5 6) z := hz; rw [ev110] at h9; exact h9))) (fun y0 => absurd (show e = 0 by omega) y0) hKJ (by omega)
            · skip
              refine jt_aload_n d_EX_expand_75 rfl ?_
              refine jt_aload_n d_EX_expand_76 rfl ?_
              refine cct_callV (Y := Y_EX_replaceCall) (ci := 1) (k := 5) (As := [.ref (b + 39)]) (rest := []) d_EX_expand_77 EX_c51 yk_EX_replaceCall yv_EX_replaceCall rfl (Nat.le_of_ble_eq_true rfl) (by decide) cc_2 rfl rfl (Nat.le_of_ble_eq_true rfl) (v_EX_replaceCall_x G _ b J B hJ.1 hJ.2.1 hKJ (B 40) rfl (B 41) rfl (B 42) rfl (J 39 3) rfl (by omega) (by omega) (by omega) (hDJ (by omega)) (cMac_e (cMe_of hJ rfl rfl) hM)) (fun rvq112 Iq112 Aq112 hq112 => ?_)
              obtain ⟨yq112, rfl, ryq112, hqq112, hxq112⟩ := hq112
              have hpq112 := cPx.trans hJ hqq112 rfl rfl
              have m5_5q112 : Iq112 5 5 = J 5 5 := hqq112.2.2.1 5 5 rfl
              show jt _ 80 [(0, .ref (b + 5)), (1, .ref (b + 1)), (2, .ref (b + 39)), (3, .int (jI e)), (4, .int (jI s))] [.int (jI yq112)] (cmf b f0 Iq112 Aq112) _ _ _
              refine jt_istore_n (L' := [(0, .ref (b + 5)), (1, .ref (b + 1)), (2, .ref (b + 39)), (3, .int (jI yq112)), (4, .int (jI s))]) d_EX_expand_80 (Nat.le_of_ble_eq_true rfl) rfl ?_
              refine jt_goto (t := 94) d_EX_expand_81 rfl ?_
              refine jt_iinc (L' := [(0, .ref (b + 5)), (1, .ref (b + 1)), (2, .ref (b + 39)), (3, .int (jI yq112)), (4, .int (jI (s + 1)))]) d_EX_expand_94 rfl (Nat.le_of_ble_eq_true rfl) rfl ?_
              refine jt_goto (t := 20) d_EX_expand_97 rfl ?_
              exact ih yq112 (s + 1) Iq112 Aq112 hpq112 (by omega) (by omega) (fun y0 => by have h9 := xRC_D (by have h9 := hxq112.2.2; rw [y0] at h9; exact h9) (hDJ (by omega)) (by omega) (by omega) (hJ.2.1 7 (B 41 (J 5 5))).1 (fun z9 => cMac_m (cMac_e (cMe_of hJ rfl rfl) hM) hKJ (B 41 (J 5 5)) (by omega) (by omega) z9); omega) (fun y0 => (xRC_D (by have h9 := hxq112.2.2; rw [y0] at h9; exact h9) (hDJ (by omega)) (by omega) (by omega) (hJ.2.1 7 (B 41 (J 5 5))).1 (fun z9 => cMac_m (cMac_e (cMe_of hJ rfl rfl) hM) hKJ (B 41 (J 5 5)) (by omega) (by omega) z9)).2.2.2) (fun y0 z hz => hX (by omega) z (cXE_call (cMe_of hJ rfl rfl) (by omega) (by omega) (by omega) (by have h9 := hxq112.2.2; rw [y0] at h9; exact h9) (by rw [← show Iq112 5 5 = J 5 5 from m5_5q112]; exact hz))) (fun y0 => ⟨J 39 3, B 40, B 41, by have h9 := hX (by omega) _ (cXE_err (cMe_of hJ rfl rfl) (by omega) (by omega) (by omega) hxq112.2.2 y0); rw [show Iq112 5 5 = J 5 5 from m5_5q112]; exact h9⟩) hxq112.1 (by omega)
          · skip
            refine jt_bipush d_EX_expand_56 (by omega) ?_
            refine jt_istore_n (L' := [(0, .ref (b + 5)), (1, .ref (b + 1)), (2, .ref (b + 39)), (3, .int (jI (-3))), (4, .int (jI s))]) d_EX_expand_58 (Nat.le_of_ble_eq_true rfl) rfl ?_
            refine jt_goto (t := 94) d_EX_expand_59 rfl ?_
            refine jt_iinc (L' := [(0, .ref (b + 5)), (1, .ref (b + 1)), (2, .ref (b + 39)), (3, .int (jI (-3))), (4, .int (jI (s + 1)))]) d_EX_expand_94 rfl (Nat.le_of_ble_eq_true rfl) rfl ?_
            refine jt_goto (t := 20) d_EX_expand_97 rfl ?_
            exact ih (-3) (s + 1) J B hJ (by omega) (by omega) (show -3 = 0 → (s + 1) = (J 5 5) + (J 5 6) ∧ (J 5 6) ≤ 100 by omega) (fun y0 => absurd y0 (by omega)) (fun y0 => absurd y0 (by omega)) (fun _ => ⟨J 39 3, B 40, B 41, hX (by omega) _ (XE.stray (by omega) (by omega))⟩) hKJ (by omega)
set_option maxRecDepth 100000 in
set_option maxHeartbeats 4000000 in
theorem v_EX_expand_x (G : jG) (d b : Nat)  (I : Nat → Nat → Int) (A : Nat → Int → Int) (hI : cSI I) (hA : cSA A) (hK : cTok A) (hD0 : ∀ j, 0 ≤ j → j < I 1 3 → A 4 j = 0) (hM : cMac I A) : cct G Y_EX_expand (d + 4) b [.ref (b + 5), .ref (b + 1), .ref (b + 39)] I A (fun (rv : Option Value) (I2 : Nat → Nat → Int) (A2 : Nat → Int → Int) => ∃ y : Int, rv = some (.int (jI y)) ∧ (-13 ≤ y ∧ y ≤ 0) ∧ cPx [85, 86, 131, 627] [9, 10, 11, 12, 13, 40, 41, 42] I A I2 A2 ∧ cTok A2 ∧ ∃ X0 Y0 D0 : Int → Int, gH X0 Y0 D0 (xs (A 2) (A 3) (A 4) 0 (I 1 3)) ∧ (y = 0 → cXE I A (I 1 3) X0 Y0 D0 0 0 ⟨y, I2 5 5, I2 5 6, I2 39 3, A2 40, A2 41⟩) ∧ (y ≠ 0 → ∃ (n : Int) (X Y : Int → Int), cXE I A (I 1 3) X0 Y0 D0 0 0 ⟨y, I2 5 5, I2 5 6, n, X, Y⟩)) := by
  refine cct_of (by decide) (Nat.le_of_ble_eq_true rfl) (fun f0 sz => ?_)
  show jt _ 0 [(0, .ref (b + 5)), (1, .ref (b + 1)), (2, .ref (b + 39))] [] _ _ _ _
  have hz0 : cPx [85, 86, 131, 627] [9, 10, 11, 12, 13, 40, 41, 42] I A I A := cPx.refl hI hA
  refine jt_aload_n d_EX_expand_0 rfl ?_
  refine jt_aload_n d_EX_expand_1 rfl ?_
  refine cct_callV (Y := Y_TR_copy) (ci := 0) (k := 39) (As := [.ref (b + 1)]) (rest := []) d_EX_expand_2 EX_c34 yk_TR_copy yv_TR_copy rfl (Nat.le_of_ble_eq_true rfl) (by decide) (cc_1 rfl) rfl rfl (Nat.le_of_ble_eq_true rfl) (v_TR_copy_39_x G _ b  I A hz0.1 hz0.2.1 ) (fun rvq1 Iq1 Aq1 hq1 => ?_)
  obtain ⟨rfl, hqq1, hxq1⟩ := hq1
  have hpq1 := cPx.trans hz0 hqq1 rfl rfl
  have m5_5q1 : Iq1 5 5 = I 5 5 := hqq1.2.2.1 5 5 rfl
  have m5_6q1 : Iq1 5 6 = I 5 6 := hqq1.2.2.1 5 6 rfl
  show jt _ 5 [(0, .ref (b + 5)), (1, .ref (b + 1)), (2, .ref (b + 39))] [] (cmf b f0 Iq1 Aq1) _ _ _
  refine jt_aload_n d_EX_expand_5 rfl ?_
  refine jt_iconst d_EX_expand_6 ?_
  refine cm_put (k := 5) (j := 5) (v := 0) d_EX_expand_7 (EX_w42 _ rfl) (by decide) cc_2 rfl rfl (Nat.le_of_ble_eq_true rfl) rfl ?_
  have p2 := cPx.I 5 5 0 hpq1 rfl (show 0 ≤ 0 ∧ 0 ≤ 300 by omega)
  refine jt_aload_n d_EX_expand_10 rfl ?_
  refine jt_iconst d_EX_expand_11 ?_
  refine cm_put (k := 5) (j := 6) (v := 0) d_EX_expand_12 (EX_w45 _ rfl) (by decide) cc_2 rfl rfl (Nat.le_of_ble_eq_true rfl) rfl ?_
  have p3 := cPx.I 5 6 0 p2 rfl (show 0 ≤ 0 ∧ 0 ≤ 101 by omega)
  refine jt_iconst d_EX_expand_15 ?_
  refine jt_istore_n (L' := [(0, .ref (b + 5)), (1, .ref (b + 1)), (2, .ref (b + 39)), (3, .int (jI 0))]) d_EX_expand_16 (Nat.le_of_ble_eq_true rfl) rfl ?_
  refine jt_iconst d_EX_expand_17 ?_
  refine jt_istore (L' := [(0, .ref (b + 5)), (1, .ref (b + 1)), (2, .ref (b + 39)), (3, .int (jI 0)), (4, .int (jI 0))]) d_EX_expand_18 (Nat.le_of_ble_eq_true rfl) rfl ?_
  exact l20_EX_expand_xv G d b  I A hI hA hK hD0 hM f0 sz ((Aq1 40)) ((Aq1 41)) ((Aq1 42)) hxq1.2.2 402 0 0 (cu (cu Iq1 5 5 0) 5 6 0) Aq1 p3 (by omega) (by omega) (fun _ => ⟨rfl, show (0 : Int) ≤ 100 by omega⟩) (fun _ j a c => by have h9 := hxq1.2; have c2 : j < Iq1 39 3 := c; exact hdep h9.2 hD0 j a (by omega) (by have := hI 1 3; have h13 : I 1 3 ≤ 120 := this.2; omega)) (fun _ z hz => by have h9 : cXE I A (Iq1 39 3) (Aq1 40) (Aq1 41) (Aq1 42) 0 0 z := hz; rw [hxq1.2.1] at h9; exact h9) (fun z => absurd rfl z) (hxq1.1 hK) (by omega)

set_option maxRecDepth 100000 in
set_option maxHeartbeats 1000000 in
theorem z_GM_expr (G : jG) (d m : Nat) (f : Int) (I : Nat → Int) (A : Nat → Int → Int) (hI : gSI I) (hA : gSA A) (hz5 : ¬ I 5 = 0) : gct G Y_GM_expr (d + 4) m [.int (jI f)] I A (fun (rv : Option Value) (I2 : Nat → Int) (A2 : Nat → Int → Int) => rv = none ∧ gPo [9, 13, 14] [] I A I2 A2) := by
  refine gct_of (by decide) (Nat.le_of_ble_eq_true rfl) (fun f0 sz => ?_)
  show jt _ 0 [(0, .ref m), (1, .int (jI f))] [] _ _ _ _
  have r13 : 0 ≤ I 13 ∧ I 13 ≤ 320 := hI 13
  have hz0 : gPo [9, 13, 14] [] I A I A := gPo.refl hI hA
  refine jt_aload_n d_GM_expr_0 rfl ?_
  refine gm_gI (k := 13) (v := I 13) d_GM_expr_1 GM_f49 (by decide) rfl ?_
  have rb1 : 0 ≤ I 13 ∧ I 13 ≤ 320 := hz0.1 13
  refine jt_istore_n (L' := [(0, .ref m), (1, .int (jI f)), (2, .int (jI (I 13)))]) d_GM_expr_4 (Nat.le_of_ble_eq_true rfl) rfl ?_
  refine jt_iconst d_GM_expr_5 ?_
  refine jt_istore_n (L' := [(0, .ref m), (1, .int (jI f)), (2, .int (jI (I 13))), (3, .int (jI 1))]) d_GM_expr_6 (Nat.le_of_ble_eq_true rfl) rfl ?_
  refine jt_aload_n d_GM_expr_7 rfl ?_
  refine jt_iconst d_GM_expr_8 ?_
  refine gm_pI (k := 14) (v := 0) (J := va_up I 14 0) d_GM_expr_9 (GM_w52 _ rfl) (by decide) rfl rfl rfl ?_
  have p2 := gPo.I 14 0 hz0 rfl (show 0 ≤ 0 ∧ 0 ≤ 8 by omega)
  refine jt_aload_n d_GM_expr_12 rfl ?_
  refine jt_iconst d_GM_expr_13 ?_
  refine gm_pI (k := 9) (v := 0) (J := va_up (va_up I 14 0) 9 0) d_GM_expr_14 (GM_w37 _ rfl) (by decide) rfl rfl rfl ?_
  have p3 := gPo.I 9 0 p2 rfl (show 0 ≤ 0 ∧ 0 ≤ 100 by omega)
  refine jt_aload_n d_GM_expr_17 rfl ?_
  refine gm_gI (k := 5) (v := I 5) d_GM_expr_18 GM_f25 (by decide) rfl ?_
  have rb4 : -13 ≤ I 5 ∧ I 5 ≤ 0 := p3.1 5
  refine jt_if_ne (t := 231) d_GM_expr_21 rfl (by unfold jRi; omega) (fun c5 => ?_) (fun c5 => ?_)
  · skip
    refine jt_aload_n d_GM_expr_231 rfl ?_
    refine jt_iload_n d_GM_expr_232 rfl ?_
    refine gm_pI (k := 13) (v := (I 13)) (J := va_up (va_up (va_up I 14 0) 9 0) 13 (I 13)) d_GM_expr_233 (GM_w49 _ rfl) (by decide) rfl rfl rfl ?_
    have p6 := gPo.I 13 (I 13) p3 rfl (show 0 ≤ I 13 ∧ I 13 ≤ 320 by omega)
    refine jt_aload_n d_GM_expr_236 rfl ?_
    refine gm_gI (k := 5) (v := I 5) d_GM_expr_237 GM_f25 (by decide) rfl ?_
    refine jt_if_eq (t := 244) d_GM_expr_240 rfl (by unfold jRi; omega) (fun c7 => ?_) (fun c7 => ?_)
    · skip
      exfalso
      omega
    · skip
      exact gm_vret d_GM_expr_243 rfl (⟨rfl, p6⟩)
  · skip
    exfalso
    omega
theorem x_GM_expr (G : jG) (d m : Nat) (f : Int) (I : Nat → Int) (A : Nat → Int → Int) (hT : gT I A) (hI : gSI I) (hA : gSA A) (fa : 0 ≤ f) (fb : f < 300) (he : I 5 = 0 → I 13 = 0) (V9 : Int → Int → Int) (hV : gVr V9 A) (g0 : Prop) (r : ER) (hR : I 5 = 0 → EX (I 1) (A 22) (A 23) V9 (I 4) g0 r) (hg0 : I 15 = 0 ↔ g0) : gct G Y_GM_expr (d + 4) m [.int (jI f)] I A (fun (rv : Option Value) (I2 : Nat → Int) (A2 : Nat → Int → Int) => rv = none ∧ gPo [4, 5, 6, 9, 13, 14, 15] [35, 36, 37, 38] I A I2 A2 ∧ (I2 5 = 0 → I 5 = 0 ∧ I 4 < I2 4 ∧ I2 13 = I 13) ∧ (I 5 ≠ 0 → I2 5 = I 5 ∧ I2 6 = I 6) ∧ (I 5 = 0 → exQ r f I2 A2) ∧ (∀ z, z < 3900 → ¬ (f * 13 ≤ z ∧ z < f * 13 + 13) → A2 35 z = A 35 z)) := by
  by_cases hz : I 5 = 0
  · intro f0 sz
    refine jct_mono (y_GM_expr G d m f I A hT hI hA fa fb he hz V9 hV g0 r (fun z => (hR z).1) hg0 f0 sz) (fun rv f' sz' hq => ?_)
    obtain ⟨I', A', e1, e2, e3, e4, e5, e6, e7⟩ := hq
    exact ⟨I', A', e1, e2, e3, e4, e5, fun z => absurd hz z, fun _ => e6, e7⟩
  · intro f0 sz
    refine jct_mono (z_GM_expr G d m f I A hI hA hz f0 sz) (fun rv f' sz' hq => ?_)
    obtain ⟨I', A', e1, e2, e3, e4⟩ := hq
    refine ⟨I', A', e1, e2, e3, ⟨e4.1, e4.2.1, fun k hk => e4.2.2.1 k (sub_c (U := [9, 13, 14]) (V := [4, 5, 6, 9, 13, 14, 15]) rfl k hk), fun k _ => e4.2.2.2 k rfl⟩, fun z => absurd ((e4.2.2.1 5 rfl).symm.trans z) hz, fun _ => ⟨e4.2.2.1 5 rfl, e4.2.2.1 6 rfl⟩, fun z => absurd z hz, fun z _ _ => by rw [e4.2.2.2 35 rfl]⟩
set_option maxRecDepth 100000 in
set_option maxHeartbeats 1000000 in
theorem y_GM_pair (G : jG) (d m : Nat)  (I : Nat → Int) (A : Nat → Int → Int) (hT : gT I A) (hI : gSI I) (hA : gSA A) (hp : 0 ≤ I 11 ∧ I 11 ≤ 74) (hz5 : I 5 = 0) (h13 : I 13 = 0) (V9 : Int → Int → Int) (hV : gVr V9 A) (g0 : Prop) (hg0 : I 15 = 0 ↔ g0) (r : PRs) (hR : PA (I 1) (A 22) (A 23) V9 (I 4) g0 r) : gct G Y_GM_pair (d + 5) m [] I A (fun (rv : Option Value) (I2 : Nat → Int) (A2 : Nat → Int → Int) => rv = none ∧ gPo [4, 5, 6, 9, 11, 13, 14, 15] [35, 36, 37, 38] I A I2 A2 ∧ (I 11 ≤ I2 11 ∧ I2 11 ≤ I 11 + 2 ∧ (¬ I 12 < 13 → I2 11 = I 11) ∧ (I2 5 = 0 → I 4 < I2 4 ∧ I2 13 = 0)) ∧ pQ r I A I2 A2) := by
  refine gct_of (by decide) (Nat.le_of_ble_eq_true rfl) (fun f0 sz => ?_)
  show jt _ 0 [(0, .ref m)] [] _ _ _ _
  have r4 : 0 ≤ I 4 ∧ I 4 ≤ 300 := hI 4
  have r5 : -13 ≤ I 5 ∧ I 5 ≤ 0 := hI 5
  have r13 : 0 ≤ I 13 ∧ I 13 ≤ 320 := hI 13
  have hz0 : gPo [4, 5, 6, 9, 11, 13, 14, 15] [35, 36, 37, 38] I A I A := gPo.refl hI hA
  have t0 := hT.1
  have t1 := hT.2.1
  refine jt_aload_n d_GM_pair_0 rfl ?_
  refine jt_iconst d_GM_pair_1 ?_
  refine gct_call (Y := Y_GM_need) (As := [.int (jI 3)]) (rest := []) d_GM_pair_2 GM_c241 yk_GM_need yv_GM_need rfl (Nat.le_of_ble_eq_true rfl) rfl rfl (Nat.le_of_ble_eq_true rfl) (y_GM_need G _ m 3 I A (gT_of hz0 hT rfl rfl rfl) hz0.1 hz0.2.1 (by unfold jRi; omega)) (fun rvq1 Iq1 Aq1 hq1 => ?_)
  obtain ⟨rfl, hqq1, hxq1⟩ := hq1
  have hpq1 := gPo.trans hz0 hqq1 rfl rfl
  have f1q1 : Iq1 1 = I 1 := hpq1.2.2.1 1 rfl
  have m11q1 : Iq1 11 = I 11 := hqq1.2.2.1 11 rfl
  have m12q1 : Iq1 12 = I 12 := hqq1.2.2.1 12 rfl
  have m13q1 : Iq1 13 = I 13 := hqq1.2.2.1 13 rfl
  replace hxq1 : Hd _ := hxq1
  show jt _ 5 [(0, .ref m)] [] (gmf m f0 Iq1 Aq1) _ _ _
  obtain ⟨r1, hr1, hp1⟩ := pa_1 hR
  have nq3 : Hd (needQ 3 I A Iq1) := hxq1.2.1 hz5
  have n3a : Iq1 5 = 0 → xW (I 1) (A 22) (A 23) (I 4) 3 := fun z => by rcases Classical.em (xV (I 1) (A 22) (A 23) (I 4) 3) with y | y; exact y; exact absurd (nq3.2 y).1 (by omega)
  have n3b : Iq1 5 ≠ 0 → ¬ xW (I 1) (A 22) (A 23) (I 4) 3 ∧ Iq1 5 = -8 ∧ Iq1 6 = I 4 := fun z => by rcases Classical.em (xV (I 1) (A 22) (A 23) (I 4) 3) with y | y; exact absurd (nq3.1 y).1 z; exact ⟨y, (nq3.2 y).1, (nq3.2 y).2.1⟩
  replace n3a : Hd _ := n3a
  replace n3b : Hd _ := n3b
  refine jt_aload_n d_GM_pair_5 rfl ?_
  refine jt_aload_n d_GM_pair_6 rfl ?_
  refine gm_gI (k := 11) (v := Iq1 11) d_GM_pair_7 GM_f43 (by decide) rfl ?_
  have rb2 : 0 ≤ Iq1 11 ∧ Iq1 11 ≤ 76 := hpq1.1 11
  refine gct_call (Y := Y_GM_expr) (As := [.int (jI (Iq1 11))]) (rest := []) d_GM_pair_10 GM_c250 yk_GM_expr yv_GM_expr rfl (Nat.le_of_ble_eq_true rfl) rfl rfl (Nat.le_of_ble_eq_true rfl) (x_GM_expr G _ m (Iq1 11) Iq1 Aq1 (gT_of hpq1 hT rfl rfl rfl) hpq1.1 hpq1.2.1 (by omega) (by omega) (fun _ => show Iq1 13 = 0 by omega) V9 (by unfold gVr; rw [hpq1.2.2.2 30 rfl, hpq1.2.2.2 31 rfl]; exact hV) g0 r1 (fun z => by rw [show Iq1 1 = I 1 from hpq1.2.2.1 1 rfl, hpq1.2.2.2 22 rfl, hpq1.2.2.2 23 rfl]; have h9 := hr1 (n3a z); rw [show Iq1 4 = I 4 + 1 from (hxq1.1 z).2]; exact h9) (by rw [show Iq1 15 = I 15 from hqq1.2.2.1 15 rfl]; exact hg0)) (fun rvq3 Iq3 Aq3 hq3 => ?_)
  obtain ⟨rfl, hqq3, hxq3⟩ := hq3
  have hpq3 := gPo.trans hpq1 hqq3 rfl rfl
  have f1q3 : Iq3 1 = I 1 := hpq3.2.2.1 1 rfl
  have m11q3 : Iq3 11 = Iq1 11 := hqq3.2.2.1 11 rfl
  have m12q3 : Iq3 12 = Iq1 12 := hqq3.2.2.1 12 rfl
  replace hxq3 : Hd _ := hxq3
  show jt _ 13 [(0, .ref m)] [] (gmf m f0 Iq3 Aq3) _ _ _
  obtain ⟨r2, hp3⟩ : ∃ r2 : ER, PA3 (I 1) (A 22) (A 23) V9 r2 r (I 11) Iq3 Aq3 := pa_2 (I0 := I) hp1 n3a n3b hxq3.2.1 (by have h9 := hxq3.2.2.1; rw [m11q1] at h9; exact h9)
  refine jt_aload_n d_GM_pair_13 rfl ?_
  refine jt_iconst d_GM_pair_14 ?_
  refine gct_call (Y := Y_GM_need) (As := [.int (jI 5)]) (rest := []) d_GM_pair_15 GM_c241 yk_GM_need yv_GM_need rfl (Nat.le_of_ble_eq_true rfl) rfl rfl (Nat.le_of_ble_eq_true rfl) (y_GM_need G _ m 5 Iq3 Aq3 (gT_of hpq3 hT rfl rfl rfl) hpq3.1 hpq3.2.1 (by unfold jRi; omega)) (fun rvq4 Iq4 Aq4 hq4 => ?_)
  obtain ⟨rfl, hqq4, hxq4⟩ := hq4
  have hpq4 := gPo.trans hpq3 hqq4 rfl rfl
  have f1q4 : Iq4 1 = I 1 := hpq4.2.2.1 1 rfl
  have m11q4 : Iq4 11 = Iq3 11 := hqq4.2.2.1 11 rfl
  have m12q4 : Iq4 12 = Iq3 12 := hqq4.2.2.1 12 rfl
  have m13q4 : Iq4 13 = Iq3 13 := hqq4.2.2.1 13 rfl
  replace hxq4 : Hd _ := hxq4
  show jt _ 18 [(0, .ref m)] [] (gmf m f0 Iq4 Aq4) _ _ _
  have nq5 : Iq3 5 = 0 → Hd (needQ 5 Iq3 Aq3 Iq4) := hxq4.2.1
  have e5w : ∀ q, Hd (gW Iq3 Aq3 q 5 ↔ xW (I 1) (A 22) (A 23) q 5) := fun q => by show xW (Iq3 1) (Aq3 22) (Aq3 23) q 5 ↔ _; rw [show Iq3 1 = I 1 from hpq3.2.2.1 1 rfl, hpq3.2.2.2 22 rfl, hpq3.2.2.2 23 rfl]
  have n5a : Hd (Iq4 5 = 0 → xW (I 1) (A 22) (A 23) (Iq3 4) 5) := fun z => by have h8 := hxq4.1 z; rcases Classical.em (xV (I 1) (A 22) (A 23) (Iq3 4) 5) with y | y; exact y; exact absurd ((nq5 h8.1).2 (fun q => y ((e5w _).mp q))).1 (by omega)
  have n5b : Hd (Iq4 5 ≠ 0 → r = .err (Iq4 5) (Iq4 6)) := fun z => by
    rcases Classical.em (Iq3 5 = 0) with y | y
    · obtain ⟨F7, _, h7, _⟩ := hp3.1 y
      rcases Classical.em (xV (I 1) (A 22) (A 23) (Iq3 4) 5) with x | x
      · exact absurd ((nq5 y).1 ((e5w _).mpr x)).1 z
      · have h6 := (nq5 y).2 (fun q => x ((e5w _).mp q))
        rw [h6.1, h6.2.1]
        exact h7 x
    · have h6 := hxq4.2.2 y
      rw [h6]
      exact hp3.2 y
  refine jt_aload_n d_GM_pair_18 rfl ?_
  refine gm_gI (k := 5) (v := Iq4 5) d_GM_pair_19 GM_f25 (by decide) rfl ?_
  have rb5 : -13 ≤ Iq4 5 ∧ Iq4 5 ≤ 0 := hpq4.1 5
  refine jt_if_ne (t := 35) d_GM_pair_22 rfl (by unfold jRi; omega) (fun c6 => ?_) (fun c6 => ?_)
  · skip
    refine jt_aload_n d_GM_pair_35 rfl ?_
    refine jt_iconst d_GM_pair_36 ?_
    refine gct_call (Y := Y_GM_need) (As := [.int (jI 4)]) (rest := []) d_GM_pair_37 GM_c241 yk_GM_need yv_GM_need rfl (Nat.le_of_ble_eq_true rfl) rfl rfl (Nat.le_of_ble_eq_true rfl) (y_GM_need G _ m 4 Iq4 Aq4 (gT_of hpq4 hT rfl rfl rfl) hpq4.1 hpq4.2.1 (by unfold jRi; omega)) (fun rvq7 Iq7 Aq7 hq7 => ?_)
    obtain ⟨rfl, hqq7, hxq7⟩ := hq7
    have hpq7 := gPo.trans hpq4 hqq7 rfl rfl
    have f1q7 : Iq7 1 = I 1 := hpq7.2.2.1 1 rfl
    have m11q7 : Iq7 11 = Iq4 11 := hqq7.2.2.1 11 rfl
    have m12q7 : Iq7 12 = Iq4 12 := hqq7.2.2.1 12 rfl
    have m13q7 : Iq7 13 = Iq4 13 := hqq7.2.2.1 13 rfl
    replace hxq7 : Hd _ := hxq7
    show jt _ 40 [(0, .ref m)] [] (gmf m f0 Iq7 Aq7) _ _ _
    refine jt_aload_n d_GM_pair_40 rfl ?_
    refine gm_gI (k := 5) (v := Iq7 5) d_GM_pair_41 GM_f25 (by decide) rfl ?_
    have rb8 : -13 ≤ Iq7 5 ∧ Iq7 5 ≤ 0 := hpq7.1 5
    refine jt_if_eq (t := 48) d_GM_pair_44 rfl (by unfold jRi; omega) (fun c9 => ?_) (fun c9 => ?_)
    · skip
      refine jt_aload_n d_GM_pair_48 rfl ?_
      refine gm_gI (k := 12) (v := Iq7 12) d_GM_pair_49 GM_f46 (by decide) rfl ?_
      have rb10 : 0 ≤ Iq7 12 ∧ Iq7 12 ≤ 300 := hpq7.1 12
      refine jt_bipush d_GM_pair_52 (by omega) ?_
      refine jt_icmp_ge (t := 67) d_GM_pair_54 rfl (by unfold jRi; omega) (by unfold jRi; omega) (fun c11 => ?_) (fun c11 => ?_)
      · skip
        exact gm_vret d_GM_pair_67 rfl (by exfalso; have h9 := congrFun (hxq7.2.2 (by omega)) 5; omega)
      · skip
        refine jt_aload_n d_GM_pair_57 rfl ?_
        refine jt_dup d_GM_pair_58 rfl ?_
        refine gm_gI (k := 11) (v := Iq7 11) d_GM_pair_59 GM_f43 (by decide) rfl ?_
        have rb12 : 0 ≤ Iq7 11 ∧ Iq7 11 ≤ 76 := hpq7.1 11
        refine jt_iconst d_GM_pair_62 ?_
        refine jt_iadd d_GM_pair_63 ?_
        refine jt_topi (fun v13 ev13 => ?_)
        refine gm_pI (k := 11) (v := v13) (J := va_up Iq7 11 v13) d_GM_pair_64 (GM_w43 _ rfl) (by decide) rfl rfl rfl ?_
        have p14 := gPo.I 11 v13 hpq7 rfl (show 0 ≤ v13 ∧ v13 ≤ 76 by omega)
        exact gm_vret d_GM_pair_67 rfl (by exfalso; have h9 := congrFun (hxq7.2.2 (by omega)) 5; omega)
    · skip
      exact gm_vret d_GM_pair_47 rfl (by
        have h4 := hxq7.2.2 (by omega)
        refine ⟨rfl, hpq7, ⟨show I 11 ≤ Iq7 11 by omega, show Iq7 11 ≤ I 11 + 2 by omega, show ¬ I 12 < 13 → Iq7 11 = I 11 by omega, fun z => by exfalso; have h9 := congrFun h4 5; omega⟩, fun z => by exfalso; have h9 := congrFun h4 5; omega, fun z => ?_, fun z hz hf => ?_⟩
        · rw [h4]
          exact n5b (by omega)
        · rw [hqq7.2.2.2 35 rfl, hqq4.2.2.2 35 rfl, hxq3.2.2.2 z hz (by rw [m11q1]; omega), hqq1.2.2.2 35 rfl])
  · skip
    refine jt_aload_n d_GM_pair_25 rfl ?_
    refine jt_aload_n d_GM_pair_26 rfl ?_
    refine gm_gI (k := 11) (v := Iq4 11) d_GM_pair_27 GM_f43 (by decide) rfl ?_
    have rb15 : 0 ≤ Iq4 11 ∧ Iq4 11 ≤ 76 := hpq4.1 11
    refine jt_iconst d_GM_pair_30 ?_
    refine jt_iadd d_GM_pair_31 ?_
    refine gct_call (Y := Y_GM_expr) (As := [.int (jI ((Iq4 11) + 1))]) (rest := []) d_GM_pair_32 GM_c250 yk_GM_expr yv_GM_expr rfl (Nat.le_of_ble_eq_true rfl) rfl rfl (Nat.le_of_ble_eq_true rfl) (x_GM_expr G _ m ((Iq4 11) + 1) Iq4 Aq4 (gT_of hpq4 hT rfl rfl rfl) hpq4.1 hpq4.2.1 (by omega) (by omega) (fun z => by have k9 := hxq3.1 ((hxq4.1 z).1); show Iq4 13 = 0; omega) V9 (by unfold gVr; rw [hpq4.2.2.2 30 rfl, hpq4.2.2.2 31 rfl]; exact hV) (Iq4 15 = 0) r2 (fun z => by rw [show Iq4 1 = I 1 from hpq4.2.2.1 1 rfl, hpq4.2.2.2 22 rfl, hpq4.2.2.2 23 rfl]; have h8 := (hxq4.1 z); obtain ⟨F7, _, _, h7⟩ := hp3.1 h8.1; have h6 := (h7 (n5a z)).1; rw [show Iq4 4 = Iq3 4 + 1 from h8.2, show Iq4 15 = Iq3 15 from hqq4.2.2.1 15 rfl]; exact h6) Iff.rfl) (fun rvq16 Iq16 Aq16 hq16 => ?_)
    obtain ⟨rfl, hqq16, hxq16⟩ := hq16
    have hpq16 := gPo.trans hpq4 hqq16 rfl rfl
    have f1q16 : Iq16 1 = I 1 := hpq16.2.2.1 1 rfl
    have m11q16 : Iq16 11 = Iq4 11 := hqq16.2.2.1 11 rfl
    have m12q16 : Iq16 12 = Iq4 12 := hqq16.2.2.1 12 rfl
    replace hxq16 : Hd _ := hxq16
    show jt _ 35 [(0, .ref m)] [] (gmf m f0 Iq16 Aq16) _ _ _
    refine jt_aload_n d_GM_pair_35 rfl ?_
    refine jt_iconst d_GM_pair_36 ?_
    refine gct_call (Y := Y_GM_need) (As := [.int (jI 4)]) (rest := []) d_GM_pair_37 GM_c241 yk_GM_need yv_GM_need rfl (Nat.le_of_ble_eq_true rfl) rfl rfl (Nat.le_of_ble_eq_true rfl) (y_GM_need G _ m 4 Iq16 Aq16 (gT_of hpq16 hT rfl rfl rfl) hpq16.1 hpq16.2.1 (by unfold jRi; omega)) (fun rvq17 Iq17 Aq17 hq17 => ?_)
    obtain ⟨rfl, hqq17, hxq17⟩ := hq17
    have hpq17 := gPo.trans hpq16 hqq17 rfl rfl
    have f1q17 : Iq17 1 = I 1 := hpq17.2.2.1 1 rfl
    have m11q17 : Iq17 11 = Iq16 11 := hqq17.2.2.1 11 rfl
    have m12q17 : Iq17 12 = Iq16 12 := hqq17.2.2.1 12 rfl
    have m13q17 : Iq17 13 = Iq16 13 := hqq17.2.2.1 13 rfl
    replace hxq17 : Hd _ := hxq17
    show jt _ 40 [(0, .ref m)] [] (gmf m f0 Iq17 Aq17) _ _ _
    refine jt_aload_n d_GM_pair_40 rfl ?_
    refine gm_gI (k := 5) (v := Iq17 5) d_GM_pair_41 GM_f25 (by decide) rfl ?_
    have rb18 : -13 ≤ Iq17 5 ∧ Iq17 5 ≤ 0 := hpq17.1 5
    refine jt_if_eq (t := 48) d_GM_pair_44 rfl (by unfold jRi; omega) (fun c19 => ?_) (fun c19 => ?_)
    · skip
      refine jt_aload_n d_GM_pair_48 rfl ?_
      refine gm_gI (k := 12) (v := Iq17 12) d_GM_pair_49 GM_f46 (by decide) rfl ?_
      have rb20 : 0 ≤ Iq17 12 ∧ Iq17 12 ≤ 300 := hpq17.1 12
      refine jt_bipush d_GM_pair_52 (by omega) ?_
      refine jt_icmp_ge (t := 67) d_GM_pair_54 rfl (by unfold jRi; omega) (by unfold jRi; omega) (fun c21 => ?_) (fun c21 => ?_)
      · skip
        exact gm_vret d_GM_pair_67 rfl (by
        have hz3 : Iq4 5 = 0 := by omega
        have h8 := hxq4.1 hz3
        obtain ⟨F1, hF1, _, h7⟩ := hp3.1 h8.1
        have h6 := h7 (n5a hz3)
        have hex := hxq16.2.2.1 hz3
        have e4w : ∀ q, gW Iq16 Aq16 q 4 ↔ xW (I 1) (A 22) (A 23) q 4 := fun q => by show xW (Iq16 1) (Aq16 22) (Aq16 23) q 4 ↔ _; rw [show Iq16 1 = I 1 from hpq16.2.2.1 1 rfl, hpq16.2.2.2 22 rfl, hpq16.2.2.2 23 rfl]
        have y : Iq16 5 = 0 := (hxq17.1 (by omega)).1
        obtain ⟨q2, F2, g2, hr2, hq2, hg2, _, hv2⟩ := hex.1 y
        have h5 := h6.2.2 q2 F2 g2 hr2
        rw [← hq2] at h5
        have hnq := hxq17.2.1 y
        have x : xW (I 1) (A 22) (A 23) (Iq16 4) 4 := by
          rcases Classical.em (xW (I 1) (A 22) (A 23) (Iq16 4) 4) with x | x
          · exact x
          · exact absurd (hnq.2 (fun q => x ((e4w _).mp q))).1 (by omega)
        have h9 := hnq.1 ((e4w _).mpr x)
        have hmn := EX_mono (by rw [hr2] at h6; exact h6.1)
        refine ⟨rfl, hpq17, ⟨show I 11 ≤ Iq17 11 by omega, show Iq17 11 ≤ I 11 + 2 by omega, show ¬ I 12 < 13 → Iq17 11 = I 11 by omega, fun z => by have k2 := hxq16.1 y; have k1 := hxq3.1 h8.1; have k0 := hxq1.1 k1.1; show I 4 < Iq17 4 ∧ Iq17 13 = 0; omega⟩, fun z => ⟨_, F1, F2, g2, h5.2 x, show Iq17 4 = _ by omega, ?_, fun k => by show Iq17 11 = I 11 + 2; omega, fun k j j0 j1 => ⟨?_, ?_⟩⟩, fun z => absurd (show Iq17 5 = 0 by omega) z, fun z hz hf => ?_⟩
        · show Iq17 15 = 0 ↔ g2
          rw [hqq17.2.2.1 15 rfl]; exact hg2
        · show Aq17 35 _ = _
          rw [hqq17.2.2.2 35 rfl, hxq16.2.2.2 _ (by omega) (by omega), hqq4.2.2.2 35 rfl]
          exact hF1 (hmn k) j j0 j1
        · show Aq17 35 _ = _
          rw [hqq17.2.2.2 35 rfl, show (I 11 + 1) * 13 + j = (Iq4 11 + 1) * 13 + j by omega]
          exact hv2 k j j0 j1
        · show Aq17 35 z = _
          rw [hqq17.2.2.2 35 rfl, hxq16.2.2.2 z hz (by rw [show Iq4 11 = I 11 by omega]; omega), hqq4.2.2.2 35 rfl, hxq3.2.2.2 z hz (by rw [m11q1]; omega), hqq1.2.2.2 35 rfl])
      · skip
        refine jt_aload_n d_GM_pair_57 rfl ?_
        refine jt_dup d_GM_pair_58 rfl ?_
        refine gm_gI (k := 11) (v := Iq17 11) d_GM_pair_59 GM_f43 (by decide) rfl ?_
        have rb22 : 0 ≤ Iq17 11 ∧ Iq17 11 ≤ 76 := hpq17.1 11
        refine jt_iconst d_GM_pair_62 ?_
        refine jt_iadd d_GM_pair_63 ?_
        refine jt_topi (fun v23 ev23 => ?_)
        refine gm_pI (k := 11) (v := v23) (J := va_up Iq17 11 v23) d_GM_pair_64 (GM_w43 _ rfl) (by decide) rfl rfl rfl ?_
        have p24 := gPo.I 11 v23 hpq17 rfl (show 0 ≤ v23 ∧ v23 ≤ 76 by omega)
        exact gm_vret d_GM_pair_67 rfl (by
        have hz3 : Iq4 5 = 0 := by omega
        have h8 := hxq4.1 hz3
        obtain ⟨F1, hF1, _, h7⟩ := hp3.1 h8.1
        have h6 := h7 (n5a hz3)
        have hex := hxq16.2.2.1 hz3
        have e4w : ∀ q, gW Iq16 Aq16 q 4 ↔ xW (I 1) (A 22) (A 23) q 4 := fun q => by show xW (Iq16 1) (Aq16 22) (Aq16 23) q 4 ↔ _; rw [show Iq16 1 = I 1 from hpq16.2.2.1 1 rfl, hpq16.2.2.2 22 rfl, hpq16.2.2.2 23 rfl]
        have y : Iq16 5 = 0 := (hxq17.1 (by omega)).1
        obtain ⟨q2, F2, g2, hr2, hq2, hg2, _, hv2⟩ := hex.1 y
        have h5 := h6.2.2 q2 F2 g2 hr2
        rw [← hq2] at h5
        have hnq := hxq17.2.1 y
        have x : xW (I 1) (A 22) (A 23) (Iq16 4) 4 := by
          rcases Classical.em (xW (I 1) (A 22) (A 23) (Iq16 4) 4) with x | x
          · exact x
          · exact absurd (hnq.2 (fun q => x ((e4w _).mp q))).1 (by omega)
        have h9 := hnq.1 ((e4w _).mpr x)
        have hmn := EX_mono (by rw [hr2] at h6; exact h6.1)
        refine ⟨rfl, p24, ⟨show I 11 ≤ v23 by omega, show v23 ≤ I 11 + 2 by omega, show ¬ I 12 < 13 → v23 = I 11 by omega, fun z => by have k2 := hxq16.1 y; have k1 := hxq3.1 h8.1; have k0 := hxq1.1 k1.1; show I 4 < Iq17 4 ∧ Iq17 13 = 0; omega⟩, fun z => ⟨_, F1, F2, g2, h5.2 x, show Iq17 4 = _ by omega, ?_, fun k => by show v23 = I 11 + 2; omega, fun k j j0 j1 => ⟨?_, ?_⟩⟩, fun z => absurd (show Iq17 5 = 0 by omega) z, fun z hz hf => ?_⟩
        · show Iq17 15 = 0 ↔ g2
          rw [hqq17.2.2.1 15 rfl]; exact hg2
        · show Aq17 35 _ = _
          rw [hqq17.2.2.2 35 rfl, hxq16.2.2.2 _ (by omega) (by omega), hqq4.2.2.2 35 rfl]
          exact hF1 (hmn k) j j0 j1
        · show Aq17 35 _ = _
          rw [hqq17.2.2.2 35 rfl, show (I 11 + 1) * 13 + j = (Iq4 11 + 1) * 13 + j by omega]
          exact hv2 k j j0 j1
        · show Aq17 35 z = _
          rw [hqq17.2.2.2 35 rfl, hxq16.2.2.2 z hz (by rw [show Iq4 11 = I 11 by omega]; omega), hqq4.2.2.2 35 rfl, hxq3.2.2.2 z hz (by rw [m11q1]; omega), hqq1.2.2.2 35 rfl])
    · skip
      exact gm_vret d_GM_pair_47 rfl (by
        have hz3 : Iq4 5 = 0 := by omega
        have h8 := hxq4.1 hz3
        obtain ⟨F1, hF1, _, h7⟩ := hp3.1 h8.1
        have h6 := h7 (n5a hz3)
        have hex := hxq16.2.2.1 hz3
        have e4w : ∀ q, gW Iq16 Aq16 q 4 ↔ xW (I 1) (A 22) (A 23) q 4 := fun q => by show xW (Iq16 1) (Aq16 22) (Aq16 23) q 4 ↔ _; rw [show Iq16 1 = I 1 from hpq16.2.2.1 1 rfl, hpq16.2.2.2 22 rfl, hpq16.2.2.2 23 rfl]
        refine ⟨rfl, hpq17, ⟨show I 11 ≤ Iq17 11 by omega, show Iq17 11 ≤ I 11 + 2 by omega, show ¬ I 12 < 13 → Iq17 11 = I 11 by omega, fun z => absurd z (by omega)⟩, fun z => absurd z (by omega), fun z => ?_, fun z hz hf => ?_⟩
        · by_cases y : Iq16 5 = 0
          · obtain ⟨q2, F2, g2, hr2, hq2, hg2, _, hv2⟩ := hex.1 y
            have h5 := h6.2.2 q2 F2 g2 hr2
            rw [← hq2] at h5
            have hnq := hxq17.2.1 y
            rcases Classical.em (xW (I 1) (A 22) (A 23) (Iq16 4) 4) with x | x
            · exact absurd (hnq.1 ((e4w _).mpr x)).1 z
            · have h9 := hnq.2 (fun q => x ((e4w _).mp q))
              rw [h9.1, h9.2.1]
              exact h5.1 x
          · rw [hxq17.2.2 y]
            exact h6.2.1 _ _ (hex.2 y)
        · rw [hqq17.2.2.2 35 rfl, hxq16.2.2.2 z hz (by rw [show Iq4 11 = I 11 by omega]; omega), hqq4.2.2.2 35 rfl, hxq3.2.2.2 z hz (by rw [m11q1]; omega), hqq1.2.2.2 35 rfl])

set_option maxRecDepth 100000 in
set_option maxHeartbeats 4000000 in
theorem v_GC_macro_x (G : jG) (d b : Nat) (q : Int) (n : Int) (I : Nat → Nat → Int) (A : Nat → Int → Int) (hI : cSI I) (hA : cSA A) (hK : cTok A) (hq : -2147483648 ≤ q ∧ q ≤ 2147483647) (hn : -2147483648 ≤ n ∧ n ≤ 2147483647) : cct G Y_GC_macro (d + 4) b [.ref (b + 0), .int (jI q), .int (jI n)] I A (fun (rv : Option Value) (I2 : Nat → Nat → Int) (A2 : Nat → Int → Int) => ∃ y : Int, rv = some (.int (jI y)) ∧ (-1 ≤ y ∧ y ≤ 0) ∧ cPx [19, 227, 291, 355, 419, 483, 547] [7, 15, 16, 17, 19, 20, 21, 23, 24, 25, 27, 28, 29, 31, 32, 33, 35, 36, 37] I A I2 A2 ∧ cTok A2 ∧ (((q < 0 ∨ 5 < q ∨ n < 0 ∨ 3 < n ∨ 40 < I 1 3) ∨ cRef (A 2) (A 3) (I 1 3) n) → y = -1 ∧ I2 = I ∧ A2 = A) ∧ (¬ ((q < 0 ∨ 5 < q ∨ n < 0 ∨ 3 < n ∨ 40 < I 1 3) ∨ cRef (A 2) (A 3) (I 1 3) n) → y = 0 ∧ I2 1 3 = 0 ∧ mDf q n I A I2 A2)) := by
  refine cct_of (by decide) (Nat.le_of_ble_eq_true rfl) (fun f0 sz => ?_)
  show jt _ 0 [(0, .ref (b + 0)), (1, .int (jI q)), (2, .int (jI n))] [] _ _ _ _
  have r13 : 0 ≤ I 1 3 ∧ I 1 3 ≤ 120 := hI 1 3
  have hz0 : cPx [19, 227, 291, 355, 419, 483, 547] [7, 15, 16, 17, 19, 20, 21, 23, 24, 25, 27, 28, 29, 31, 32, 33, 35, 36, 37] I A I A := cPx.refl hI hA
  refine jt_iload_n d_GC_macro_0 rfl ?_
  refine jt_bipush d_GC_macro_1 (by omega) ?_
  refine cct_callS (Y := Y_GC_isBelow) (As := [.int (jI q), .int (jI 6)]) (rest := []) d_GC_macro_3 GC_c72 yk_GC_isBelow ys_GC_isBelow (Nat.le_of_ble_eq_true rfl) rfl rfl (Nat.le_of_ble_eq_true rfl) (v_GC_isBelow_x G _ b q 6 I A hz0.1 hz0.2.1 (by omega) (by omega)) (fun rvq1 Iq1 Aq1 hq1 => ?_)
  obtain ⟨yq1, rfl, ryq1, hIq1, hAq1, hxq1⟩ := hq1
  rw [hIq1, hAq1]
  by_cases gbq1 : yq1 = 1
  · skip
    obtain rfl : yq1 = 1 := by omega
    have hwq1 := hxq1.1 rfl
    show jt _ 6 [(0, .ref (b + 0)), (1, .int (jI q)), (2, .int (jI n))] [.int (jI 1)] (cmf b f0 I A) _ _ _
    refine jt_if_eq (t := 17) d_GC_macro_6 rfl (by unfold jRi; omega) (fun c2 => ?_) (fun c2 => ?_)
    · skip
      exfalso
      omega
    · skip
      refine jt_iload_n d_GC_macro_9 rfl ?_
      refine jt_iconst d_GC_macro_10 ?_
      refine cct_callS (Y := Y_GC_isBelow) (As := [.int (jI n), .int (jI 4)]) (rest := []) d_GC_macro_11 GC_c72 yk_GC_isBelow ys_GC_isBelow (Nat.le_of_ble_eq_true rfl) rfl rfl (Nat.le_of_ble_eq_true rfl) (v_GC_isBelow_x G _ b n 4 I A hz0.1 hz0.2.1 (by omega) (by omega)) (fun rvq3 Iq3 Aq3 hq3 => ?_)
      obtain ⟨yq3, rfl, ryq3, hIq3, hAq3, hxq3⟩ := hq3
      rw [hIq3, hAq3]
      by_cases gbq3 : yq3 = 1
      · skip
        obtain rfl : yq3 = 1 := by omega
        have hwq3 := hxq3.1 rfl
        show jt _ 14 [(0, .ref (b + 0)), (1, .int (jI q)), (2, .int (jI n))] [.int (jI 1)] (cmf b f0 I A) _ _ _
        refine jt_if_ne (t := 19) d_GC_macro_14 rfl (by unfold jRi; omega) (fun c4 => ?_) (fun c4 => ?_)
        · skip
          refine jt_aload_n d_GC_macro_19 rfl ?_
          refine cm_get (k := 0) (v := .ref (b + 1)) d_GC_macro_20 GC_f14 (by decide) cc_0 rfl ?_
          refine cm_get (k := 1) (v := .int (jI (I 1 3))) d_GC_macro_23 GC_f65 (by decide) (cc_1 rfl) rfl ?_
          have rb5 : 0 ≤ I 1 3 ∧ I 1 3 ≤ 120 := hz0.1 1 3
          refine jt_bipush d_GC_macro_26 (by omega) ?_
          refine jt_icmp_gt (t := 42) d_GC_macro_28 rfl (by unfold jRi; omega) (by unfold jRi; omega) (fun c6 => ?_) (fun c6 => ?_)
          · skip
            refine jt_iconst d_GC_macro_42 ?_
            exact cm_ret d_GC_macro_43 rfl rfl (⟨-1, rfl, by omega, hz0, hK, fun _ => ⟨rfl, rfl, rfl⟩, fun z => absurd (Or.inl (by omega)) z⟩)
          · skip
            refine jt_aload_n d_GC_macro_31 rfl ?_
            refine cm_get (k := 0) (v := .ref (b + 1)) d_GC_macro_32 GC_f14 (by decide) cc_0 rfl ?_
            refine cct_callV (Y := Y_TR_greatestArgument) (ci := 0) (k := 1) (As := []) (rest := []) d_GC_macro_35 GC_c75 yk_TR_greatestArgument yv_TR_greatestArgument rfl (Nat.le_of_ble_eq_true rfl) (by decide) (cc_1 rfl) rfl rfl (Nat.le_of_ble_eq_true rfl) (v_TR_greatestArgument_x G _ b I A hz0.1 hz0.2.1) (fun rvq7 Iq7 Aq7 hq7 => ?_)
            obtain ⟨yq7, rfl, ryq7, hIq7, hAq7, hxq7⟩ := hq7
            rw [hIq7, hAq7]
            show jt _ 38 [(0, .ref (b + 0)), (1, .int (jI q)), (2, .int (jI n))] [.int (jI yq7)] (cmf b f0 I A) _ _ _
            refine jt_iload_n d_GC_macro_38 rfl ?_
            refine jt_icmp_lt (t := 44) d_GC_macro_39 rfl (by unfold jRi; omega) (by unfold jRi; omega) (fun c8 => ?_) (fun c8 => ?_)
            · skip
              refine jt_aload_n d_GC_macro_44 rfl ?_
              refine cm_get (k := 0) (v := .ref (b + 5)) d_GC_macro_45 GC_f21 (by decide) cc_0 rfl ?_
              refine jt_iload_n d_GC_macro_48 rfl ?_
              refine jt_iload_n d_GC_macro_49 rfl ?_
              refine jt_aload_n d_GC_macro_50 rfl ?_
              refine cm_get (k := 0) (v := .ref (b + 1)) d_GC_macro_51 GC_f14 (by decide) cc_0 rfl ?_
              refine cct_callV (Y := Y_EX_define) (ci := 1) (k := 5) (As := [.int (jI q), .int (jI n), .ref (b + 1)]) (rest := []) d_GC_macro_54 GC_c79 yk_EX_define yv_EX_define rfl (Nat.le_of_ble_eq_true rfl) (by decide) cc_2 rfl rfl (Nat.le_of_ble_eq_true rfl) (v_EX_define_x G _ b q n I A hz0.1 hz0.2.1 hK (by omega) (by omega) (by omega)) (fun rvq9 Iq9 Aq9 hq9 => ?_)
              obtain ⟨rfl, hqq9, hxq9⟩ := hq9
              have hpq9 := cPx.trans hz0 hqq9 rfl rfl
              show jt _ 57 [(0, .ref (b + 0)), (1, .int (jI q)), (2, .int (jI n))] [] (cmf b f0 Iq9 Aq9) _ _ _
              refine jt_aload_n d_GC_macro_57 rfl ?_
              refine cm_get (k := 0) (v := .ref (b + 1)) d_GC_macro_58 GC_f14 (by decide) cc_0 rfl ?_
              refine jt_iconst d_GC_macro_61 ?_
              refine cm_put (k := 1) (j := 3) (v := 0) d_GC_macro_62 (GC_w65 _ rfl) (by decide) (cc_1 rfl) rfl rfl (Nat.le_of_ble_eq_true rfl) rfl ?_
              have p10 := cPx.I 1 3 0 hpq9 rfl (show 0 ≤ 0 ∧ 0 ≤ 120 by omega)
              refine jt_iconst d_GC_macro_65 ?_
              exact cm_ret d_GC_macro_66 rfl rfl (⟨0, rfl, by omega, p10, hxq9.1, fun z => by exfalso; rcases z with z | z; omega; exact cRef_n hxq7.2 (by omega) z, fun _ => ⟨rfl, rfl, mDf_I hxq9.2⟩⟩)
            · skip
              refine jt_iconst d_GC_macro_42 ?_
              exact cm_ret d_GC_macro_43 rfl rfl (⟨-1, rfl, by omega, hz0, hK, fun _ => ⟨rfl, rfl, rfl⟩, fun z => absurd (Or.inr (cRef_y hxq7.1 (by omega) (by omega))) z⟩)
        · skip
          exfalso
          omega
      · skip
        obtain rfl : yq3 = 0 := by omega
        have hwq3 := hxq3.2 rfl
        show jt _ 14 [(0, .ref (b + 0)), (1, .int (jI q)), (2, .int (jI n))] [.int (jI 0)] (cmf b f0 I A) _ _ _
        refine jt_if_ne (t := 19) d_GC_macro_14 rfl (by unfold jRi; omega) (fun c11 => ?_) (fun c11 => ?_)
        · skip
          exfalso
          omega
        · skip
          refine jt_iconst d_GC_macro_17 ?_
          exact cm_ret d_GC_macro_18 rfl rfl (⟨-1, rfl, by omega, hz0, hK, fun _ => ⟨rfl, rfl, rfl⟩, fun z => absurd (Or.inl (by omega)) z⟩)
  · skip
    obtain rfl : yq1 = 0 := by omega
    have hwq1 := hxq1.2 rfl
    show jt _ 6 [(0, .ref (b + 0)), (1, .int (jI q)), (2, .int (jI n))] [.int (jI 0)] (cmf b f0 I A) _ _ _
    refine jt_if_eq (t := 17) d_GC_macro_6 rfl (by unfold jRi; omega) (fun c12 => ?_) (fun c12 => ?_)
    · skip
      refine jt_iconst d_GC_macro_17 ?_
      exact cm_ret d_GC_macro_18 rfl rfl (⟨-1, rfl, by omega, hz0, hK, fun _ => ⟨rfl, rfl, rfl⟩, fun z => absurd (Or.inl (by omega)) z⟩)
    · skip
      exfalso
      omega
set_option maxRecDepth 100000 in
set_option maxHeartbeats 4000000 in
theorem l2_VA_free_xv (G : jG) (d b : Nat)  (I : Nat → Nat → Int) (A : Nat → Int → Int) (hI : cSI I) (hA : cSA A) (f0 : jF) (sz : Nat)   : ∀ (n9 : Nat) (v : Int) (J : Nat → Nat → Int) (B : Nat → Int → Int), cPf [] tV43 I A J B → (0 ≤ v ∧ v ≤ 12) → (∀ u, 0 ≤ u → u < v → B 44 u = 0 ∧ ∀ z, 0 ≤ z → z < 13 → B (47 + 2 * u.toNat) z = if z = u then 65536 else 0) → 12 - v < (n9 : Int) → jt (jm G Y_VA_free (gR (d + 1)) (cQ b f0 sz (fun (rv : Option Value) (I2 : Nat → Nat → Int) (A2 : Nat → Int → Int) => rv = none ∧ cPf [] tV43 I A I2 A2 ∧ ∀ u, 0 ≤ u → u < 12 → A2 44 u = 0 ∧ ∀ z, 0 ≤ z → z < 13 → A2 (47 + 2 * u.toNat) z = if z = u then 65536 else 0))) 2 [(0, .ref (b + 43)), (1, .int (jI v))] [] (cmf b f0 J B) sz 0 0 := by
  intro n9
  induction n9 with
  | zero =>
    intro v J B hJ v0 hc hmeas
    exfalso
    omega
  | succ n9 ih =>
    intro v J B hJ v0 hc hmeas
    refine jt_iload_n d_VA_free_2 rfl ?_
    refine jt_bipush d_VA_free_3 (by omega) ?_
    refine jt_icmp_ge (t := 34) d_VA_free_5 rfl (by unfold jRi; omega) (by unfold jRi; omega) (fun c101 => ?_) (fun c101 => ?_)
    · skip
      exact cm_vret d_VA_free_34 rfl (⟨rfl, hJ, fun u a c => hc u a (by omega)⟩)
    · skip
      refine jt_aload_n d_VA_free_8 rfl ?_
      refine cm_get (k := 43) (v := .ref (b + 44)) d_VA_free_9 VA_f9 (by decide) (cc_4 rfl) rfl ?_
      refine jt_iload_n d_VA_free_12 rfl ?_
      refine jt_iconst d_VA_free_13 ?_
      refine cm_st0 (k := 44) (n := 12) (v := 0) d_VA_free_14 (by decide) rfl rfl (by omega) (by omega) (by omega) ?_
      have p102 := cPf.A 44 (ju (B 44) v 0) hJ (Or.inl rfl) (gju (hJ.2.1 44) (show -2147483648 ≤ 0 ∧ 0 ≤ 2147483647 by omega))
      refine jt_aload_n d_VA_free_15 rfl ?_
      refine cm_get (k := 43) (v := .ref (b + 45)) d_VA_free_16 VA_f21 (by decide) (cc_4 rfl) rfl ?_
      refine jt_iload_n d_VA_free_19 rfl ?_
      refine cm_ldF (k := 45) (n := 12) (z := v) d_VA_free_20 (by decide) rfl rfl (by omega) (by omega) (by omega) ?_
      have hfq103 := form_at 45 (by decide) rfl (v : Int).toNat (show (v : Int).toNat < 12 by omega)
      obtain ⟨q103, eqq103⟩ : ∃ q9 : Nat, q9 = 45 + 1 + 2 * (v : Int).toNat := ⟨_, rfl⟩
      rw [← eqq103] at hfq103 ⊢
      have fpq103 := form_parts q103 hfq103.2 hfq103.1
      have glq103 := eLong hfq103.2 hfq103.1
      refine jt_iload_n d_VA_free_21 rfl ?_
      refine jt_ldc2 (z := 65536) d_VA_free_22 VA_k33 ?_
      refine cct_callV (Y := Y_FO_set) (ci := 4) (k := q103) (As := [.int (jI v), .long (jL 65536)]) (rest := []) d_VA_free_25 VA_c35 yk_FO_set yv_FO_set rfl (Nat.le_of_ble_eq_true rfl) hfq103.2 (cc_5 hfq103.1) rfl rfl (Nat.le_of_ble_eq_true rfl) (v_FO_set_x G _ b q103 v 65536 J (va_up B 44 (ju (B 44) v 0)) p102.1 p102.2.1 hfq103.2 hfq103.1 (by omega) (by omega)) (fun rvq104 Iq104 Aq104 hq104 => ?_)
      obtain ⟨rfl, hqq104, hxq104⟩ := hq104
      have hpq104 := cPf.transx p102 hqq104 rfl (tv_in3 (by omega) (by omega))
      have g1 : Aq104 44 = ju (B 44) v 0 := hqq104.2.2.2 44 (ctn1 (by omega)) trivial
      have g2 : ∀ k, k ≠ q103 + 1 → k ≠ 44 → Aq104 k = B k := fun k h1 h2 => (hqq104.2.2.2 k (ctn1 h1) trivial).trans (va_up_ne _ _ h2)
      have g3 : ∀ z, 0 ≤ z → z < 13 → Aq104 (q103 + 1) z = if z = v then 65536 else 0 := hxq104
      show jt _ 28 [(0, .ref (b + 43)), (1, .int (jI v))] [] (cmf b f0 Iq104 Aq104) _ _ _
      refine jt_iinc (L' := [(0, .ref (b + 43)), (1, .int (jI (v + 1)))]) d_VA_free_28 rfl (Nat.le_of_ble_eq_true rfl) rfl ?_
      refine jt_goto (t := 2) d_VA_free_31 rfl ?_
      exact ih (v + 1) Iq104 Aq104 hpq104 (by omega) (fun u a c => by rcases Classical.em (u = v) with e9 | e9; exact (by rw [e9]; exact ⟨by rw [g1, ju_self], fun z z0 z1 => by rw [show 47 + 2 * v.toNat = q103 + 1 by omega]; exact g3 z z0 z1⟩); exact ⟨by rw [g1, ju_ne _ _ e9]; exact (hc u a (by omega)).1, fun z z0 z1 => by rw [g2 _ (by omega) (by omega)]; exact (hc u a (by omega)).2 z z0 z1⟩) (by omega)
set_option maxRecDepth 100000 in
set_option maxHeartbeats 4000000 in
theorem v_VA_free_x (G : jG) (d b : Nat)  (I : Nat → Nat → Int) (A : Nat → Int → Int) (hI : cSI I) (hA : cSA A) : cct G Y_VA_free (d + 1) b [.ref (b + 43)] I A (fun (rv : Option Value) (I2 : Nat → Nat → Int) (A2 : Nat → Int → Int) => rv = none ∧ cPf [] tV43 I A I2 A2 ∧ ∀ u, 0 ≤ u → u < 12 → A2 44 u = 0 ∧ ∀ z, 0 ≤ z → z < 13 → A2 (47 + 2 * u.toNat) z = if z = u then 65536 else 0) := by
  refine cct_of (by decide) (Nat.le_of_ble_eq_true rfl) (fun f0 sz => ?_)
  show jt _ 0 [(0, .ref (b + 43))] [] _ _ _ _
  have hz0 : cPf [] tV43 I A I A := cPf.refl hI hA
  refine jt_iconst d_VA_free_0 ?_
  refine jt_istore_n (L' := [(0, .ref (b + 43)), (1, .int (jI 0))]) d_VA_free_1 (Nat.le_of_ble_eq_true rfl) rfl ?_
  exact l2_VA_free_xv G d b  I A hI hA f0 sz  13 0 I A hz0 (by omega) (fun u a c => by omega) (by omega)
set_option maxRecDepth 100000 in
set_option maxHeartbeats 4000000 in
theorem v_GC_forget_x (G : jG) (d b : Nat)  (I : Nat → Nat → Int) (A : Nat → Int → Int) (hI : cSI I) (hA : cSA A) : cct G Y_GC_forget (d + 2) b [.ref (b + 0)] I A (fun (rv : Option Value) (I2 : Nat → Nat → Int) (A2 : Nat → Int → Int) => ∃ y : Int, rv = some (.int (jI y)) ∧ (y = 0) ∧ cPf [] tV43 I A I2 A2 ∧ ∀ u, 0 ≤ u → u < 12 → A2 44 u = 0 ∧ ∀ z, 0 ≤ z → z < 13 → A2 (47 + 2 * u.toNat) z = if z = u then 65536 else 0) := by
  refine cct_of (by decide) (Nat.le_of_ble_eq_true rfl) (fun f0 sz => ?_)
  show jt _ 0 [(0, .ref (b + 0))] [] _ _ _ _
  have hz0 : cPf [] tV43 I A I A := cPf.refl hI hA
  refine jt_aload_n d_GC_forget_0 rfl ?_
  refine cm_get (k := 0) (v := .ref (b + 38)) d_GC_forget_1 GC_f28 (by decide) cc_0 rfl ?_
  refine cm_get (k := 38) (v := .ref (b + 43)) d_GC_forget_4 GC_f140 (by decide) cc_3 rfl ?_
  refine cct_callV (Y := Y_VA_free) (ci := 3) (k := 43) (As := []) (rest := []) d_GC_forget_7 GC_c172 yk_VA_free yv_VA_free rfl (Nat.le_of_ble_eq_true rfl) (by decide) (cc_4 rfl) rfl rfl (Nat.le_of_ble_eq_true rfl) (v_VA_free_x G _ b I A hz0.1 hz0.2.1) (fun rvq1 Iq1 Aq1 hq1 => ?_)
  obtain ⟨rfl, hqq1, hxq1⟩ := hq1
  have hpq1 := cPf.trans hz0 hqq1 rfl (fun _ h9 => h9)
  show jt _ 10 [(0, .ref (b + 0))] [] (cmf b f0 Iq1 Aq1) _ _ _
  refine jt_iconst d_GC_forget_10 ?_
  exact cm_ret d_GC_forget_11 rfl rfl (⟨0, rfl, rfl, hpq1, hxq1⟩)
set_option maxRecDepth 100000 in
set_option maxHeartbeats 4000000 in
theorem l2_PI_whiten_xv (G : jG) (d b : Nat)  (I : Nat → Nat → Int) (A : Nat → Int → Int) (hI : cSI I) (hA : cSA A) (f0 : jF) (sz : Nat)   : ∀ (n9 : Nat) (p : Int) (J : Nat → Nat → Int) (B : Nat → Int → Int), cPx [] [469] I A J B → (0 ≤ p ∧ p ≤ 768) → (∀ u, 0 ≤ u → u < p → B 469 u = 0) → 768 - p < (n9 : Int) → jt (jm G Y_PI_whiten (gR d) (cQ b f0 sz (fun (rv : Option Value) (I2 : Nat → Nat → Int) (A2 : Nat → Int → Int) => rv = none ∧ cPx [] [469] I A I2 A2 ∧ ∀ u, 0 ≤ u → u < 768 → A2 469 u = 0))) 2 [(0, .ref (b + 468)), (1, .int (jI p))] [] (cmf b f0 J B) sz 0 0 := by
  intro n9
  induction n9 with
  | zero =>
    intro p J B hJ p0 hc hmeas
    exfalso
    omega
  | succ n9 ih =>
    intro p J B hJ p0 hc hmeas
    refine jt_iload_n d_PI_whiten_2 rfl ?_
    refine jt_aload_n d_PI_whiten_3 rfl ?_
    refine cm_get (k := 468) (v := .ref (b + 469)) d_PI_whiten_4 PI_f9 (by decide) cc_7 rfl ?_
    refine cm_len (k := 469) (n := 768) d_PI_whiten_7 jTy_2 (by decide) (cc_10 rfl rfl) ?_
    refine jt_icmp_ge (t := 24) d_PI_whiten_8 rfl (by unfold jRi; omega) (by unfold jRi; omega) (fun c101 => ?_) (fun c101 => ?_)
    · skip
      exact cm_vret d_PI_whiten_24 rfl (⟨rfl, hJ, fun u a c => hc u a (by omega)⟩)
    · skip
      refine jt_aload_n d_PI_whiten_11 rfl ?_
      refine cm_get (k := 468) (v := .ref (b + 469)) d_PI_whiten_12 PI_f9 (by decide) cc_7 rfl ?_
      refine jt_iload_n d_PI_whiten_15 rfl ?_
      refine jt_iconst d_PI_whiten_16 ?_
      refine cm_st2 (k := 469) (n := 768) (v := 0) d_PI_whiten_17 (by decide) rfl rfl (by omega) (by omega) (by omega) (by omega) ?_
      have p102 := cPx.A 469 (ju (B 469) p 0) hJ (Or.inl rfl) (gju (hJ.2.1 469) (show 0 ≤ 0 ∧ 0 ≤ 1 by omega))
      refine jt_iinc (L' := [(0, .ref (b + 468)), (1, .int (jI (p + 1)))]) d_PI_whiten_18 rfl (Nat.le_of_ble_eq_true rfl) rfl ?_
      refine jt_goto (t := 2) d_PI_whiten_21 rfl ?_
      exact ih (p + 1) J (va_up B 469 (ju (B 469) p 0)) p102 (by omega) (fun u a c => by show ju (B 469) p 0 u = 0; rcases Classical.em (u = p) with e9 | e9; exact (by rw [e9, ju_self]); exact (by rw [ju_ne _ _ e9]; exact hc u a (by omega))) (by omega)
set_option maxRecDepth 100000 in
set_option maxHeartbeats 4000000 in
theorem v_PI_whiten_x (G : jG) (d b : Nat)  (I : Nat → Nat → Int) (A : Nat → Int → Int) (hI : cSI I) (hA : cSA A) : cct G Y_PI_whiten d b [.ref (b + 468)] I A (fun (rv : Option Value) (I2 : Nat → Nat → Int) (A2 : Nat → Int → Int) => rv = none ∧ cPx [] [469] I A I2 A2 ∧ ∀ u, 0 ≤ u → u < 768 → A2 469 u = 0) := by
  refine cct_of (by decide) (Nat.le_of_ble_eq_true rfl) (fun f0 sz => ?_)
  show jt _ 0 [(0, .ref (b + 468))] [] _ _ _ _
  have hz0 : cPx [] [469] I A I A := cPx.refl hI hA
  refine jt_iconst d_PI_whiten_0 ?_
  refine jt_istore_n (L' := [(0, .ref (b + 468)), (1, .int (jI 0))]) d_PI_whiten_1 (Nat.le_of_ble_eq_true rfl) rfl ?_
  exact l2_PI_whiten_xv G d b  I A hI hA f0 sz  769 0 I A hz0 (by omega) (fun u a c => by omega) (by omega)
set_option maxRecDepth 100000 in
set_option maxHeartbeats 4000000 in
theorem v_GC_clean_x (G : jG) (d b : Nat)  (I : Nat → Nat → Int) (A : Nat → Int → Int) (hI : cSI I) (hA : cSA A) : cct G Y_GC_clean (d + 1) b [.ref (b + 0)] I A (fun (rv : Option Value) (I2 : Nat → Nat → Int) (A2 : Nat → Int → Int) => ∃ y : Int, rv = some (.int (jI y)) ∧ (y = 0) ∧ cPx [] [469] I A I2 A2 ∧ ∀ u, 0 ≤ u → u < 768 → A2 469 u = 0) := by
  refine cct_of (by decide) (Nat.le_of_ble_eq_true rfl) (fun f0 sz => ?_)
  show jt _ 0 [(0, .ref (b + 0))] [] _ _ _ _
  have hz0 : cPx [] [469] I A I A := cPx.refl hI hA
  refine jt_aload_n d_GC_clean_0 rfl ?_
  refine cm_get (k := 0) (v := .ref (b + 468)) d_GC_clean_1 GC_f49 (by decide) cc_0 rfl ?_
  refine cct_callV (Y := Y_PI_whiten) (ci := 6) (k := 468) (As := []) (rest := []) d_GC_clean_4 GC_c175 yk_PI_whiten yv_PI_whiten rfl (Nat.le_of_ble_eq_true rfl) (by decide) cc_7 rfl rfl (Nat.le_of_ble_eq_true rfl) (v_PI_whiten_x G _ b I A hz0.1 hz0.2.1) (fun rvq1 Iq1 Aq1 hq1 => ?_)
  obtain ⟨rfl, hqq1, hxq1⟩ := hq1
  have hpq1 := cPx.trans hz0 hqq1 rfl rfl
  show jt _ 7 [(0, .ref (b + 0))] [] (cmf b f0 Iq1 Aq1) _ _ _
  refine jt_iconst d_GC_clean_7 ?_
  exact cm_ret d_GC_clean_8 rfl rfl (⟨0, rfl, rfl, hpq1, hxq1⟩)
set_option maxRecDepth 100000 in
set_option maxHeartbeats 4000000 in
theorem v_GC_place_x (G : jG) (d b : Nat)  (I : Nat → Nat → Int) (A : Nat → Int → Int) (hI : cSI I) (hA : cSA A) : cct G Y_GC_place d b [.ref (b + 0)] I A (fun (rv : Option Value) (I2 : Nat → Nat → Int) (A2 : Nat → Int → Int) => ∃ y : Int, rv = some (.int (jI y)) ∧ (-2147483648 ≤ y ∧ y ≤ 2147483647) ∧ I2 = I ∧ A2 = A ∧ y = I 0 9) := by
  refine cct_of (by decide) (Nat.le_of_ble_eq_true rfl) (fun f0 sz => ?_)
  show jt _ 0 [(0, .ref (b + 0))] [] _ _ _ _
  have hz0 : cPx [] [] I A I A := cPx.refl hI hA
  refine jt_aload_n d_GC_place_0 rfl ?_
  refine cm_get (k := 0) (v := .int (jI (I 0 9))) d_GC_place_1 GC_f57 (by decide) cc_0 rfl ?_
  have rb1 : -2147483648 ≤ I 0 9 ∧ I 0 9 ≤ 2147483647 := hz0.1 0 9
  exact cm_ret d_GC_place_4 rfl rfl (⟨I 0 9, rfl, by omega, rfl, rfl, rfl⟩)
set_option maxRecDepth 100000 in
set_option maxHeartbeats 4000000 in
theorem v_GC_state_x (G : jG) (d b : Nat) (v : Int) (I : Nat → Nat → Int) (A : Nat → Int → Int) (hI : cSI I) (hA : cSA A) (hv : -2147483648 ≤ v ∧ v ≤ 2147483647) : cct G Y_GC_state (d + 1) b [.ref (b + 0), .int (jI v)] I A (fun (rv : Option Value) (I2 : Nat → Nat → Int) (A2 : Nat → Int → Int) => ∃ y : Int, rv = some (.int (jI y)) ∧ (-2147483648 ≤ y ∧ y ≤ 2147483647) ∧ I2 = I ∧ A2 = A ∧ y = if v < 0 ∨ 11 < v then -1 else A 44 v) := by
  refine cct_of (by decide) (Nat.le_of_ble_eq_true rfl) (fun f0 sz => ?_)
  show jt _ 0 [(0, .ref (b + 0)), (1, .int (jI v))] [] _ _ _ _
  have hz0 : cPx [] [] I A I A := cPx.refl hI hA
  refine jt_iload_n d_GC_state_0 rfl ?_
  refine jt_bipush d_GC_state_1 (by omega) ?_
  refine cct_callS (Y := Y_GC_isBelow) (As := [.int (jI v), .int (jI 12)]) (rest := []) d_GC_state_3 GC_c72 yk_GC_isBelow ys_GC_isBelow (Nat.le_of_ble_eq_true rfl) rfl rfl (Nat.le_of_ble_eq_true rfl) (v_GC_isBelow_x G _ b v 12 I A hz0.1 hz0.2.1 (by omega) (by omega)) (fun rvq1 Iq1 Aq1 hq1 => ?_)
  obtain ⟨yq1, rfl, ryq1, hIq1, hAq1, hxq1⟩ := hq1
  rw [hIq1, hAq1]
  by_cases gbq1 : yq1 = 1
  · skip
    obtain rfl : yq1 = 1 := by omega
    have hwq1 := hxq1.1 rfl
    show jt _ 6 [(0, .ref (b + 0)), (1, .int (jI v))] [.int (jI 1)] (cmf b f0 I A) _ _ _
    refine jt_if_eq (t := 24) d_GC_state_6 rfl (by unfold jRi; omega) (fun c2 => ?_) (fun c2 => ?_)
    · skip
      exfalso
      omega
    · skip
      refine jt_aload_n d_GC_state_9 rfl ?_
      refine cm_get (k := 0) (v := .ref (b + 38)) d_GC_state_10 GC_f28 (by decide) cc_0 rfl ?_
      refine cm_get (k := 38) (v := .ref (b + 43)) d_GC_state_13 GC_f140 (by decide) cc_3 rfl ?_
      refine cm_get (k := 43) (v := .ref (b + 44)) d_GC_state_16 GC_f178 (by decide) (cc_4 rfl) rfl ?_
      refine jt_iload_n d_GC_state_19 rfl ?_
      refine cm_ld0 (k := 44) (n := 12) (v := (A 44) v) d_GC_state_20 (by decide) rfl rfl (by omega) (by omega) (by omega) rfl ?_
      refine jt_topi (fun v3 ev3 => ?_)
      have bv3 : -2147483648 ≤ v3 ∧ v3 ≤ 2147483647 := by rw [ev3]; exact hz0.2.1 44 v
      refine jt_goto (t := 25) d_GC_state_21 rfl ?_
      exact cm_ret d_GC_state_25 rfl rfl (⟨v3, rfl, by omega, rfl, rfl, by rw [if_neg (by omega), ev3]⟩)
  · skip
    obtain rfl : yq1 = 0 := by omega
    have hwq1 := hxq1.2 rfl
    show jt _ 6 [(0, .ref (b + 0)), (1, .int (jI v))] [.int (jI 0)] (cmf b f0 I A) _ _ _
    refine jt_if_eq (t := 24) d_GC_state_6 rfl (by unfold jRi; omega) (fun c4 => ?_) (fun c4 => ?_)
    · skip
      refine jt_iconst d_GC_state_24 ?_
      exact cm_ret d_GC_state_25 rfl rfl (⟨-1, rfl, by omega, rfl, rfl, by rw [if_pos (by omega)]⟩)
    · skip
      exfalso
      omega
set_option maxRecDepth 100000 in
set_option maxHeartbeats 4000000 in
theorem v_GC_number_x (G : jG) (d b : Nat) (v : Int) (I : Nat → Nat → Int) (A : Nat → Int → Int) (hI : cSI I) (hA : cSA A) (hv : -2147483648 ≤ v ∧ v ≤ 2147483647) : cct G Y_GC_number (d + 1) b [.ref (b + 0), .int (jI v)] I A (fun (rv : Option Value) (I2 : Nat → Nat → Int) (A2 : Nat → Int → Int) => ∃ y : Int, rv = some (.long (jL y)) ∧ (-9223372036854775808 ≤ y ∧ y ≤ 9223372036854775807) ∧ I2 = I ∧ A2 = A ∧ y = if v < 0 ∨ 11 < v ∨ A 44 v = 0 then 1000000000000000 else cV A v 12) := by
  refine cct_of (by decide) (Nat.le_of_ble_eq_true rfl) (fun f0 sz => ?_)
  show jt _ 0 [(0, .ref (b + 0)), (1, .int (jI v))] [] _ _ _ _
  have hz0 : cPx [] [] I A I A := cPx.refl hI hA
  refine jt_iload_n d_GC_number_0 rfl ?_
  refine jt_bipush d_GC_number_1 (by omega) ?_
  refine cct_callS (Y := Y_GC_isBelow) (As := [.int (jI v), .int (jI 12)]) (rest := []) d_GC_number_3 GC_c72 yk_GC_isBelow ys_GC_isBelow (Nat.le_of_ble_eq_true rfl) rfl rfl (Nat.le_of_ble_eq_true rfl) (v_GC_isBelow_x G _ b v 12 I A hz0.1 hz0.2.1 (by omega) (by omega)) (fun rvq1 Iq1 Aq1 hq1 => ?_)
  obtain ⟨yq1, rfl, ryq1, hIq1, hAq1, hxq1⟩ := hq1
  rw [hIq1, hAq1]
  by_cases gbq1 : yq1 = 1
  · skip
    obtain rfl : yq1 = 1 := by omega
    have hwq1 := hxq1.1 rfl
    show jt _ 6 [(0, .ref (b + 0)), (1, .int (jI v))] [.int (jI 1)] (cmf b f0 I A) _ _ _
    refine jt_if_eq (t := 24) d_GC_number_6 rfl (by unfold jRi; omega) (fun c2 => ?_) (fun c2 => ?_)
    · skip
      exfalso
      omega
    · skip
      refine jt_aload_n d_GC_number_9 rfl ?_
      refine cm_get (k := 0) (v := .ref (b + 38)) d_GC_number_10 GC_f28 (by decide) cc_0 rfl ?_
      refine cm_get (k := 38) (v := .ref (b + 43)) d_GC_number_13 GC_f140 (by decide) cc_3 rfl ?_
      refine cm_get (k := 43) (v := .ref (b + 44)) d_GC_number_16 GC_f178 (by decide) (cc_4 rfl) rfl ?_
      refine jt_iload_n d_GC_number_19 rfl ?_
      refine cm_ld0 (k := 44) (n := 12) (v := (A 44) v) d_GC_number_20 (by decide) rfl rfl (by omega) (by omega) (by omega) rfl ?_
      refine jt_topi (fun v3 ev3 => ?_)
      have bv3 : -2147483648 ≤ v3 ∧ v3 ≤ 2147483647 := by rw [ev3]; exact hz0.2.1 44 v
      refine jt_if_ne (t := 28) d_GC_number_21 rfl (by unfold jRi; omega) (fun c4 => ?_) (fun c4 => ?_)
      · skip
        refine jt_aload_n d_GC_number_28 rfl ?_
        refine cm_get (k := 0) (v := .ref (b + 38)) d_GC_number_29 GC_f28 (by decide) cc_0 rfl ?_
        refine cm_get (k := 38) (v := .ref (b + 43)) d_GC_number_32 GC_f140 (by decide) cc_3 rfl ?_
        refine cm_get (k := 43) (v := .ref (b + 45)) d_GC_number_35 GC_f184 (by decide) (cc_4 rfl) rfl ?_
        refine jt_iload_n d_GC_number_38 rfl ?_
        refine cm_ldF (k := 45) (n := 12) (z := v) d_GC_number_39 (by decide) rfl rfl (by omega) (by omega) (by omega) ?_
        have hfq5 := form_at 45 (by decide) rfl (v : Int).toNat (show (v : Int).toNat < 12 by omega)
        obtain ⟨q5, eqq5⟩ : ∃ q9 : Nat, q9 = 45 + 1 + 2 * (v : Int).toNat := ⟨_, rfl⟩
        rw [← eqq5] at hfq5 ⊢
        have fpq5 := form_parts q5 hfq5.2 hfq5.1
        have glq5 := eLong hfq5.2 hfq5.1
        refine cm_get (k := q5) (v := .ref (b + (q5 + 1))) d_GC_number_40 GC_f137 hfq5.2 (cc_5 hfq5.1) rfl ?_
        refine jt_bipush d_GC_number_43 (by omega) ?_
        refine cm_ld1 (k := q5 + 1) (n := 13) (v := (A ((q5 + 1))) 12) d_GC_number_45 fpq5.2.2 fpq5.1 fpq5.2.1 (by omega) (by omega) (by omega) rfl ?_
        refine jt_topl (fun v6 ev6 => ?_)
        have bv6 : -9223372036854775808 ≤ v6 ∧ v6 ≤ 9223372036854775807 := by have q9 := hz0.2.1 (q5 + 1) 12; rw [glq5.1, glq5.2] at q9; rw [ev6]; exact q9
        exact cm_lret d_GC_number_46 rfl (⟨v6, rfl, by omega, rfl, rfl, by rw [if_neg (by omega), ev6]; rw [cV_e (by omega), show q5 + 1 = 47 + 2 * v.toNat by omega]⟩)
      · skip
        refine jt_ldc2 (z := 1000000000000000) d_GC_number_24 GC_k182 ?_
        exact cm_lret d_GC_number_27 rfl (⟨1000000000000000, rfl, by omega, rfl, rfl, by rw [if_pos (by omega)]⟩)
  · skip
    obtain rfl : yq1 = 0 := by omega
    have hwq1 := hxq1.2 rfl
    show jt _ 6 [(0, .ref (b + 0)), (1, .int (jI v))] [.int (jI 0)] (cmf b f0 I A) _ _ _
    refine jt_if_eq (t := 24) d_GC_number_6 rfl (by unfold jRi; omega) (fun c7 => ?_) (fun c7 => ?_)
    · skip
      refine jt_ldc2 (z := 1000000000000000) d_GC_number_24 GC_k182 ?_
      exact cm_lret d_GC_number_27 rfl (⟨1000000000000000, rfl, by omega, rfl, rfl, by rw [if_pos (by omega)]⟩)
    · skip
      exfalso
      omega
set_option maxRecDepth 100000 in
set_option maxHeartbeats 4000000 in
theorem v_GC_factor_x (G : jG) (d b : Nat) (v : Int) (u : Int) (I : Nat → Nat → Int) (A : Nat → Int → Int) (hI : cSI I) (hA : cSA A) (hv : -2147483648 ≤ v ∧ v ≤ 2147483647) (hu : -2147483648 ≤ u ∧ u ≤ 2147483647) : cct G Y_GC_factor (d + 1) b [.ref (b + 0), .int (jI v), .int (jI u)] I A (fun (rv : Option Value) (I2 : Nat → Nat → Int) (A2 : Nat → Int → Int) => ∃ y : Int, rv = some (.long (jL y)) ∧ (-9223372036854775808 ≤ y ∧ y ≤ 9223372036854775807) ∧ I2 = I ∧ A2 = A ∧ y = if v < 0 ∨ 11 < v ∨ u < 0 ∨ 11 < u ∨ ¬ A 44 v = 1 then 1000000000000000 else cV A v u) := by
  refine cct_of (by decide) (Nat.le_of_ble_eq_true rfl) (fun f0 sz => ?_)
  show jt _ 0 [(0, .ref (b + 0)), (1, .int (jI v)), (2, .int (jI u))] [] _ _ _ _
  have hz0 : cPx [] [] I A I A := cPx.refl hI hA
  refine jt_iload_n d_GC_factor_0 rfl ?_
  refine jt_bipush d_GC_factor_1 (by omega) ?_
  refine cct_callS (Y := Y_GC_isBelow) (As := [.int (jI v), .int (jI 12)]) (rest := []) d_GC_factor_3 GC_c72 yk_GC_isBelow ys_GC_isBelow (Nat.le_of_ble_eq_true rfl) rfl rfl (Nat.le_of_ble_eq_true rfl) (v_GC_isBelow_x G _ b v 12 I A hz0.1 hz0.2.1 (by omega) (by omega)) (fun rvq1 Iq1 Aq1 hq1 => ?_)
  obtain ⟨yq1, rfl, ryq1, hIq1, hAq1, hxq1⟩ := hq1
  rw [hIq1, hAq1]
  by_cases gbq1 : yq1 = 1
  · skip
    obtain rfl : yq1 = 1 := by omega
    have hwq1 := hxq1.1 rfl
    show jt _ 6 [(0, .ref (b + 0)), (1, .int (jI v)), (2, .int (jI u))] [.int (jI 1)] (cmf b f0 I A) _ _ _
    refine jt_if_eq (t := 34) d_GC_factor_6 rfl (by unfold jRi; omega) (fun c2 => ?_) (fun c2 => ?_)
    · skip
      exfalso
      omega
    · skip
      refine jt_iload_n d_GC_factor_9 rfl ?_
      refine jt_bipush d_GC_factor_10 (by omega) ?_
      refine cct_callS (Y := Y_GC_isBelow) (As := [.int (jI u), .int (jI 12)]) (rest := []) d_GC_factor_12 GC_c72 yk_GC_isBelow ys_GC_isBelow (Nat.le_of_ble_eq_true rfl) rfl rfl (Nat.le_of_ble_eq_true rfl) (v_GC_isBelow_x G _ b u 12 I A hz0.1 hz0.2.1 (by omega) (by omega)) (fun rvq3 Iq3 Aq3 hq3 => ?_)
      obtain ⟨yq3, rfl, ryq3, hIq3, hAq3, hxq3⟩ := hq3
      rw [hIq3, hAq3]
      by_cases gbq3 : yq3 = 1
      · skip
        obtain rfl : yq3 = 1 := by omega
        have hwq3 := hxq3.1 rfl
        show jt _ 15 [(0, .ref (b + 0)), (1, .int (jI v)), (2, .int (jI u))] [.int (jI 1)] (cmf b f0 I A) _ _ _
        refine jt_if_eq (t := 34) d_GC_factor_15 rfl (by unfold jRi; omega) (fun c4 => ?_) (fun c4 => ?_)
        · skip
          exfalso
          omega
        · skip
          refine jt_aload_n d_GC_factor_18 rfl ?_
          refine cm_get (k := 0) (v := .ref (b + 38)) d_GC_factor_19 GC_f28 (by decide) cc_0 rfl ?_
          refine cm_get (k := 38) (v := .ref (b + 43)) d_GC_factor_22 GC_f140 (by decide) cc_3 rfl ?_
          refine cm_get (k := 43) (v := .ref (b + 44)) d_GC_factor_25 GC_f178 (by decide) (cc_4 rfl) rfl ?_
          refine jt_iload_n d_GC_factor_28 rfl ?_
          refine cm_ld0 (k := 44) (n := 12) (v := (A 44) v) d_GC_factor_29 (by decide) rfl rfl (by omega) (by omega) (by omega) rfl ?_
          refine jt_topi (fun v5 ev5 => ?_)
          have bv5 : -2147483648 ≤ v5 ∧ v5 ≤ 2147483647 := by rw [ev5]; exact hz0.2.1 44 v
          refine jt_iconst d_GC_factor_30 ?_
          refine jt_icmp_eq (t := 38) d_GC_factor_31 rfl (by unfold jRi; omega) (by unfold jRi; omega) (fun c6 => ?_) (fun c6 => ?_)
          · skip
            refine jt_aload_n d_GC_factor_38 rfl ?_
            refine cm_get (k := 0) (v := .ref (b + 38)) d_GC_factor_39 GC_f28 (by decide) cc_0 rfl ?_
            refine cm_get (k := 38) (v := .ref (b + 43)) d_GC_factor_42 GC_f140 (by decide) cc_3 rfl ?_
            refine cm_get (k := 43) (v := .ref (b + 45)) d_GC_factor_45 GC_f184 (by decide) (cc_4 rfl) rfl ?_
            refine jt_iload_n d_GC_factor_48 rfl ?_
            refine cm_ldF (k := 45) (n := 12) (z := v) d_GC_factor_49 (by decide) rfl rfl (by omega) (by omega) (by omega) ?_
            have hfq7 := form_at 45 (by decide) rfl (v : Int).toNat (show (v : Int).toNat < 12 by omega)
            obtain ⟨q7, eqq7⟩ : ∃ q9 : Nat, q9 = 45 + 1 + 2 * (v : Int).toNat := ⟨_, rfl⟩
            rw [← eqq7] at hfq7 ⊢
            have fpq7 := form_parts q7 hfq7.2 hfq7.1
            have glq7 := eLong hfq7.2 hfq7.1
            refine cm_get (k := q7) (v := .ref (b + (q7 + 1))) d_GC_factor_50 GC_f137 hfq7.2 (cc_5 hfq7.1) rfl ?_
            refine jt_iload_n d_GC_factor_53 rfl ?_
            refine cm_ld1 (k := q7 + 1) (n := 13) (v := (A ((q7 + 1))) u) d_GC_factor_54 fpq7.2.2 fpq7.1 fpq7.2.1 (by omega) (by omega) (by omega) rfl ?_
            refine jt_topl (fun v8 ev8 => ?_)
            have bv8 : -9223372036854775808 ≤ v8 ∧ v8 ≤ 9223372036854775807 := by have q9 := hz0.2.1 (q7 + 1) u; rw [glq7.1, glq7.2] at q9; rw [ev8]; exact q9
            exact cm_lret d_GC_factor_55 rfl (⟨v8, rfl, by omega, rfl, rfl, by rw [if_neg (by omega), ev8]; rw [cV_e (by omega), show q7 + 1 = 47 + 2 * v.toNat by omega]⟩)
          · skip
            refine jt_ldc2 (z := 1000000000000000) d_GC_factor_34 GC_k182 ?_
            exact cm_lret d_GC_factor_37 rfl (⟨1000000000000000, rfl, by omega, rfl, rfl, by rw [if_pos (by omega)]⟩)
      · skip
        obtain rfl : yq3 = 0 := by omega
        have hwq3 := hxq3.2 rfl
        show jt _ 15 [(0, .ref (b + 0)), (1, .int (jI v)), (2, .int (jI u))] [.int (jI 0)] (cmf b f0 I A) _ _ _
        refine jt_if_eq (t := 34) d_GC_factor_15 rfl (by unfold jRi; omega) (fun c9 => ?_) (fun c9 => ?_)
        · skip
          refine jt_ldc2 (z := 1000000000000000) d_GC_factor_34 GC_k182 ?_
          exact cm_lret d_GC_factor_37 rfl (⟨1000000000000000, rfl, by omega, rfl, rfl, by rw [if_pos (by omega)]⟩)
        · skip
          exfalso
          omega
  · skip
    obtain rfl : yq1 = 0 := by omega
    have hwq1 := hxq1.2 rfl
    show jt _ 6 [(0, .ref (b + 0)), (1, .int (jI v)), (2, .int (jI u))] [.int (jI 0)] (cmf b f0 I A) _ _ _
    refine jt_if_eq (t := 34) d_GC_factor_6 rfl (by unfold jRi; omega) (fun c10 => ?_) (fun c10 => ?_)
    · skip
      refine jt_ldc2 (z := 1000000000000000) d_GC_factor_34 GC_k182 ?_
      exact cm_lret d_GC_factor_37 rfl (⟨1000000000000000, rfl, by omega, rfl, rfl, by rw [if_pos (by omega)]⟩)
    · skip
      exfalso
      omega
set_option maxRecDepth 100000 in
set_option maxHeartbeats 4000000 in
theorem v_GC_shown_x (G : jG) (d b : Nat) (k : Int) (I : Nat → Nat → Int) (A : Nat → Int → Int) (hI : cSI I) (hA : cSA A) (hk : -2147483648 ≤ k ∧ k ≤ 2147483647) : cct G Y_GC_shown (d + 1) b [.ref (b + 0), .int (jI k)] I A (fun (rv : Option Value) (I2 : Nat → Nat → Int) (A2 : Nat → Int → Int) => ∃ y : Int, rv = some (.long (jL y)) ∧ (-9223372036854775808 ≤ y ∧ y ≤ 9223372036854775807) ∧ I2 = I ∧ A2 = A ∧ y = if k < 0 ∨ 7 < k ∨ I 0 7 ≤ k then 1000000000000000 else cN I A k) := by
  refine cct_of (by decide) (Nat.le_of_ble_eq_true rfl) (fun f0 sz => ?_)
  show jt _ 0 [(0, .ref (b + 0)), (1, .int (jI k))] [] _ _ _ _
  have r07 : 0 ≤ I 0 7 ∧ I 0 7 ≤ 2147483647 := hI 0 7
  have hz0 : cPx [] [] I A I A := cPx.refl hI hA
  refine jt_iload_n d_GC_shown_0 rfl ?_
  refine jt_bipush d_GC_shown_1 (by omega) ?_
  refine cct_callS (Y := Y_GC_isBelow) (As := [.int (jI k), .int (jI 8)]) (rest := []) d_GC_shown_3 GC_c72 yk_GC_isBelow ys_GC_isBelow (Nat.le_of_ble_eq_true rfl) rfl rfl (Nat.le_of_ble_eq_true rfl) (v_GC_isBelow_x G _ b k 8 I A hz0.1 hz0.2.1 (by omega) (by omega)) (fun rvq1 Iq1 Aq1 hq1 => ?_)
  obtain ⟨yq1, rfl, ryq1, hIq1, hAq1, hxq1⟩ := hq1
  rw [hIq1, hAq1]
  by_cases gbq1 : yq1 = 1
  · skip
    obtain rfl : yq1 = 1 := by omega
    have hwq1 := hxq1.1 rfl
    show jt _ 6 [(0, .ref (b + 0)), (1, .int (jI k))] [.int (jI 1)] (cmf b f0 I A) _ _ _
    refine jt_if_eq (t := 36) d_GC_shown_6 rfl (by unfold jRi; omega) (fun c2 => ?_) (fun c2 => ?_)
    · skip
      exfalso
      omega
    · skip
      refine jt_iload_n d_GC_shown_9 rfl ?_
      refine jt_aload_n d_GC_shown_10 rfl ?_
      refine cm_get (k := 0) (v := .int (jI (I 0 7))) d_GC_shown_11 GC_f134 (by decide) cc_0 rfl ?_
      have rb3 : 0 ≤ I 0 7 ∧ I 0 7 ≤ 2147483647 := hz0.1 0 7
      refine jt_icmp_ge (t := 36) d_GC_shown_14 rfl (by unfold jRi; omega) (by unfold jRi; omega) (fun c4 => ?_) (fun c4 => ?_)
      · skip
        refine jt_ldc2 (z := 1000000000000000) d_GC_shown_36 GC_k182 ?_
        exact cm_lret d_GC_shown_39 rfl (⟨1000000000000000, rfl, by omega, rfl, rfl, by rw [if_pos (by omega)]⟩)
      · skip
        refine jt_aload_n d_GC_shown_17 rfl ?_
        refine cm_get (k := 0) (v := .ref (b + 471)) d_GC_shown_18 GC_f53 (by decide) cc_0 rfl ?_
        refine jt_aload_n d_GC_shown_21 rfl ?_
        refine cm_get (k := 0) (v := .int (jI (I 0 7))) d_GC_shown_22 GC_f134 (by decide) cc_0 rfl ?_
        refine jt_iconst d_GC_shown_25 ?_
        refine jt_isub d_GC_shown_26 ?_
        refine jt_iload_n d_GC_shown_27 rfl ?_
        refine jt_isub d_GC_shown_28 ?_
        refine jt_bipush d_GC_shown_29 (by omega) ?_
        have tn := Int.tmod_nonneg 8 (show 0 ≤ ((I 0 7) - 1) - k by omega)
        refine jt_irem d_GC_shown_31 (by unfold jRi; omega) (by unfold jRi; omega) (by omega) ?_
        have td5 := gtd (((I 0 7) - 1) - k) 8 (by omega)
        refine cm_ld1 (k := 471) (n := 8) (v := (A 471) (Int.tmod (((I 0 7) - 1) - k) 8)) d_GC_shown_32 (by decide) rfl rfl (by omega) (by omega) (by omega) rfl ?_
        refine jt_topl (fun v6 ev6 => ?_)
        have bv6 : -9223372036854775808 ≤ v6 ∧ v6 ≤ 9223372036854775807 := by rw [ev6]; exact hz0.2.1 471 (Int.tmod (((I 0 7) - 1) - k) 8)
        refine jt_goto (t := 39) d_GC_shown_33 rfl ?_
        exact cm_lret d_GC_shown_39 rfl (⟨v6, rfl, by omega, rfl, rfl, by rw [if_neg (by omega), ev6]; rw [cN_k (by omega), Int.tmod_eq_emod_of_nonneg (by omega)]⟩)
  · skip
    obtain rfl : yq1 = 0 := by omega
    have hwq1 := hxq1.2 rfl
    show jt _ 6 [(0, .ref (b + 0)), (1, .int (jI k))] [.int (jI 0)] (cmf b f0 I A) _ _ _
    refine jt_if_eq (t := 36) d_GC_shown_6 rfl (by unfold jRi; omega) (fun c7 => ?_) (fun c7 => ?_)
    · skip
      refine jt_ldc2 (z := 1000000000000000) d_GC_shown_36 GC_k182 ?_
      exact cm_lret d_GC_shown_39 rfl (⟨1000000000000000, rfl, by omega, rfl, rfl, by rw [if_pos (by omega)]⟩)
    · skip
      exfalso
      omega
set_option maxRecDepth 100000 in
set_option maxHeartbeats 4000000 in
theorem v_PI_isBlack_p (G : jG) (d b : Nat) (i : Int) (j : Int) (I : Nat → Nat → Int) (A : Nat → Int → Int) (hI : cSI I) (hA : cSA A) (hi : 0 ≤ i ∧ i ≤ 31) (hj : 0 ≤ j ∧ j ≤ 23) : cct G Y_PI_isBlack d b [.ref (b + 468), .int (jI i), .int (jI j)] I A (fun (rv : Option Value) (I2 : Nat → Nat → Int) (A2 : Nat → Int → Int) => ∃ y : Int, rv = some (.int (jI y)) ∧ (0 ≤ y ∧ y ≤ 1) ∧ cPx [] [] I A I2 A2) := by
  refine cct_of (by decide) (Nat.le_of_ble_eq_true rfl) (fun f0 sz => ?_)
  show jt _ 0 [(0, .ref (b + 468)), (1, .int (jI i)), (2, .int (jI j))] [] _ _ _ _
  have hz0 : cPx [] [] I A I A := cPx.refl hI hA
  refine jt_aload_n d_PI_isBlack_0 rfl ?_
  refine cm_get (k := 468) (v := .ref (b + 469)) d_PI_isBlack_1 PI_f9 (by decide) cc_7 rfl ?_
  refine jt_iload_n d_PI_isBlack_4 rfl ?_
  refine jt_bipush d_PI_isBlack_5 (by omega) ?_
  refine jt_imul d_PI_isBlack_7 ?_
  refine jt_iload_n d_PI_isBlack_8 rfl ?_
  refine jt_iadd d_PI_isBlack_9 ?_
  refine cm_ld2 (k := 469) (n := 768) (v := (A 469) ((j * 32) + i)) d_PI_isBlack_10 (by decide) rfl rfl (by omega) (by omega) (by omega) rfl ?_
  refine jt_topi (fun v1 ev1 => ?_)
  have bv1 : 0 ≤ v1 ∧ v1 ≤ 1 := by rw [ev1]; exact hz0.2.1 469 ((j * 32) + i)
  exact cm_ret d_PI_isBlack_11 rfl (jnz (by omega)) (⟨v1, rfl, by omega, hz0⟩)
set_option maxRecDepth 100000 in
set_option maxHeartbeats 4000000 in
theorem l4_PI_blackPoints_pv (G : jG) (d b : Nat)  (I : Nat → Nat → Int) (A : Nat → Int → Int) (hI : cSI I) (hA : cSA A) (f0 : jF) (sz : Nat)   : ∀ (n9 : Nat) (n : Int) (p : Int) (J : Nat → Nat → Int) (B : Nat → Int → Int), cPx [] [] I A J B → (0 ≤ p ∧ p ≤ 768) → (0 ≤ n ∧ n ≤ p) → 768 - p < (n9 : Int) → jt (jm G Y_PI_blackPoints (gR d) (cQ b f0 sz (fun (rv : Option Value) (I2 : Nat → Nat → Int) (A2 : Nat → Int → Int) => ∃ y : Int, rv = some (.int (jI y)) ∧ (-2147483648 ≤ y ∧ y ≤ 2147483647) ∧ cPx [] [] I A I2 A2))) 4 [(0, .ref (b + 468)), (1, .int (jI n)), (2, .int (jI p))] [] (cmf b f0 J B) sz 0 0 := by
  intro n9
  induction n9 with
  | zero =>
    intro n p J B hJ p0 n0 hmeas
    exfalso
    omega
  | succ n9 ih =>
    intro n p J B hJ p0 n0 hmeas
    refine jt_iload_n d_PI_blackPoints_4 rfl ?_
    refine jt_aload_n d_PI_blackPoints_5 rfl ?_
    refine cm_get (k := 468) (v := .ref (b + 469)) d_PI_blackPoints_6 PI_f9 (by decide) cc_7 rfl ?_
    refine cm_len (k := 469) (n := 768) d_PI_blackPoints_9 jTy_2 (by decide) (cc_10 rfl rfl) ?_
    refine jt_icmp_ge (t := 31) d_PI_blackPoints_10 rfl (by unfold jRi; omega) (by unfold jRi; omega) (fun c101 => ?_) (fun c101 => ?_)
    · skip
      refine jt_iload_n d_PI_blackPoints_31 rfl ?_
      exact cm_ret d_PI_blackPoints_32 rfl rfl (⟨n, rfl, by omega, hJ⟩)
    · skip
      refine jt_aload_n d_PI_blackPoints_13 rfl ?_
      refine cm_get (k := 468) (v := .ref (b + 469)) d_PI_blackPoints_14 PI_f9 (by decide) cc_7 rfl ?_
      refine jt_iload_n d_PI_blackPoints_17 rfl ?_
      refine cm_ld2 (k := 469) (n := 768) (v := (B 469) p) d_PI_blackPoints_18 (by decide) rfl rfl (by omega) (by omega) (by omega) rfl ?_
      refine jt_topi (fun v102 ev102 => ?_)
      have bv102 : 0 ≤ v102 ∧ v102 ≤ 1 := by rw [ev102]; exact hJ.2.1 469 p
      refine jt_if_eq (t := 25) d_PI_blackPoints_19 rfl (by unfold jRi; omega) (fun c103 => ?_) (fun c103 => ?_)
      · skip
        refine jt_iinc (L' := [(0, .ref (b + 468)), (1, .int (jI n)), (2, .int (jI (p + 1)))]) d_PI_blackPoints_25 rfl (Nat.le_of_ble_eq_true rfl) rfl ?_
        refine jt_goto (t := 4) d_PI_blackPoints_28 rfl ?_
        exact ih n (p + 1) J B hJ (by omega) (by omega) (by omega)
      · skip
        refine jt_iinc (L' := [(0, .ref (b + 468)), (1, .int (jI (n + 1))), (2, .int (jI p))]) d_PI_blackPoints_22 rfl (Nat.le_of_ble_eq_true rfl) rfl ?_
        refine jt_iinc (L' := [(0, .ref (b + 468)), (1, .int (jI (n + 1))), (2, .int (jI (p + 1)))]) d_PI_blackPoints_25 rfl (Nat.le_of_ble_eq_true rfl) rfl ?_
        refine jt_goto (t := 4) d_PI_blackPoints_28 rfl ?_
        exact ih (n + 1) (p + 1) J B hJ (by omega) (by omega) (by omega)
set_option maxRecDepth 100000 in
set_option maxHeartbeats 4000000 in
theorem v_PI_blackPoints_p (G : jG) (d b : Nat)  (I : Nat → Nat → Int) (A : Nat → Int → Int) (hI : cSI I) (hA : cSA A) : cct G Y_PI_blackPoints d b [.ref (b + 468)] I A (fun (rv : Option Value) (I2 : Nat → Nat → Int) (A2 : Nat → Int → Int) => ∃ y : Int, rv = some (.int (jI y)) ∧ (-2147483648 ≤ y ∧ y ≤ 2147483647) ∧ cPx [] [] I A I2 A2) := by
  refine cct_of (by decide) (Nat.le_of_ble_eq_true rfl) (fun f0 sz => ?_)
  show jt _ 0 [(0, .ref (b + 468))] [] _ _ _ _
  have hz0 : cPx [] [] I A I A := cPx.refl hI hA
  refine jt_iconst d_PI_blackPoints_0 ?_
  refine jt_istore_n (L' := [(0, .ref (b + 468)), (1, .int (jI 0))]) d_PI_blackPoints_1 (Nat.le_of_ble_eq_true rfl) rfl ?_
  refine jt_iconst d_PI_blackPoints_2 ?_
  refine jt_istore_n (L' := [(0, .ref (b + 468)), (1, .int (jI 0)), (2, .int (jI 0))]) d_PI_blackPoints_3 (Nat.le_of_ble_eq_true rfl) rfl ?_
  exact l4_PI_blackPoints_pv G d b  I A hI hA f0 sz  769 0 0 I A hz0 (by omega) (by omega) (by omega)
set_option maxRecDepth 100000 in
set_option maxHeartbeats 4000000 in
theorem l6_PI_edge_pv (G : jG) (d b : Nat) (c : Int) (g : Int) (I : Nat → Nat → Int) (A : Nat → Int → Int) (hI : cSI I) (hA : cSA A) (hc : 0 ≤ c ∧ c ≤ 1) (hg : 0 ≤ g ∧ g ≤ 1) (f0 : jF) (sz : Nat)   : ∀ (n9 : Nat) (n : Int) (p : Int) (J : Nat → Nat → Int) (B : Nat → Int → Int), cPx [] [] I A J B → (0 ≤ p ∧ p ≤ 768) → (-40 ≤ n ∧ n ≤ 768) → 768 - p < (n9 : Int) → jt (jm G Y_PI_edge (gR d) (cQ b f0 sz (fun (rv : Option Value) (I2 : Nat → Nat → Int) (A2 : Nat → Int → Int) => ∃ y : Int, rv = some (.int (jI y)) ∧ (-2147483648 ≤ y ∧ y ≤ 2147483647) ∧ cPx [] [] I A I2 A2))) 6 [(0, .ref (b + 468)), (1, .int (jI c)), (2, .int (jI g)), (3, .int (jI n)), (4, .int (jI p))] [] (cmf b f0 J B) sz 0 0 := by
  intro n9
  induction n9 with
  | zero =>
    intro n p J B hJ p0 n0 hmeas
    exfalso
    omega
  | succ n9 ih =>
    intro n p J B hJ p0 n0 hmeas
    refine jt_iload d_PI_edge_6 rfl ?_
    refine jt_aload_n d_PI_edge_8 rfl ?_
    refine cm_get (k := 468) (v := .ref (b + 469)) d_PI_edge_9 PI_f9 (by decide) cc_7 rfl ?_
    refine cm_len (k := 469) (n := 768) d_PI_edge_12 jTy_2 (by decide) (cc_10 rfl rfl) ?_
    refine jt_icmp_ge (t := 79) d_PI_edge_13 rfl (by unfold jRi; omega) (by unfold jRi; omega) (fun c101 => ?_) (fun c101 => ?_)
    · skip
      refine jt_iload_n d_PI_edge_79 rfl ?_
      exact cm_ret d_PI_edge_80 rfl rfl (⟨n, rfl, by omega, hJ⟩)
    · skip
      refine jt_iload_n d_PI_edge_16 rfl ?_
      refine jt_if_eq (t := 28) d_PI_edge_17 rfl (by unfold jRi; omega) (fun c102 => ?_) (fun c102 => ?_)
      · skip
        refine jt_iload d_PI_edge_28 rfl ?_
        refine jt_bipush d_PI_edge_30 (by omega) ?_
        refine jt_idiv d_PI_edge_32 (by unfold jRi; omega) (by unfold jRi; omega) (by omega) ?_
        have td103 := gtd p 32 (by omega)
        refine jt_topi (fun v104 ev104 => ?_)
        refine jt_istore (L' := [(0, .ref (b + 468)), (1, .int (jI c)), (2, .int (jI g)), (3, .int (jI n)), (4, .int (jI p)), (5, .int (jI v104))]) d_PI_edge_33 (Nat.le_of_ble_eq_true rfl) rfl ?_
        refine jt_aload_n d_PI_edge_35 rfl ?_
        refine cm_get (k := 468) (v := .ref (b + 469)) d_PI_edge_36 PI_f9 (by decide) cc_7 rfl ?_
        refine jt_iload d_PI_edge_39 rfl ?_
        refine cm_ld2 (k := 469) (n := 768) (v := (B 469) p) d_PI_edge_41 (by decide) rfl rfl (by omega) (by omega) (by omega) rfl ?_
        refine jt_topi (fun v105 ev105 => ?_)
        have bv105 : 0 ≤ v105 ∧ v105 ≤ 1 := by rw [ev105]; exact hJ.2.1 469 p
        refine jt_if_eq (t := 73) d_PI_edge_42 rfl (by unfold jRi; omega) (fun c106 => ?_) (fun c106 => ?_)
        · skip
          refine jt_iinc (L' := [(0, .ref (b + 468)), (1, .int (jI c)), (2, .int (jI g)), (3, .int (jI n)), (4, .int (jI (p + 1))), (5, .int (jI v104))]) d_PI_edge_73 rfl (Nat.le_of_ble_eq_true rfl) rfl ?_
          refine jt_goto (t := 6) d_PI_edge_76 rfl ?_
          refine jt_sub (L' := [(0, .ref (b + 468)), (1, .int (jI c)), (2, .int (jI g)), (3, .int (jI n)), (4, .int (jI (p + 1)))]) (fun _ h => List.mem_append_left [(5, Value.int (jI v104))] h) ?_
          exact ih n (p + 1) J B hJ (by omega) (by omega) (by omega)
        · skip
          refine jt_iload_n d_PI_edge_45 rfl ?_
          refine jt_bipush d_PI_edge_46 (by omega) ?_
          refine jt_icmp_eq (t := 70) d_PI_edge_48 rfl (by unfold jRi; omega) (by unfold jRi; omega) (fun c107 => ?_) (fun c107 => ?_)
          · skip
            refine jt_iload d_PI_edge_70 rfl ?_
            refine jt_istore_n (L' := [(0, .ref (b + 468)), (1, .int (jI c)), (2, .int (jI g)), (3, .int (jI v104)), (4, .int (jI p)), (5, .int (jI v104))]) d_PI_edge_72 (Nat.le_of_ble_eq_true rfl) rfl ?_
            refine jt_iinc (L' := [(0, .ref (b + 468)), (1, .int (jI c)), (2, .int (jI g)), (3, .int (jI v104)), (4, .int (jI (p + 1))), (5, .int (jI v104))]) d_PI_edge_73 rfl (Nat.le_of_ble_eq_true rfl) rfl ?_
            refine jt_goto (t := 6) d_PI_edge_76 rfl ?_
            refine jt_sub (L' := [(0, .ref (b + 468)), (1, .int (jI c)), (2, .int (jI g)), (3, .int (jI v104)), (4, .int (jI (p + 1)))]) (fun _ h => List.mem_append_left [(5, Value.int (jI v104))] h) ?_
            exact ih v104 (p + 1) J B hJ (by omega) (by omega) (by omega)
          · skip
            refine jt_iload_n d_PI_edge_51 rfl ?_
            refine jt_if_eq (t := 64) d_PI_edge_52 rfl (by unfold jRi; omega) (fun c108 => ?_) (fun c108 => ?_)
            · skip
              refine jt_iload d_PI_edge_64 rfl ?_
              refine jt_iload_n d_PI_edge_66 rfl ?_
              refine jt_icmp_ge (t := 73) d_PI_edge_67 rfl (by unfold jRi; omega) (by unfold jRi; omega) (fun c109 => ?_) (fun c109 => ?_)
              · skip
                refine jt_iinc (L' := [(0, .ref (b + 468)), (1, .int (jI c)), (2, .int (jI g)), (3, .int (jI n)), (4, .int (jI (p + 1))), (5, .int (jI v104))]) d_PI_edge_73 rfl (Nat.le_of_ble_eq_true rfl) rfl ?_
                refine jt_goto (t := 6) d_PI_edge_76 rfl ?_
                refine jt_sub (L' := [(0, .ref (b + 468)), (1, .int (jI c)), (2, .int (jI g)), (3, .int (jI n)), (4, .int (jI (p + 1)))]) (fun _ h => List.mem_append_left [(5, Value.int (jI v104))] h) ?_
                exact ih n (p + 1) J B hJ (by omega) (by omega) (by omega)
              · skip
                refine jt_iload d_PI_edge_70 rfl ?_
                refine jt_istore_n (L' := [(0, .ref (b + 468)), (1, .int (jI c)), (2, .int (jI g)), (3, .int (jI v104)), (4, .int (jI p)), (5, .int (jI v104))]) d_PI_edge_72 (Nat.le_of_ble_eq_true rfl) rfl ?_
                refine jt_iinc (L' := [(0, .ref (b + 468)), (1, .int (jI c)), (2, .int (jI g)), (3, .int (jI v104)), (4, .int (jI (p + 1))), (5, .int (jI v104))]) d_PI_edge_73 rfl (Nat.le_of_ble_eq_true rfl) rfl ?_
                refine jt_goto (t := 6) d_PI_edge_76 rfl ?_
                refine jt_sub (L' := [(0, .ref (b + 468)), (1, .int (jI c)), (2, .int (jI g)), (3, .int (jI v104)), (4, .int (jI (p + 1)))]) (fun _ h => List.mem_append_left [(5, Value.int (jI v104))] h) ?_
                exact ih v104 (p + 1) J B hJ (by omega) (by omega) (by omega)
            · skip
              refine jt_iload d_PI_edge_55 rfl ?_
              refine jt_iload_n d_PI_edge_57 rfl ?_
              refine jt_icmp_le (t := 73) d_PI_edge_58 rfl (by unfold jRi; omega) (by unfold jRi; omega) (fun c110 => ?_) (fun c110 => ?_)
              · skip
                refine jt_iinc (L' := [(0, .ref (b + 468)), (1, .int (jI c)), (2, .int (jI g)), (3, .int (jI n)), (4, .int (jI (p + 1))), (5, .int (jI v104))]) d_PI_edge_73 rfl (Nat.le_of_ble_eq_true rfl) rfl ?_
                refine jt_goto (t := 6) d_PI_edge_76 rfl ?_
                refine jt_sub (L' := [(0, .ref (b + 468)), (1, .int (jI c)), (2, .int (jI g)), (3, .int (jI n)), (4, .int (jI (p + 1)))]) (fun _ h => List.mem_append_left [(5, Value.int (jI v104))] h) ?_
                exact ih n (p + 1) J B hJ (by omega) (by omega) (by omega)
              · skip
                refine jt_goto (t := 70) d_PI_edge_61 rfl ?_
                refine jt_iload d_PI_edge_70 rfl ?_
                refine jt_istore_n (L' := [(0, .ref (b + 468)), (1, .int (jI c)), (2, .int (jI g)), (3, .int (jI v104)), (4, .int (jI p)), (5, .int (jI v104))]) d_PI_edge_72 (Nat.le_of_ble_eq_true rfl) rfl ?_
                refine jt_iinc (L' := [(0, .ref (b + 468)), (1, .int (jI c)), (2, .int (jI g)), (3, .int (jI v104)), (4, .int (jI (p + 1))), (5, .int (jI v104))]) d_PI_edge_73 rfl (Nat.le_of_ble_eq_true rfl) rfl ?_
                refine jt_goto (t := 6) d_PI_edge_76 rfl ?_
                refine jt_sub (L' := [(0, .ref (b + 468)), (1, .int (jI c)), (2, .int (jI g)), (3, .int (jI v104)), (4, .int (jI (p + 1)))]) (fun _ h => List.mem_append_left [(5, Value.int (jI v104))] h) ?_
                exact ih v104 (p + 1) J B hJ (by omega) (by omega) (by omega)
      · skip
        refine jt_iload d_PI_edge_20 rfl ?_
        refine jt_bipush d_PI_edge_22 (by omega) ?_
        refine jt_irem d_PI_edge_24 (by unfold jRi; omega) (by unfold jRi; omega) (by omega) ?_
        have td111 := gtd p 32 (by omega)
        refine jt_goto (t := 33) d_PI_edge_25 rfl ?_
        refine jt_topi (fun v112 ev112 => ?_)
        refine jt_istore (L' := [(0, .ref (b + 468)), (1, .int (jI c)), (2, .int (jI g)), (3, .int (jI n)), (4, .int (jI p)), (5, .int (jI v112))]) d_PI_edge_33 (Nat.le_of_ble_eq_true rfl) rfl ?_
        refine jt_aload_n d_PI_edge_35 rfl ?_
        refine cm_get (k := 468) (v := .ref (b + 469)) d_PI_edge_36 PI_f9 (by decide) cc_7 rfl ?_
        refine jt_iload d_PI_edge_39 rfl ?_
        refine cm_ld2 (k := 469) (n := 768) (v := (B 469) p) d_PI_edge_41 (by decide) rfl rfl (by omega) (by omega) (by omega) rfl ?_
        refine jt_topi (fun v113 ev113 => ?_)
        have bv113 : 0 ≤ v113 ∧ v113 ≤ 1 := by rw [ev113]; exact hJ.2.1 469 p
        refine jt_if_eq (t := 73) d_PI_edge_42 rfl (by unfold jRi; omega) (fun c114 => ?_) (fun c114 => ?_)
        · skip
          refine jt_iinc (L' := [(0, .ref (b + 468)), (1, .int (jI c)), (2, .int (jI g)), (3, .int (jI n)), (4, .int (jI (p + 1))), (5, .int (jI v112))]) d_PI_edge_73 rfl (Nat.le_of_ble_eq_true rfl) rfl ?_
          refine jt_goto (t := 6) d_PI_edge_76 rfl ?_
          refine jt_sub (L' := [(0, .ref (b + 468)), (1, .int (jI c)), (2, .int (jI g)), (3, .int (jI n)), (4, .int (jI (p + 1)))]) (fun _ h => List.mem_append_left [(5, Value.int (jI v112))] h) ?_
          exact ih n (p + 1) J B hJ (by omega) (by omega) (by omega)
        · skip
          refine jt_iload_n d_PI_edge_45 rfl ?_
          refine jt_bipush d_PI_edge_46 (by omega) ?_
          refine jt_icmp_eq (t := 70) d_PI_edge_48 rfl (by unfold jRi; omega) (by unfold jRi; omega) (fun c115 => ?_) (fun c115 => ?_)
          · skip
            refine jt_iload d_PI_edge_70 rfl ?_
            refine jt_istore_n (L' := [(0, .ref (b + 468)), (1, .int (jI c)), (2, .int (jI g)), (3, .int (jI v112)), (4, .int (jI p)), (5, .int (jI v112))]) d_PI_edge_72 (Nat.le_of_ble_eq_true rfl) rfl ?_
            refine jt_iinc (L' := [(0, .ref (b + 468)), (1, .int (jI c)), (2, .int (jI g)), (3, .int (jI v112)), (4, .int (jI (p + 1))), (5, .int (jI v112))]) d_PI_edge_73 rfl (Nat.le_of_ble_eq_true rfl) rfl ?_
            refine jt_goto (t := 6) d_PI_edge_76 rfl ?_
            refine jt_sub (L' := [(0, .ref (b + 468)), (1, .int (jI c)), (2, .int (jI g)), (3, .int (jI v112)), (4, .int (jI (p + 1)))]) (fun _ h => List.mem_append_left [(5, Value.int (jI v112))] h) ?_
            exact ih v112 (p + 1) J B hJ (by omega) (by omega) (by omega)
          · skip
            refine jt_iload_n d_PI_edge_51 rfl ?_
            refine jt_if_eq (t := 64) d_PI_edge_52 rfl (by unfold jRi; omega) (fun c116 => ?_) (fun c116 => ?_)
            · skip
              refine jt_iload d_PI_edge_64 rfl ?_
              refine jt_iload_n d_PI_edge_66 rfl ?_
              refine jt_icmp_ge (t := 73) d_PI_edge_67 rfl (by unfold jRi; omega) (by unfold jRi; omega) (fun c117 => ?_) (fun c117 => ?_)
              · skip
                refine jt_iinc (L' := [(0, .ref (b + 468)), (1, .int (jI c)), (2, .int (jI g)), (3, .int (jI n)), (4, .int (jI (p + 1))), (5, .int (jI v112))]) d_PI_edge_73 rfl (Nat.le_of_ble_eq_true rfl) rfl ?_
                refine jt_goto (t := 6) d_PI_edge_76 rfl ?_
                refine jt_sub (L' := [(0, .ref (b + 468)), (1, .int (jI c)), (2, .int (jI g)), (3, .int (jI n)), (4, .int (jI (p + 1)))]) (fun _ h => List.mem_append_left [(5, Value.int (jI v112))] h) ?_
                exact ih n (p + 1) J B hJ (by omega) (by omega) (by omega)
              · skip
                refine jt_iload d_PI_edge_70 rfl ?_
                refine jt_istore_n (L' := [(0, .ref (b + 468)), (1, .int (jI c)), (2, .int (jI g)), (3, .int (jI v112)), (4, .int (jI p)), (5, .int (jI v112))]) d_PI_edge_72 (Nat.le_of_ble_eq_true rfl) rfl ?_
                refine jt_iinc (L' := [(0, .ref (b + 468)), (1, .int (jI c)), (2, .int (jI g)), (3, .int (jI v112)), (4, .int (jI (p + 1))), (5, .int (jI v112))]) d_PI_edge_73 rfl (Nat.le_of_ble_eq_true rfl) rfl ?_
                refine jt_goto (t := 6) d_PI_edge_76 rfl ?_
                refine jt_sub (L' := [(0, .ref (b + 468)), (1, .int (jI c)), (2, .int (jI g)), (3, .int (jI v112)), (4, .int (jI (p + 1)))]) (fun _ h => List.mem_append_left [(5, Value.int (jI v112))] h) ?_
                exact ih v112 (p + 1) J B hJ (by omega) (by omega) (by omega)
            · skip
              refine jt_iload d_PI_edge_55 rfl ?_
              refine jt_iload_n d_PI_edge_57 rfl ?_
              refine jt_icmp_le (t := 73) d_PI_edge_58 rfl (by unfold jRi; omega) (by unfold jRi; omega) (fun c118 => ?_) (fun c118 => ?_)
              · skip
                refine jt_iinc (L' := [(0, .ref (b + 468)), (1, .int (jI c)), (2, .int (jI g)), (3, .int (jI n)), (4, .int (jI (p + 1))), (5, .int (jI v112))]) d_PI_edge_73 rfl (Nat.le_of_ble_eq_true rfl) rfl ?_
                refine jt_goto (t := 6) d_PI_edge_76 rfl ?_
                refine jt_sub (L' := [(0, .ref (b + 468)), (1, .int (jI c)), (2, .int (jI g)), (3, .int (jI n)), (4, .int (jI (p + 1)))]) (fun _ h => List.mem_append_left [(5, Value.int (jI v112))] h) ?_
                exact ih n (p + 1) J B hJ (by omega) (by omega) (by omega)
              · skip
                refine jt_goto (t := 70) d_PI_edge_61 rfl ?_
                refine jt_iload d_PI_edge_70 rfl ?_
                refine jt_istore_n (L' := [(0, .ref (b + 468)), (1, .int (jI c)), (2, .int (jI g)), (3, .int (jI v112)), (4, .int (jI p)), (5, .int (jI v112))]) d_PI_edge_72 (Nat.le_of_ble_eq_true rfl) rfl ?_
                refine jt_iinc (L' := [(0, .ref (b + 468)), (1, .int (jI c)), (2, .int (jI g)), (3, .int (jI v112)), (4, .int (jI (p + 1))), (5, .int (jI v112))]) d_PI_edge_73 rfl (Nat.le_of_ble_eq_true rfl) rfl ?_
                refine jt_goto (t := 6) d_PI_edge_76 rfl ?_
                refine jt_sub (L' := [(0, .ref (b + 468)), (1, .int (jI c)), (2, .int (jI g)), (3, .int (jI v112)), (4, .int (jI (p + 1)))]) (fun _ h => List.mem_append_left [(5, Value.int (jI v112))] h) ?_
                exact ih v112 (p + 1) J B hJ (by omega) (by omega) (by omega)
set_option maxRecDepth 100000 in
set_option maxHeartbeats 4000000 in
theorem v_PI_edge_p (G : jG) (d b : Nat) (c : Int) (g : Int) (I : Nat → Nat → Int) (A : Nat → Int → Int) (hI : cSI I) (hA : cSA A) (hc : 0 ≤ c ∧ c ≤ 1) (hg : 0 ≤ g ∧ g ≤ 1) : cct G Y_PI_edge d b [.ref (b + 468), .int (jI c), .int (jI g)] I A (fun (rv : Option Value) (I2 : Nat → Nat → Int) (A2 : Nat → Int → Int) => ∃ y : Int, rv = some (.int (jI y)) ∧ (-2147483648 ≤ y ∧ y ≤ 2147483647) ∧ cPx [] [] I A I2 A2) := by
  refine cct_of (by decide) (Nat.le_of_ble_eq_true rfl) (fun f0 sz => ?_)
  show jt _ 0 [(0, .ref (b + 468)), (1, .int (jI c)), (2, .int (jI g))] [] _ _ _ _
  have hz0 : cPx [] [] I A I A := cPx.refl hI hA
  refine jt_bipush d_PI_edge_0 (by omega) ?_
  refine jt_istore_n (L' := [(0, .ref (b + 468)), (1, .int (jI c)), (2, .int (jI g)), (3, .int (jI (-2)))]) d_PI_edge_2 (Nat.le_of_ble_eq_true rfl) rfl ?_
  refine jt_iconst d_PI_edge_3 ?_
  refine jt_istore (L' := [(0, .ref (b + 468)), (1, .int (jI c)), (2, .int (jI g)), (3, .int (jI (-2))), (4, .int (jI 0))]) d_PI_edge_4 (Nat.le_of_ble_eq_true rfl) rfl ?_
  exact l6_PI_edge_pv G d b c g I A hI hA hc hg f0 sz  769 (-2) 0 I A hz0 (by omega) (by omega) (by omega)
set_option maxRecDepth 100000 in
set_option maxHeartbeats 4000000 in
theorem l11_PI_lengthOfRun_pv (G : jG) (d b : Nat) (j : Int) (k : Int) (I : Nat → Nat → Int) (A : Nat → Int → Int) (hI : cSI I) (hA : cSA A) (hj : 0 ≤ j ∧ j ≤ 23) (hk : -2147483648 ≤ k ∧ k ≤ 2147483647) (f0 : jF) (sz : Nat)   : ∀ (n9 : Nat) (n : Int) (l : Int) (c : Int) (i : Int) (J : Nat → Nat → Int) (B : Nat → Int → Int), cPx [] [] I A J B → (0 ≤ i ∧ i ≤ 32) → (0 ≤ n ∧ n ≤ i) → (0 ≤ l ∧ l ≤ i) → (0 ≤ c ∧ c ≤ 1) → 32 - i < (n9 : Int) → jt (jm G Y_PI_lengthOfRun (gR (d + 1)) (cQ b f0 sz (fun (rv : Option Value) (I2 : Nat → Nat → Int) (A2 : Nat → Int → Int) => ∃ y : Int, rv = some (.int (jI y)) ∧ (-2147483648 ≤ y ∧ y ≤ 2147483647) ∧ cPx [] [] I A I2 A2))) 11 [(0, .ref (b + 468)), (1, .int (jI j)), (2, .int (jI k)), (3, .int (jI n)), (4, .int (jI l)), (5, .int (jI c)), (6, .int (jI i))] [] (cmf b f0 J B) sz 0 0 := by
  intro n9
  induction n9 with
  | zero =>
    intro n l c i J B hJ i0 n0 l0 c0 hmeas
    exfalso
    omega
  | succ n9 ih =>
    intro n l c i J B hJ i0 n0 l0 c0 hmeas
    refine jt_iload d_PI_lengthOfRun_11 rfl ?_
    refine jt_bipush d_PI_lengthOfRun_13 (by omega) ?_
    refine jt_icmp_ge (t := 65) d_PI_lengthOfRun_15 rfl (by unfold jRi; omega) (by unfold jRi; omega) (fun c101 => ?_) (fun c101 => ?_)
    · skip
      refine jt_iload d_PI_lengthOfRun_65 rfl ?_
      refine jt_if_eq (t := 80) d_PI_lengthOfRun_67 rfl (by unfold jRi; omega) (fun c102 => ?_) (fun c102 => ?_)
      · skip
        refine jt_bipush d_PI_lengthOfRun_80 (by omega) ?_
        exact cm_ret d_PI_lengthOfRun_82 rfl rfl (⟨-2, rfl, by omega, hJ⟩)
      · skip
        refine jt_iload_n d_PI_lengthOfRun_70 rfl ?_
        refine jt_iload_n d_PI_lengthOfRun_71 rfl ?_
        refine jt_icmp_ne (t := 80) d_PI_lengthOfRun_72 rfl (by unfold jRi; omega) (by unfold jRi; omega) (fun c103 => ?_) (fun c103 => ?_)
        · skip
          refine jt_bipush d_PI_lengthOfRun_80 (by omega) ?_
          exact cm_ret d_PI_lengthOfRun_82 rfl rfl (⟨-2, rfl, by omega, hJ⟩)
        · skip
          refine jt_iload d_PI_lengthOfRun_75 rfl ?_
          refine jt_goto (t := 82) d_PI_lengthOfRun_77 rfl ?_
          exact cm_ret d_PI_lengthOfRun_82 rfl rfl (⟨l, rfl, by omega, hJ⟩)
    · skip
      refine jt_aload_n d_PI_lengthOfRun_18 rfl ?_
      refine jt_iload d_PI_lengthOfRun_19 rfl ?_
      refine jt_iload_n d_PI_lengthOfRun_21 rfl ?_
      refine cct_callV (Y := Y_PI_isBlack) (ci := 6) (k := 468) (As := [.int (jI i), .int (jI j)]) (rest := []) d_PI_lengthOfRun_22 PI_c44 yk_PI_isBlack yv_PI_isBlack rfl (Nat.le_of_ble_eq_true rfl) (by decide) cc_7 rfl rfl (Nat.le_of_ble_eq_true rfl) (v_PI_isBlack_p G _ b i j J B hJ.1 hJ.2.1 (by omega) (by omega)) (fun rvq104 Iq104 Aq104 hq104 => ?_)
      obtain ⟨yq104, rfl, ryq104, hqq104⟩ := hq104
      have hpq104 := cPx.trans hJ hqq104 rfl rfl
      show jt _ 25 [(0, .ref (b + 468)), (1, .int (jI j)), (2, .int (jI k)), (3, .int (jI n)), (4, .int (jI l)), (5, .int (jI c)), (6, .int (jI i))] [.int (jI yq104)] (cmf b f0 Iq104 Aq104) _ _ _
      refine jt_iload d_PI_lengthOfRun_25 rfl ?_
      refine jt_icmp_eq (t := 56) d_PI_lengthOfRun_27 rfl (by unfold jRi; omega) (by unfold jRi; omega) (fun c105 => ?_) (fun c105 => ?_)
      · skip
        refine jt_iinc (L' := [(0, .ref (b + 468)), (1, .int (jI j)), (2, .int (jI k)), (3, .int (jI n)), (4, .int (jI (l + 1))), (5, .int (jI c)), (6, .int (jI i))]) d_PI_lengthOfRun_56 rfl (Nat.le_of_ble_eq_true rfl) rfl ?_
        refine jt_iinc (L' := [(0, .ref (b + 468)), (1, .int (jI j)), (2, .int (jI k)), (3, .int (jI n)), (4, .int (jI (l + 1))), (5, .int (jI c)), (6, .int (jI (i + 1)))]) d_PI_lengthOfRun_59 rfl (Nat.le_of_ble_eq_true rfl) rfl ?_
        refine jt_goto (t := 11) d_PI_lengthOfRun_62 rfl ?_
        exact ih n (l + 1) c (i + 1) Iq104 Aq104 hpq104 (by omega) (by omega) (by omega) (by omega) (by omega)
      · skip
        refine jt_iload_n d_PI_lengthOfRun_30 rfl ?_
        refine jt_iload_n d_PI_lengthOfRun_31 rfl ?_
        refine jt_icmp_ne (t := 38) d_PI_lengthOfRun_32 rfl (by unfold jRi; omega) (by unfold jRi; omega) (fun c106 => ?_) (fun c106 => ?_)
        · skip
          refine jt_iinc (L' := [(0, .ref (b + 468)), (1, .int (jI j)), (2, .int (jI k)), (3, .int (jI (n + 1))), (4, .int (jI l)), (5, .int (jI c)), (6, .int (jI i))]) d_PI_lengthOfRun_38 rfl (Nat.le_of_ble_eq_true rfl) rfl ?_
          refine jt_iconst d_PI_lengthOfRun_41 ?_
          refine jt_istore (L' := [(0, .ref (b + 468)), (1, .int (jI j)), (2, .int (jI k)), (3, .int (jI (n + 1))), (4, .int (jI 0)), (5, .int (jI c)), (6, .int (jI i))]) d_PI_lengthOfRun_42 (Nat.le_of_ble_eq_true rfl) rfl ?_
          refine jt_iload d_PI_lengthOfRun_44 rfl ?_
          refine jt_if_ne (t := 53) d_PI_lengthOfRun_46 rfl (by unfold jRi; omega) (fun c107 => ?_) (fun c107 => ?_)
          · skip
            refine jt_iconst d_PI_lengthOfRun_53 ?_
            refine jt_istore (L' := [(0, .ref (b + 468)), (1, .int (jI j)), (2, .int (jI k)), (3, .int (jI (n + 1))), (4, .int (jI 0)), (5, .int (jI 0)), (6, .int (jI i))]) d_PI_lengthOfRun_54 (Nat.le_of_ble_eq_true rfl) rfl ?_
            refine jt_iinc (L' := [(0, .ref (b + 468)), (1, .int (jI j)), (2, .int (jI k)), (3, .int (jI (n + 1))), (4, .int (jI (0 + 1))), (5, .int (jI 0)), (6, .int (jI i))]) d_PI_lengthOfRun_56 rfl (Nat.le_of_ble_eq_true rfl) rfl ?_
            refine jt_iinc (L' := [(0, .ref (b + 468)), (1, .int (jI j)), (2, .int (jI k)), (3, .int (jI (n + 1))), (4, .int (jI (0 + 1))), (5, .int (jI 0)), (6, .int (jI (i + 1)))]) d_PI_lengthOfRun_59 rfl (Nat.le_of_ble_eq_true rfl) rfl ?_
            refine jt_goto (t := 11) d_PI_lengthOfRun_62 rfl ?_
            exact ih (n + 1) (0 + 1) 0 (i + 1) Iq104 Aq104 hpq104 (by omega) (by omega) (by omega) (by omega) (by omega)
          · skip
            refine jt_iconst d_PI_lengthOfRun_49 ?_
            refine jt_goto (t := 54) d_PI_lengthOfRun_50 rfl ?_
            refine jt_istore (L' := [(0, .ref (b + 468)), (1, .int (jI j)), (2, .int (jI k)), (3, .int (jI (n + 1))), (4, .int (jI 0)), (5, .int (jI 1)), (6, .int (jI i))]) d_PI_lengthOfRun_54 (Nat.le_of_ble_eq_true rfl) rfl ?_
            refine jt_iinc (L' := [(0, .ref (b + 468)), (1, .int (jI j)), (2, .int (jI k)), (3, .int (jI (n + 1))), (4, .int (jI (0 + 1))), (5, .int (jI 1)), (6, .int (jI i))]) d_PI_lengthOfRun_56 rfl (Nat.le_of_ble_eq_true rfl) rfl ?_
            refine jt_iinc (L' := [(0, .ref (b + 468)), (1, .int (jI j)), (2, .int (jI k)), (3, .int (jI (n + 1))), (4, .int (jI (0 + 1))), (5, .int (jI 1)), (6, .int (jI (i + 1)))]) d_PI_lengthOfRun_59 rfl (Nat.le_of_ble_eq_true rfl) rfl ?_
            refine jt_goto (t := 11) d_PI_lengthOfRun_62 rfl ?_
            exact ih (n + 1) (0 + 1) 1 (i + 1) Iq104 Aq104 hpq104 (by omega) (by omega) (by omega) (by omega) (by omega)
        · skip
          refine jt_iload d_PI_lengthOfRun_35 rfl ?_
          exact cm_ret d_PI_lengthOfRun_37 rfl rfl (⟨l, rfl, by omega, hpq104⟩)
set_option maxRecDepth 100000 in
set_option maxHeartbeats 4000000 in
theorem v_PI_lengthOfRun_p (G : jG) (d b : Nat) (j : Int) (k : Int) (I : Nat → Nat → Int) (A : Nat → Int → Int) (hI : cSI I) (hA : cSA A) (hj : 0 ≤ j ∧ j ≤ 23) (hk : -2147483648 ≤ k ∧ k ≤ 2147483647) : cct G Y_PI_lengthOfRun (d + 1) b [.ref (b + 468), .int (jI j), .int (jI k)] I A (fun (rv : Option Value) (I2 : Nat → Nat → Int) (A2 : Nat → Int → Int) => ∃ y : Int, rv = some (.int (jI y)) ∧ (-2147483648 ≤ y ∧ y ≤ 2147483647) ∧ cPx [] [] I A I2 A2) := by
  refine cct_of (by decide) (Nat.le_of_ble_eq_true rfl) (fun f0 sz => ?_)
  show jt _ 0 [(0, .ref (b + 468)), (1, .int (jI j)), (2, .int (jI k))] [] _ _ _ _
  have hz0 : cPx [] [] I A I A := cPx.refl hI hA
  refine jt_iconst d_PI_lengthOfRun_0 ?_
  refine jt_istore_n (L' := [(0, .ref (b + 468)), (1, .int (jI j)), (2, .int (jI k)), (3, .int (jI 0))]) d_PI_lengthOfRun_1 (Nat.le_of_ble_eq_true rfl) rfl ?_
  refine jt_iconst d_PI_lengthOfRun_2 ?_
  refine jt_istore (L' := [(0, .ref (b + 468)), (1, .int (jI j)), (2, .int (jI k)), (3, .int (jI 0)), (4, .int (jI 0))]) d_PI_lengthOfRun_3 (Nat.le_of_ble_eq_true rfl) rfl ?_
  refine jt_iconst d_PI_lengthOfRun_5 ?_
  refine jt_istore (L' := [(0, .ref (b + 468)), (1, .int (jI j)), (2, .int (jI k)), (3, .int (jI 0)), (4, .int (jI 0)), (5, .int (jI 0))]) d_PI_lengthOfRun_6 (Nat.le_of_ble_eq_true rfl) rfl ?_
  refine jt_iconst d_PI_lengthOfRun_8 ?_
  refine jt_istore (L' := [(0, .ref (b + 468)), (1, .int (jI j)), (2, .int (jI k)), (3, .int (jI 0)), (4, .int (jI 0)), (5, .int (jI 0)), (6, .int (jI 0))]) d_PI_lengthOfRun_9 (Nat.le_of_ble_eq_true rfl) rfl ?_
  exact l11_PI_lengthOfRun_pv G d b j k I A hI hA hj hk f0 sz  33 0 0 0 0 I A hz0 (by omega) (by omega) (by omega) (by omega) (by omega)
set_option maxRecDepth 100000 in
set_option maxHeartbeats 4000000 in
theorem v_EX_bodyLength_p (G : jG) (d b : Nat) (q : Int) (I : Nat → Nat → Int) (A : Nat → Int → Int) (hI : cSI I) (hA : cSA A) (hq : 0 ≤ q ∧ q ≤ 5) : cct G Y_EX_bodyLength d b [.ref (b + 5), .int (jI q)] I A (fun (rv : Option Value) (I2 : Nat → Nat → Int) (A2 : Nat → Int → Int) => ∃ y : Int, rv = some (.int (jI y)) ∧ (-2147483648 ≤ y ∧ y ≤ 2147483647) ∧ cPx [] [] I A I2 A2) := by
  refine cct_of (by decide) (Nat.le_of_ble_eq_true rfl) (fun f0 sz => ?_)
  show jt _ 0 [(0, .ref (b + 5)), (1, .int (jI q))] [] _ _ _ _
  have hz0 : cPx [] [] I A I A := cPx.refl hI hA
  refine jt_aload_n d_EX_bodyLength_0 rfl ?_
  refine cm_get (k := 5) (v := .ref (b + 7)) d_EX_bodyLength_1 EX_f17 (by decide) cc_2 rfl ?_
  refine jt_iload_n d_EX_bodyLength_4 rfl ?_
  refine cm_ld0 (k := 7) (n := 6) (v := (A 7) q) d_EX_bodyLength_5 (by decide) rfl rfl (by omega) (by omega) (by omega) rfl ?_
  refine jt_topi (fun v1 ev1 => ?_)
  have bv1 : -1 ≤ v1 ∧ v1 ≤ 3 := by rw [ev1]; exact hz0.2.1 7 q
  refine jt_iconst d_EX_bodyLength_6 ?_
  refine jt_icmp_ne (t := 15) d_EX_bodyLength_7 rfl (by unfold jRi; omega) (by unfold jRi; omega) (fun c2 => ?_) (fun c2 => ?_)
  · skip
    refine jt_aload_n d_EX_bodyLength_15 rfl ?_
    refine cm_get (k := 5) (v := .ref (b + 6)) d_EX_bodyLength_16 EX_f13 (by decide) cc_2 rfl ?_
    refine jt_iload_n d_EX_bodyLength_19 rfl ?_
    have h6 : q = 0 ∨ q = 1 ∨ q = 2 ∨ q = 3 ∨ q = 4 ∨ q = 5 := by omega
    rcases h6 with h6 | h6 | h6 | h6 | h6 | h6
    · skip
      subst h6
      refine cm_ldT (z := 0) d_EX_bodyLength_20 (by omega) (by omega) ?_
      show jt _ 21 [(0, .ref (b + 5)), (1, .int (jI 0))] [.ref (b + 14)] (cmf b f0 I A) _ _ _
      refine cm_get (k := 14) (v := .int (jI (I 14 3))) d_EX_bodyLength_21 EX_f38 (by decide) (cc_1 rfl) rfl ?_
      have rb3 : 0 ≤ I 14 3 ∧ I 14 3 ≤ 40 := hz0.1 14 3
      exact cm_ret d_EX_bodyLength_24 rfl rfl (⟨I 14 3, rfl, by omega, hz0⟩)
    · skip
      subst h6
      refine cm_ldT (z := 1) d_EX_bodyLength_20 (by omega) (by omega) ?_
      show jt _ 21 [(0, .ref (b + 5)), (1, .int (jI 1))] [.ref (b + 18)] (cmf b f0 I A) _ _ _
      refine cm_get (k := 18) (v := .int (jI (I 18 3))) d_EX_bodyLength_21 EX_f38 (by decide) (cc_1 rfl) rfl ?_
      have rb4 : 0 ≤ I 18 3 ∧ I 18 3 ≤ 40 := hz0.1 18 3
      exact cm_ret d_EX_bodyLength_24 rfl rfl (⟨I 18 3, rfl, by omega, hz0⟩)
    · skip
      subst h6
      refine cm_ldT (z := 2) d_EX_bodyLength_20 (by omega) (by omega) ?_
      show jt _ 21 [(0, .ref (b + 5)), (1, .int (jI 2))] [.ref (b + 22)] (cmf b f0 I A) _ _ _
      refine cm_get (k := 22) (v := .int (jI (I 22 3))) d_EX_bodyLength_21 EX_f38 (by decide) (cc_1 rfl) rfl ?_
      have rb5 : 0 ≤ I 22 3 ∧ I 22 3 ≤ 40 := hz0.1 22 3
      exact cm_ret d_EX_bodyLength_24 rfl rfl (⟨I 22 3, rfl, by omega, hz0⟩)
    · skip
      subst h6
      refine cm_ldT (z := 3) d_EX_bodyLength_20 (by omega) (by omega) ?_
      show jt _ 21 [(0, .ref (b + 5)), (1, .int (jI 3))] [.ref (b + 26)] (cmf b f0 I A) _ _ _
      refine cm_get (k := 26) (v := .int (jI (I 26 3))) d_EX_bodyLength_21 EX_f38 (by decide) (cc_1 rfl) rfl ?_
      have rb6 : 0 ≤ I 26 3 ∧ I 26 3 ≤ 40 := hz0.1 26 3
      exact cm_ret d_EX_bodyLength_24 rfl rfl (⟨I 26 3, rfl, by omega, hz0⟩)
    · skip
      subst h6
      refine cm_ldT (z := 4) d_EX_bodyLength_20 (by omega) (by omega) ?_
      show jt _ 21 [(0, .ref (b + 5)), (1, .int (jI 4))] [.ref (b + 30)] (cmf b f0 I A) _ _ _
      refine cm_get (k := 30) (v := .int (jI (I 30 3))) d_EX_bodyLength_21 EX_f38 (by decide) (cc_1 rfl) rfl ?_
      have rb7 : 0 ≤ I 30 3 ∧ I 30 3 ≤ 40 := hz0.1 30 3
      exact cm_ret d_EX_bodyLength_24 rfl rfl (⟨I 30 3, rfl, by omega, hz0⟩)
    · skip
      subst h6
      refine cm_ldT (z := 5) d_EX_bodyLength_20 (by omega) (by omega) ?_
      show jt _ 21 [(0, .ref (b + 5)), (1, .int (jI 5))] [.ref (b + 34)] (cmf b f0 I A) _ _ _
      refine cm_get (k := 34) (v := .int (jI (I 34 3))) d_EX_bodyLength_21 EX_f38 (by decide) (cc_1 rfl) rfl ?_
      have rb8 : 0 ≤ I 34 3 ∧ I 34 3 ≤ 40 := hz0.1 34 3
      exact cm_ret d_EX_bodyLength_24 rfl rfl (⟨I 34 3, rfl, by omega, hz0⟩)
  · skip
    refine jt_bipush d_EX_bodyLength_10 (by omega) ?_
    refine jt_goto (t := 24) d_EX_bodyLength_12 rfl ?_
    exact cm_ret d_EX_bodyLength_24 rfl rfl (⟨-2, rfl, by omega, hz0⟩)
set_option maxRecDepth 100000 in
set_option maxHeartbeats 4000000 in
theorem v_GC_black_p (G : jG) (d b : Nat) (i : Int) (j : Int) (I : Nat → Nat → Int) (A : Nat → Int → Int) (hI : cSI I) (hA : cSA A) (hi : -2147483648 ≤ i ∧ i ≤ 2147483647) (hj : -2147483648 ≤ j ∧ j ≤ 2147483647) : cct G Y_GC_black (d + 1) b [.ref (b + 0), .int (jI i), .int (jI j)] I A (fun (rv : Option Value) (I2 : Nat → Nat → Int) (A2 : Nat → Int → Int) => ∃ y : Int, rv = some (.int (jI y)) ∧ (0 ≤ y ∧ y ≤ 1) ∧ cPx [] [] I A I2 A2) := by
  refine cct_of (by decide) (Nat.le_of_ble_eq_true rfl) (fun f0 sz => ?_)
  show jt _ 0 [(0, .ref (b + 0)), (1, .int (jI i)), (2, .int (jI j))] [] _ _ _ _
  have hz0 : cPx [] [] I A I A := cPx.refl hI hA
  refine jt_iload_n d_GC_black_0 rfl ?_
  refine jt_bipush d_GC_black_1 (by omega) ?_
  refine cct_callS (Y := Y_GC_isBelow) (As := [.int (jI i), .int (jI 32)]) (rest := []) d_GC_black_3 GC_c72 yk_GC_isBelow ys_GC_isBelow (Nat.le_of_ble_eq_true rfl) rfl rfl (Nat.le_of_ble_eq_true rfl) (v_GC_isBelow_x G _ b i 32 I A hz0.1 hz0.2.1 (by omega) (by omega)) (fun rvq1 Iq1 Aq1 hq1 => ?_)
  obtain ⟨yq1, rfl, ryq1, hIq1, hAq1, hxq1⟩ := hq1
  rw [hIq1, hAq1]
  by_cases gbq1 : yq1 = 1
  · skip
    obtain rfl : yq1 = 1 := by omega
    have hwq1 := hxq1.1 rfl
    show jt _ 6 [(0, .ref (b + 0)), (1, .int (jI i)), (2, .int (jI j))] [.int (jI 1)] (cmf b f0 I A) _ _ _
    refine jt_if_eq (t := 34) d_GC_black_6 rfl (by unfold jRi; omega) (fun c2 => ?_) (fun c2 => ?_)
    · skip
      exfalso
      omega
    · skip
      refine jt_iload_n d_GC_black_9 rfl ?_
      refine jt_bipush d_GC_black_10 (by omega) ?_
      refine cct_callS (Y := Y_GC_isBelow) (As := [.int (jI j), .int (jI 24)]) (rest := []) d_GC_black_12 GC_c72 yk_GC_isBelow ys_GC_isBelow (Nat.le_of_ble_eq_true rfl) rfl rfl (Nat.le_of_ble_eq_true rfl) (v_GC_isBelow_x G _ b j 24 I A hz0.1 hz0.2.1 (by omega) (by omega)) (fun rvq3 Iq3 Aq3 hq3 => ?_)
      obtain ⟨yq3, rfl, ryq3, hIq3, hAq3, hxq3⟩ := hq3
      rw [hIq3, hAq3]
      by_cases gbq3 : yq3 = 1
      · skip
        obtain rfl : yq3 = 1 := by omega
        have hwq3 := hxq3.1 rfl
        show jt _ 15 [(0, .ref (b + 0)), (1, .int (jI i)), (2, .int (jI j))] [.int (jI 1)] (cmf b f0 I A) _ _ _
        refine jt_if_eq (t := 34) d_GC_black_15 rfl (by unfold jRi; omega) (fun c4 => ?_) (fun c4 => ?_)
        · skip
          exfalso
          omega
        · skip
          refine jt_aload_n d_GC_black_18 rfl ?_
          refine cm_get (k := 0) (v := .ref (b + 468)) d_GC_black_19 GC_f49 (by decide) cc_0 rfl ?_
          refine jt_iload_n d_GC_black_22 rfl ?_
          refine jt_iload_n d_GC_black_23 rfl ?_
          refine cct_callV (Y := Y_PI_isBlack) (ci := 6) (k := 468) (As := [.int (jI i), .int (jI j)]) (rest := []) d_GC_black_24 GC_c187 yk_PI_isBlack yv_PI_isBlack rfl (Nat.le_of_ble_eq_true rfl) (by decide) cc_7 rfl rfl (Nat.le_of_ble_eq_true rfl) (v_PI_isBlack_p G _ b i j I A hz0.1 hz0.2.1 (by omega) (by omega)) (fun rvq5 Iq5 Aq5 hq5 => ?_)
          obtain ⟨yq5, rfl, ryq5, hqq5⟩ := hq5
          have hpq5 := cPx.trans hz0 hqq5 rfl rfl
          show jt _ 27 [(0, .ref (b + 0)), (1, .int (jI i)), (2, .int (jI j))] [.int (jI yq5)] (cmf b f0 Iq5 Aq5) _ _ _
          refine jt_if_eq (t := 34) d_GC_black_27 rfl (by unfold jRi; omega) (fun c6 => ?_) (fun c6 => ?_)
          · skip
            refine jt_iconst d_GC_black_34 ?_
            exact cm_ret d_GC_black_35 rfl (jnz (by omega)) (⟨0, rfl, by omega, hpq5⟩)
          · skip
            refine jt_iconst d_GC_black_30 ?_
            refine jt_goto (t := 35) d_GC_black_31 rfl ?_
            exact cm_ret d_GC_black_35 rfl (jnz (by omega)) (⟨1, rfl, by omega, hpq5⟩)
      · skip
        obtain rfl : yq3 = 0 := by omega
        have hwq3 := hxq3.2 rfl
        show jt _ 15 [(0, .ref (b + 0)), (1, .int (jI i)), (2, .int (jI j))] [.int (jI 0)] (cmf b f0 I A) _ _ _
        refine jt_if_eq (t := 34) d_GC_black_15 rfl (by unfold jRi; omega) (fun c7 => ?_) (fun c7 => ?_)
        · skip
          refine jt_iconst d_GC_black_34 ?_
          exact cm_ret d_GC_black_35 rfl (jnz (by omega)) (⟨0, rfl, by omega, hz0⟩)
        · skip
          exfalso
          omega
  · skip
    obtain rfl : yq1 = 0 := by omega
    have hwq1 := hxq1.2 rfl
    show jt _ 6 [(0, .ref (b + 0)), (1, .int (jI i)), (2, .int (jI j))] [.int (jI 0)] (cmf b f0 I A) _ _ _
    refine jt_if_eq (t := 34) d_GC_black_6 rfl (by unfold jRi; omega) (fun c8 => ?_) (fun c8 => ?_)
    · skip
      refine jt_iconst d_GC_black_34 ?_
      exact cm_ret d_GC_black_35 rfl (jnz (by omega)) (⟨0, rfl, by omega, hz0⟩)
    · skip
      exfalso
      omega
set_option maxRecDepth 100000 in
set_option maxHeartbeats 4000000 in
theorem v_GC_stretch_p (G : jG) (d b : Nat) (j : Int) (k : Int) (I : Nat → Nat → Int) (A : Nat → Int → Int) (hI : cSI I) (hA : cSA A) (hj : -2147483648 ≤ j ∧ j ≤ 2147483647) (hk : -2147483648 ≤ k ∧ k ≤ 2147483647) : cct G Y_GC_stretch (d + 2) b [.ref (b + 0), .int (jI j), .int (jI k)] I A (fun (rv : Option Value) (I2 : Nat → Nat → Int) (A2 : Nat → Int → Int) => ∃ y : Int, rv = some (.int (jI y)) ∧ (-2147483648 ≤ y ∧ y ≤ 2147483647) ∧ cPx [] [] I A I2 A2) := by
  refine cct_of (by decide) (Nat.le_of_ble_eq_true rfl) (fun f0 sz => ?_)
  show jt _ 0 [(0, .ref (b + 0)), (1, .int (jI j)), (2, .int (jI k))] [] _ _ _ _
  have hz0 : cPx [] [] I A I A := cPx.refl hI hA
  refine jt_iload_n d_GC_stretch_0 rfl ?_
  refine jt_bipush d_GC_stretch_1 (by omega) ?_
  refine cct_callS (Y := Y_GC_isBelow) (As := [.int (jI j), .int (jI 24)]) (rest := []) d_GC_stretch_3 GC_c72 yk_GC_isBelow ys_GC_isBelow (Nat.le_of_ble_eq_true rfl) rfl rfl (Nat.le_of_ble_eq_true rfl) (v_GC_isBelow_x G _ b j 24 I A hz0.1 hz0.2.1 (by omega) (by omega)) (fun rvq1 Iq1 Aq1 hq1 => ?_)
  obtain ⟨yq1, rfl, ryq1, hIq1, hAq1, hxq1⟩ := hq1
  rw [hIq1, hAq1]
  by_cases gbq1 : yq1 = 1
  · skip
    obtain rfl : yq1 = 1 := by omega
    have hwq1 := hxq1.1 rfl
    show jt _ 6 [(0, .ref (b + 0)), (1, .int (jI j)), (2, .int (jI k))] [.int (jI 1)] (cmf b f0 I A) _ _ _
    refine jt_if_eq (t := 25) d_GC_stretch_6 rfl (by unfold jRi; omega) (fun c2 => ?_) (fun c2 => ?_)
    · skip
      exfalso
      omega
    · skip
      refine jt_iload_n d_GC_stretch_9 rfl ?_
      refine jt_if_lt (t := 25) d_GC_stretch_10 rfl (by unfold jRi; omega) (fun c3 => ?_) (fun c3 => ?_)
      · skip
        refine jt_iconst d_GC_stretch_25 ?_
        exact cm_ret d_GC_stretch_26 rfl rfl (⟨-1, rfl, by omega, hz0⟩)
      · skip
        refine jt_aload_n d_GC_stretch_13 rfl ?_
        refine cm_get (k := 0) (v := .ref (b + 468)) d_GC_stretch_14 GC_f49 (by decide) cc_0 rfl ?_
        refine jt_iload_n d_GC_stretch_17 rfl ?_
        refine jt_iload_n d_GC_stretch_18 rfl ?_
        refine cct_callV (Y := Y_PI_lengthOfRun) (ci := 6) (k := 468) (As := [.int (jI j), .int (jI k)]) (rest := []) d_GC_stretch_19 GC_c190 yk_PI_lengthOfRun yv_PI_lengthOfRun rfl (Nat.le_of_ble_eq_true rfl) (by decide) cc_7 rfl rfl (Nat.le_of_ble_eq_true rfl) (v_PI_lengthOfRun_p G _ b j k I A hz0.1 hz0.2.1 (by omega) (by omega)) (fun rvq4 Iq4 Aq4 hq4 => ?_)
        obtain ⟨yq4, rfl, ryq4, hqq4⟩ := hq4
        have hpq4 := cPx.trans hz0 hqq4 rfl rfl
        show jt _ 22 [(0, .ref (b + 0)), (1, .int (jI j)), (2, .int (jI k))] [.int (jI yq4)] (cmf b f0 Iq4 Aq4) _ _ _
        refine jt_goto (t := 26) d_GC_stretch_22 rfl ?_
        exact cm_ret d_GC_stretch_26 rfl rfl (⟨yq4, rfl, by omega, hpq4⟩)
  · skip
    obtain rfl : yq1 = 0 := by omega
    have hwq1 := hxq1.2 rfl
    show jt _ 6 [(0, .ref (b + 0)), (1, .int (jI j)), (2, .int (jI k))] [.int (jI 0)] (cmf b f0 I A) _ _ _
    refine jt_if_eq (t := 25) d_GC_stretch_6 rfl (by unfold jRi; omega) (fun c5 => ?_) (fun c5 => ?_)
    · skip
      refine jt_iconst d_GC_stretch_25 ?_
      exact cm_ret d_GC_stretch_26 rfl rfl (⟨-1, rfl, by omega, hz0⟩)
    · skip
      exfalso
      omega
set_option maxRecDepth 100000 in
set_option maxHeartbeats 4000000 in
theorem v_GC_count_p (G : jG) (d b : Nat) (q : Int) (I : Nat → Nat → Int) (A : Nat → Int → Int) (hI : cSI I) (hA : cSA A) (hq : -2147483648 ≤ q ∧ q ≤ 2147483647) : cct G Y_GC_count (d + 1) b [.ref (b + 0), .int (jI q)] I A (fun (rv : Option Value) (I2 : Nat → Nat → Int) (A2 : Nat → Int → Int) => ∃ y : Int, rv = some (.int (jI y)) ∧ (-2147483648 ≤ y ∧ y ≤ 2147483647) ∧ cPx [] [] I A I2 A2) := by
  refine cct_of (by decide) (Nat.le_of_ble_eq_true rfl) (fun f0 sz => ?_)
  show jt _ 0 [(0, .ref (b + 0)), (1, .int (jI q))] [] _ _ _ _
  have hz0 : cPx [] [] I A I A := cPx.refl hI hA
  refine jt_iload_n d_GC_count_0 rfl ?_
  by_cases hsw : q < 0 ∨ 8 < q
  · skip
    refine jt_tableOut (t := 126) d_GC_count_1 (by unfold jRi; omega) hsw rfl ?_
    refine jt_iload_n d_GC_count_126 rfl ?_
    refine jt_bipush d_GC_count_127 (by omega) ?_
    refine jt_isub d_GC_count_129 ?_
    refine jt_topie (fun v1 bv1 ev1 => ?_)
    refine jt_bipush d_GC_count_130 (by omega) ?_
    refine cct_callS (Y := Y_GC_isBelow) (As := [.int (jI v1), .int (jI 6)]) (rest := []) d_GC_count_132 GC_c72 yk_GC_isBelow ys_GC_isBelow (Nat.le_of_ble_eq_true rfl) rfl rfl (Nat.le_of_ble_eq_true rfl) (v_GC_isBelow_x G _ b v1 6 I A hz0.1 hz0.2.1 (by omega) (by omega)) (fun rvq2 Iq2 Aq2 hq2 => ?_)
    obtain ⟨yq2, rfl, ryq2, hIq2, hAq2, hxq2⟩ := hq2
    rw [hIq2, hAq2]
    by_cases gbq2 : yq2 = 1
    · skip
      obtain rfl : yq2 = 1 := by omega
      have hwq2 := hxq2.1 rfl
      show jt _ 135 [(0, .ref (b + 0)), (1, .int (jI q))] [.int (jI 1)] (cmf b f0 I A) _ _ _
      refine jt_if_eq (t := 152) d_GC_count_135 rfl (by unfold jRi; omega) (fun c3 => ?_) (fun c3 => ?_)
      · skip
        exfalso
        omega
      · skip
        refine jt_aload_n d_GC_count_138 rfl ?_
        refine cm_get (k := 0) (v := .ref (b + 5)) d_GC_count_139 GC_f21 (by decide) cc_0 rfl ?_
        refine jt_iload_n d_GC_count_142 rfl ?_
        refine jt_bipush d_GC_count_143 (by omega) ?_
        refine jt_isub d_GC_count_145 ?_
        refine jt_topie (fun v4 bv4 ev4 => ?_)
        refine cct_callV (Y := Y_EX_bodyLength) (ci := 1) (k := 5) (As := [.int (jI v4)]) (rest := []) d_GC_count_146 GC_c204 yk_EX_bodyLength yv_EX_bodyLength rfl (Nat.le_of_ble_eq_true rfl) (by decide) cc_2 rfl rfl (Nat.le_of_ble_eq_true rfl) (v_EX_bodyLength_p G _ b v4 I A hz0.1 hz0.2.1 (by omega)) (fun rvq5 Iq5 Aq5 hq5 => ?_)
        obtain ⟨yq5, rfl, ryq5, hqq5⟩ := hq5
        have hpq5 := cPx.trans hz0 hqq5 rfl rfl
        show jt _ 149 [(0, .ref (b + 0)), (1, .int (jI q))] [.int (jI yq5)] (cmf b f0 Iq5 Aq5) _ _ _
        refine jt_goto (t := 153) d_GC_count_149 rfl ?_
        exact cm_ret d_GC_count_153 rfl rfl (⟨yq5, rfl, by omega, hpq5⟩)
    · skip
      obtain rfl : yq2 = 0 := by omega
      have hwq2 := hxq2.2 rfl
      show jt _ 135 [(0, .ref (b + 0)), (1, .int (jI q))] [.int (jI 0)] (cmf b f0 I A) _ _ _
      refine jt_if_eq (t := 152) d_GC_count_135 rfl (by unfold jRi; omega) (fun c6 => ?_) (fun c6 => ?_)
      · skip
        refine jt_iconst d_GC_count_152 ?_
        exact cm_ret d_GC_count_153 rfl rfl (⟨-1, rfl, by omega, hz0⟩)
      · skip
        exfalso
        omega
  by_cases hs0 : q = 0
  · skip
    refine jt_tableIn (t := 52) d_GC_count_1 (by unfold jRi; omega) (by omega) (by omega) (by rw [hs0]; rfl) rfl ?_
    refine jt_aload_n d_GC_count_52 rfl ?_
    refine cm_get (k := 0) (v := .ref (b + 1)) d_GC_count_53 GC_f14 (by decide) cc_0 rfl ?_
    refine cm_get (k := 1) (v := .int (jI (I 1 3))) d_GC_count_56 GC_f65 (by decide) (cc_1 rfl) rfl ?_
    have rb7 : 0 ≤ I 1 3 ∧ I 1 3 ≤ 120 := hz0.1 1 3
    exact cm_ret d_GC_count_59 rfl rfl (⟨I 1 3, rfl, by omega, hz0⟩)
  by_cases hs1 : q = 1
  · skip
    refine jt_tableIn (t := 60) d_GC_count_1 (by unfold jRi; omega) (by omega) (by omega) (by rw [hs1]; rfl) rfl ?_
    refine jt_aload_n d_GC_count_60 rfl ?_
    refine cm_get (k := 0) (v := .ref (b + 468)) d_GC_count_61 GC_f49 (by decide) cc_0 rfl ?_
    refine cct_callV (Y := Y_PI_blackPoints) (ci := 6) (k := 468) (As := []) (rest := []) d_GC_count_64 GC_c194 yk_PI_blackPoints yv_PI_blackPoints rfl (Nat.le_of_ble_eq_true rfl) (by decide) cc_7 rfl rfl (Nat.le_of_ble_eq_true rfl) (v_PI_blackPoints_p G _ b  I A hz0.1 hz0.2.1 ) (fun rvq8 Iq8 Aq8 hq8 => ?_)
    obtain ⟨yq8, rfl, ryq8, hqq8⟩ := hq8
    have hpq8 := cPx.trans hz0 hqq8 rfl rfl
    show jt _ 67 [(0, .ref (b + 0)), (1, .int (jI q))] [.int (jI yq8)] (cmf b f0 Iq8 Aq8) _ _ _
    exact cm_ret d_GC_count_67 rfl rfl (⟨yq8, rfl, by omega, hpq8⟩)
  by_cases hs2 : q = 2
  · skip
    refine jt_tableIn (t := 68) d_GC_count_1 (by unfold jRi; omega) (by omega) (by omega) (by rw [hs2]; rfl) rfl ?_
    refine jt_aload_n d_GC_count_68 rfl ?_
    refine cm_get (k := 0) (v := .ref (b + 468)) d_GC_count_69 GC_f49 (by decide) cc_0 rfl ?_
    refine jt_iconst d_GC_count_72 ?_
    refine jt_iconst d_GC_count_73 ?_
    refine cct_callV (Y := Y_PI_edge) (ci := 6) (k := 468) (As := [.int (jI 1), .int (jI 0)]) (rest := []) d_GC_count_74 GC_c197 yk_PI_edge yv_PI_edge rfl (Nat.le_of_ble_eq_true rfl) (by decide) cc_7 rfl rfl (Nat.le_of_ble_eq_true rfl) (v_PI_edge_p G _ b 1 0 I A hz0.1 hz0.2.1 (by omega) (by omega)) (fun rvq9 Iq9 Aq9 hq9 => ?_)
    obtain ⟨yq9, rfl, ryq9, hqq9⟩ := hq9
    have hpq9 := cPx.trans hz0 hqq9 rfl rfl
    show jt _ 77 [(0, .ref (b + 0)), (1, .int (jI q))] [.int (jI yq9)] (cmf b f0 Iq9 Aq9) _ _ _
    exact cm_ret d_GC_count_77 rfl rfl (⟨yq9, rfl, by omega, hpq9⟩)
  by_cases hs3 : q = 3
  · skip
    refine jt_tableIn (t := 78) d_GC_count_1 (by unfold jRi; omega) (by omega) (by omega) (by rw [hs3]; rfl) rfl ?_
    refine jt_aload_n d_GC_count_78 rfl ?_
    refine cm_get (k := 0) (v := .ref (b + 468)) d_GC_count_79 GC_f49 (by decide) cc_0 rfl ?_
    refine jt_iconst d_GC_count_82 ?_
    refine jt_iconst d_GC_count_83 ?_
    refine cct_callV (Y := Y_PI_edge) (ci := 6) (k := 468) (As := [.int (jI 1), .int (jI 1)]) (rest := []) d_GC_count_84 GC_c197 yk_PI_edge yv_PI_edge rfl (Nat.le_of_ble_eq_true rfl) (by decide) cc_7 rfl rfl (Nat.le_of_ble_eq_true rfl) (v_PI_edge_p G _ b 1 1 I A hz0.1 hz0.2.1 (by omega) (by omega)) (fun rvq10 Iq10 Aq10 hq10 => ?_)
    obtain ⟨yq10, rfl, ryq10, hqq10⟩ := hq10
    have hpq10 := cPx.trans hz0 hqq10 rfl rfl
    show jt _ 87 [(0, .ref (b + 0)), (1, .int (jI q))] [.int (jI yq10)] (cmf b f0 Iq10 Aq10) _ _ _
    exact cm_ret d_GC_count_87 rfl rfl (⟨yq10, rfl, by omega, hpq10⟩)
  by_cases hs4 : q = 4
  · skip
    refine jt_tableIn (t := 88) d_GC_count_1 (by unfold jRi; omega) (by omega) (by omega) (by rw [hs4]; rfl) rfl ?_
    refine jt_aload_n d_GC_count_88 rfl ?_
    refine cm_get (k := 0) (v := .ref (b + 468)) d_GC_count_89 GC_f49 (by decide) cc_0 rfl ?_
    refine jt_iconst d_GC_count_92 ?_
    refine jt_iconst d_GC_count_93 ?_
    refine cct_callV (Y := Y_PI_edge) (ci := 6) (k := 468) (As := [.int (jI 0), .int (jI 0)]) (rest := []) d_GC_count_94 GC_c197 yk_PI_edge yv_PI_edge rfl (Nat.le_of_ble_eq_true rfl) (by decide) cc_7 rfl rfl (Nat.le_of_ble_eq_true rfl) (v_PI_edge_p G _ b 0 0 I A hz0.1 hz0.2.1 (by omega) (by omega)) (fun rvq11 Iq11 Aq11 hq11 => ?_)
    obtain ⟨yq11, rfl, ryq11, hqq11⟩ := hq11
    have hpq11 := cPx.trans hz0 hqq11 rfl rfl
    show jt _ 97 [(0, .ref (b + 0)), (1, .int (jI q))] [.int (jI yq11)] (cmf b f0 Iq11 Aq11) _ _ _
    exact cm_ret d_GC_count_97 rfl rfl (⟨yq11, rfl, by omega, hpq11⟩)
  by_cases hs5 : q = 5
  · skip
    refine jt_tableIn (t := 98) d_GC_count_1 (by unfold jRi; omega) (by omega) (by omega) (by rw [hs5]; rfl) rfl ?_
    refine jt_aload_n d_GC_count_98 rfl ?_
    refine cm_get (k := 0) (v := .ref (b + 468)) d_GC_count_99 GC_f49 (by decide) cc_0 rfl ?_
    refine jt_iconst d_GC_count_102 ?_
    refine jt_iconst d_GC_count_103 ?_
    refine cct_callV (Y := Y_PI_edge) (ci := 6) (k := 468) (As := [.int (jI 0), .int (jI 1)]) (rest := []) d_GC_count_104 GC_c197 yk_PI_edge yv_PI_edge rfl (Nat.le_of_ble_eq_true rfl) (by decide) cc_7 rfl rfl (Nat.le_of_ble_eq_true rfl) (v_PI_edge_p G _ b 0 1 I A hz0.1 hz0.2.1 (by omega) (by omega)) (fun rvq12 Iq12 Aq12 hq12 => ?_)
    obtain ⟨yq12, rfl, ryq12, hqq12⟩ := hq12
    have hpq12 := cPx.trans hz0 hqq12 rfl rfl
    show jt _ 107 [(0, .ref (b + 0)), (1, .int (jI q))] [.int (jI yq12)] (cmf b f0 Iq12 Aq12) _ _ _
    exact cm_ret d_GC_count_107 rfl rfl (⟨yq12, rfl, by omega, hpq12⟩)
  by_cases hs6 : q = 6
  · skip
    refine jt_tableIn (t := 108) d_GC_count_1 (by unfold jRi; omega) (by omega) (by omega) (by rw [hs6]; rfl) rfl ?_
    refine jt_aload_n d_GC_count_108 rfl ?_
    refine cm_get (k := 0) (v := .int (jI (I 0 7))) d_GC_count_109 GC_f134 (by decide) cc_0 rfl ?_
    have rb13 : 0 ≤ I 0 7 ∧ I 0 7 ≤ 2147483647 := hz0.1 0 7
    exact cm_ret d_GC_count_112 rfl rfl (⟨I 0 7, rfl, by omega, hz0⟩)
  by_cases hs7 : q = 7
  · skip
    refine jt_tableIn (t := 113) d_GC_count_1 (by unfold jRi; omega) (by omega) (by omega) (by rw [hs7]; rfl) rfl ?_
    refine jt_aload_n d_GC_count_113 rfl ?_
    refine cm_get (k := 0) (v := .int (jI (I 0 8))) d_GC_count_114 GC_f104 (by decide) cc_0 rfl ?_
    have rb14 : -2147483648 ≤ I 0 8 ∧ I 0 8 ≤ 2147483647 := hz0.1 0 8
    exact cm_ret d_GC_count_117 rfl rfl (⟨I 0 8, rfl, by omega, hz0⟩)
  by_cases hs8 : q = 8
  · skip
    refine jt_tableIn (t := 118) d_GC_count_1 (by unfold jRi; omega) (by omega) (by omega) (by rw [hs8]; rfl) rfl ?_
    refine jt_aload_n d_GC_count_118 rfl ?_
    refine cm_get (k := 0) (v := .ref (b + 5)) d_GC_count_119 GC_f21 (by decide) cc_0 rfl ?_
    refine cm_get (k := 5) (v := .int (jI (I 5 6))) d_GC_count_122 GC_f201 (by decide) cc_2 rfl ?_
    have rb15 : 0 ≤ I 5 6 ∧ I 5 6 ≤ 101 := hz0.1 5 6
    exact cm_ret d_GC_count_125 rfl rfl (⟨I 5 6, rfl, by omega, hz0⟩)
  exfalso
  omega

set_option maxRecDepth 100000 in
set_option maxHeartbeats 4000000 in
theorem l2_VA_copy_x43v (G : jG) (d b : Nat)  (I : Nat → Nat → Int) (A : Nat → Int → Int) (hI : cSI I) (hA : cSA A) (f0 : jF) (sz : Nat)   : ∀ (n9 : Nat) (v : Int) (J : Nat → Nat → Int) (B : Nat → Int → Int), cPf [] tV43 I A J B → (0 ≤ v ∧ v ≤ 12) → (∀ u, 0 ≤ u → u < v → B 44 u = A 434 u ∧ ∀ z, 0 ≤ z → z < 13 → B (47 + 2 * u.toNat) z = A (437 + 2 * u.toNat) z) → 12 - v < (n9 : Int) → jt (jm G Y_VA_copy (gR (d + 1)) (cQ b f0 sz (fun (rv : Option Value) (I2 : Nat → Nat → Int) (A2 : Nat → Int → Int) => rv = none ∧ cPf [] tV43 I A I2 A2 ∧ ∀ u, 0 ≤ u → u < 12 → A2 44 u = A 434 u ∧ ∀ z, 0 ≤ z → z < 13 → A2 (47 + 2 * u.toNat) z = A (437 + 2 * u.toNat) z))) 2 [(0, .ref (b + 43)), (1, .ref (b + 433)), (2, .int (jI v))] [] (cmf b f0 J B) sz 0 0 := by
  intro n9
  induction n9 with
  | zero =>
    intro v J B hJ v0 hc hmeas
    exfalso
    omega
  | succ n9 ih =>
    intro v J B hJ v0 hc hmeas
    refine jt_iload_n d_VA_copy_2 rfl ?_
    refine jt_bipush d_VA_copy_3 (by omega) ?_
    refine jt_icmp_ge (t := 41) d_VA_copy_5 rfl (by unfold jRi; omega) (by unfold jRi; omega) (fun c101 => ?_) (fun c101 => ?_)
    · skip
      exact cm_vret d_VA_copy_41 rfl (⟨rfl, hJ, fun u a c => hc u a (by omega)⟩)
    · skip
      refine jt_aload_n d_VA_copy_8 rfl ?_
      refine cm_get (k := 43) (v := .ref (b + 44)) d_VA_copy_9 VA_f9 (by decide) (cc_4 rfl) rfl ?_
      refine jt_iload_n d_VA_copy_12 rfl ?_
      refine jt_aload_n d_VA_copy_13 rfl ?_
      refine cm_get (k := 433) (v := .ref (b + 434)) d_VA_copy_14 VA_f9 (by decide) (cc_4 rfl) rfl ?_
      refine jt_iload_n d_VA_copy_17 rfl ?_
      refine cm_ld0 (k := 434) (n := 12) (v := (B 434) v) d_VA_copy_18 (by decide) rfl rfl (by omega) (by omega) (by omega) rfl ?_
      refine jt_topi (fun v102 ev102 => ?_)
      have bv102 : -2147483648 ≤ v102 ∧ v102 ≤ 2147483647 := by rw [ev102]; exact hJ.2.1 434 v
      rw [hJ.2.2.2 434 (tV43_f (by decide)) trivial] at ev102
      refine cm_st0 (k := 44) (n := 12) (v := v102) d_VA_copy_19 (by decide) rfl rfl (by omega) (by omega) (by omega) ?_
      have p103 := cPf.A 44 (ju (B 44) v v102) hJ (Or.inl rfl) (gju (hJ.2.1 44) (show -2147483648 ≤ v102 ∧ v102 ≤ 2147483647 by omega))
      refine jt_aload_n d_VA_copy_20 rfl ?_
      refine cm_get (k := 43) (v := .ref (b + 45)) d_VA_copy_21 VA_f21 (by decide) (cc_4 rfl) rfl ?_
      refine jt_iload_n d_VA_copy_24 rfl ?_
      refine cm_ldF (k := 45) (n := 12) (z := v) d_VA_copy_25 (by decide) rfl rfl (by omega) (by omega) (by omega) ?_
      have hfq104 := form_at 45 (by decide) rfl (v : Int).toNat (show (v : Int).toNat < 12 by omega)
      obtain ⟨q104, eqq104⟩ : ∃ q9 : Nat, q9 = 45 + 1 + 2 * (v : Int).toNat := ⟨_, rfl⟩
      rw [← eqq104] at hfq104 ⊢
      have fpq104 := form_parts q104 hfq104.2 hfq104.1
      have glq104 := eLong hfq104.2 hfq104.1
      refine jt_aload_n d_VA_copy_26 rfl ?_
      refine cm_get (k := 433) (v := .ref (b + 435)) d_VA_copy_27 VA_f21 (by decide) (cc_4 rfl) rfl ?_
      refine jt_iload_n d_VA_copy_30 rfl ?_
      refine cm_ldF (k := 435) (n := 12) (z := v) d_VA_copy_31 (by decide) rfl rfl (by omega) (by omega) (by omega) ?_
      have hfq105 := form_at 435 (by decide) rfl (v : Int).toNat (show (v : Int).toNat < 12 by omega)
      obtain ⟨q105, eqq105⟩ : ∃ q9 : Nat, q9 = 435 + 1 + 2 * (v : Int).toNat := ⟨_, rfl⟩
      rw [← eqq105] at hfq105 ⊢
      have fpq105 := form_parts q105 hfq105.2 hfq105.1
      have glq105 := eLong hfq105.2 hfq105.1
      refine cct_callV (Y := Y_FO_copy) (ci := 4) (k := q104) (As := [.ref (b + q105)]) (rest := []) d_VA_copy_32 VA_c39 yk_FO_copy yv_FO_copy rfl (Nat.le_of_ble_eq_true rfl) hfq104.2 (cc_5 hfq104.1) rfl rfl (Nat.le_of_ble_eq_true rfl) (v_FO_copy_x G _ b q104 q105 J (va_up B 44 (ju (B 44) v v102)) p103.1 p103.2.1 hfq104.2 hfq104.1 hfq105.2 hfq105.1 (by omega)) (fun rvq106 Iq106 Aq106 hq106 => ?_)
      obtain ⟨rfl, hqq106, hxq106⟩ := hq106
      have hpq106 := cPf.transx p103 hqq106 rfl (tv_in3 (by omega) (by omega))
      have g1 : Aq106 44 = ju (B 44) v v102 := hqq106.2.2.2 44 (ctn1 (by omega)) trivial
      have g2 : ∀ k, k ≠ q104 + 1 → k ≠ 44 → Aq106 k = B k := fun k h1 h2 => (hqq106.2.2.2 k (ctn1 h1) trivial).trans (va_up_ne _ _ h2)
      have g3 : ∀ z, 0 ≤ z → z < 13 → Aq106 (q104 + 1) z = A (437 + 2 * v.toNat) z := fun z a c => (hxq106 z a c).trans (by rw [show q105 + 1 = 437 + 2 * v.toNat by omega, va_up_ne _ _ (by omega), hJ.2.2.2 _ (tV43_f (by omega)) trivial])
      show jt _ 35 [(0, .ref (b + 43)), (1, .ref (b + 433)), (2, .int (jI v))] [] (cmf b f0 Iq106 Aq106) _ _ _
      refine jt_iinc (L' := [(0, .ref (b + 43)), (1, .ref (b + 433)), (2, .int (jI (v + 1)))]) d_VA_copy_35 rfl (Nat.le_of_ble_eq_true rfl) rfl ?_
      refine jt_goto (t := 2) d_VA_copy_38 rfl ?_
      exact ih (v + 1) Iq106 Aq106 hpq106 (by omega) (fun u a c => by rcases Classical.em (u = v) with e9 | e9; exact (by rw [e9]; exact ⟨by rw [g1, ju_self]; omega, fun z z0 z1 => by rw [show 47 + 2 * v.toNat = q104 + 1 by omega]; exact g3 z z0 z1⟩); exact ⟨by rw [g1, ju_ne _ _ e9]; exact (hc u a (by omega)).1, fun z z0 z1 => by rw [g2 _ (by omega) (by omega)]; exact (hc u a (by omega)).2 z z0 z1⟩) (by omega)
set_option maxRecDepth 100000 in
set_option maxHeartbeats 4000000 in
theorem v_VA_copy_x43 (G : jG) (d b : Nat)  (I : Nat → Nat → Int) (A : Nat → Int → Int) (hI : cSI I) (hA : cSA A) : cct G Y_VA_copy (d + 1) b [.ref (b + 43), .ref (b + 433)] I A (fun (rv : Option Value) (I2 : Nat → Nat → Int) (A2 : Nat → Int → Int) => rv = none ∧ cPf [] tV43 I A I2 A2 ∧ ∀ u, 0 ≤ u → u < 12 → A2 44 u = A 434 u ∧ ∀ z, 0 ≤ z → z < 13 → A2 (47 + 2 * u.toNat) z = A (437 + 2 * u.toNat) z) := by
  refine cct_of (by decide) (Nat.le_of_ble_eq_true rfl) (fun f0 sz => ?_)
  show jt _ 0 [(0, .ref (b + 43)), (1, .ref (b + 433))] [] _ _ _ _
  have hz0 : cPf [] tV43 I A I A := cPf.refl hI hA
  refine jt_iconst d_VA_copy_0 ?_
  refine jt_istore_n (L' := [(0, .ref (b + 43)), (1, .ref (b + 433)), (2, .int (jI 0))]) d_VA_copy_1 (Nat.le_of_ble_eq_true rfl) rfl ?_
  exact l2_VA_copy_x43v G d b  I A hI hA f0 sz  13 0 I A hz0 (by omega) (fun u a c => by omega) (by omega)
set_option maxRecDepth 100000 in
set_option maxHeartbeats 4000000 in
theorem l2_VA_copy_x433v (G : jG) (d b : Nat)  (I : Nat → Nat → Int) (A : Nat → Int → Int) (hI : cSI I) (hA : cSA A) (f0 : jF) (sz : Nat)   : ∀ (n9 : Nat) (v : Int) (J : Nat → Nat → Int) (B : Nat → Int → Int), cPf [] tBef I A J B → (0 ≤ v ∧ v ≤ 12) → (∀ u, 0 ≤ u → u < v → B 434 u = A 44 u ∧ ∀ z, 0 ≤ z → z < 13 → B (437 + 2 * u.toNat) z = A (47 + 2 * u.toNat) z) → 12 - v < (n9 : Int) → jt (jm G Y_VA_copy (gR (d + 1)) (cQ b f0 sz (fun (rv : Option Value) (I2 : Nat → Nat → Int) (A2 : Nat → Int → Int) => rv = none ∧ cPf [] tBef I A I2 A2 ∧ ∀ u, 0 ≤ u → u < 12 → A2 434 u = A 44 u ∧ ∀ z, 0 ≤ z → z < 13 → A2 (437 + 2 * u.toNat) z = A (47 + 2 * u.toNat) z))) 2 [(0, .ref (b + 433)), (1, .ref (b + 43)), (2, .int (jI v))] [] (cmf b f0 J B) sz 0 0 := by
  intro n9
  induction n9 with
  | zero =>
    intro v J B hJ v0 hc hmeas
    exfalso
    omega
  | succ n9 ih =>
    intro v J B hJ v0 hc hmeas
    refine jt_iload_n d_VA_copy_2 rfl ?_
    refine jt_bipush d_VA_copy_3 (by omega) ?_
    refine jt_icmp_ge (t := 41) d_VA_copy_5 rfl (by unfold jRi; omega) (by unfold jRi; omega) (fun c101 => ?_) (fun c101 => ?_)
    · skip
      exact cm_vret d_VA_copy_41 rfl (⟨rfl, hJ, fun u a c => hc u a (by omega)⟩)
    · skip
      refine jt_aload_n d_VA_copy_8 rfl ?_
      refine cm_get (k := 433) (v := .ref (b + 434)) d_VA_copy_9 VA_f9 (by decide) (cc_4 rfl) rfl ?_
      refine jt_iload_n d_VA_copy_12 rfl ?_
      refine jt_aload_n d_VA_copy_13 rfl ?_
      refine cm_get (k := 43) (v := .ref (b + 44)) d_VA_copy_14 VA_f9 (by decide) (cc_4 rfl) rfl ?_
      refine jt_iload_n d_VA_copy_17 rfl ?_
      refine cm_ld0 (k := 44) (n := 12) (v := (B 44) v) d_VA_copy_18 (by decide) rfl rfl (by omega) (by omega) (by omega) rfl ?_
      refine jt_topi (fun v102 ev102 => ?_)
      have bv102 : -2147483648 ≤ v102 ∧ v102 ≤ 2147483647 := by rw [ev102]; exact hJ.2.1 44 v
      rw [hJ.2.2.2 44 (tBef_f (by decide)) trivial] at ev102
      refine cm_st0 (k := 434) (n := 12) (v := v102) d_VA_copy_19 (by decide) rfl rfl (by omega) (by omega) (by omega) ?_
      have p103 := cPf.A 434 (ju (B 434) v v102) hJ (Or.inl rfl) (gju (hJ.2.1 434) (show -2147483648 ≤ v102 ∧ v102 ≤ 2147483647 by omega))
      refine jt_aload_n d_VA_copy_20 rfl ?_
      refine cm_get (k := 433) (v := .ref (b + 435)) d_VA_copy_21 VA_f21 (by decide) (cc_4 rfl) rfl ?_
      refine jt_iload_n d_VA_copy_24 rfl ?_
      refine cm_ldF (k := 435) (n := 12) (z := v) d_VA_copy_25 (by decide) rfl rfl (by omega) (by omega) (by omega) ?_
      have hfq104 := form_at 435 (by decide) rfl (v : Int).toNat (show (v : Int).toNat < 12 by omega)
      obtain ⟨q104, eqq104⟩ : ∃ q9 : Nat, q9 = 435 + 1 + 2 * (v : Int).toNat := ⟨_, rfl⟩
      rw [← eqq104] at hfq104 ⊢
      have fpq104 := form_parts q104 hfq104.2 hfq104.1
      have glq104 := eLong hfq104.2 hfq104.1
      refine jt_aload_n d_VA_copy_26 rfl ?_
      refine cm_get (k := 43) (v := .ref (b + 45)) d_VA_copy_27 VA_f21 (by decide) (cc_4 rfl) rfl ?_
      refine jt_iload_n d_VA_copy_30 rfl ?_
      refine cm_ldF (k := 45) (n := 12) (z := v) d_VA_copy_31 (by decide) rfl rfl (by omega) (by omega) (by omega) ?_
      have hfq105 := form_at 45 (by decide) rfl (v : Int).toNat (show (v : Int).toNat < 12 by omega)
      obtain ⟨q105, eqq105⟩ : ∃ q9 : Nat, q9 = 45 + 1 + 2 * (v : Int).toNat := ⟨_, rfl⟩
      rw [← eqq105] at hfq105 ⊢
      have fpq105 := form_parts q105 hfq105.2 hfq105.1
      have glq105 := eLong hfq105.2 hfq105.1
      refine cct_callV (Y := Y_FO_copy) (ci := 4) (k := q104) (As := [.ref (b + q105)]) (rest := []) d_VA_copy_32 VA_c39 yk_FO_copy yv_FO_copy rfl (Nat.le_of_ble_eq_true rfl) hfq104.2 (cc_5 hfq104.1) rfl rfl (Nat.le_of_ble_eq_true rfl) (v_FO_copy_x G _ b q104 q105 J (va_up B 434 (ju (B 434) v v102)) p103.1 p103.2.1 hfq104.2 hfq104.1 hfq105.2 hfq105.1 (by omega)) (fun rvq106 Iq106 Aq106 hq106 => ?_)
      obtain ⟨rfl, hqq106, hxq106⟩ := hq106
      have hpq106 := cPf.transx p103 hqq106 rfl (tb_in (by omega) (by omega))
      have g1 : Aq106 434 = ju (B 434) v v102 := hqq106.2.2.2 434 (ctn1 (by omega)) trivial
      have g2 : ∀ k, k ≠ q104 + 1 → k ≠ 434 → Aq106 k = B k := fun k h1 h2 => (hqq106.2.2.2 k (ctn1 h1) trivial).trans (va_up_ne _ _ h2)
      have g3 : ∀ z, 0 ≤ z → z < 13 → Aq106 (q104 + 1) z = A (47 + 2 * v.toNat) z := fun z a c => (hxq106 z a c).trans (by rw [show q105 + 1 = 47 + 2 * v.toNat by omega, va_up_ne _ _ (by omega), hJ.2.2.2 _ (tBef_f (by omega)) trivial])
      show jt _ 35 [(0, .ref (b + 433)), (1, .ref (b + 43)), (2, .int (jI v))] [] (cmf b f0 Iq106 Aq106) _ _ _
      refine jt_iinc (L' := [(0, .ref (b + 433)), (1, .ref (b + 43)), (2, .int (jI (v + 1)))]) d_VA_copy_35 rfl (Nat.le_of_ble_eq_true rfl) rfl ?_
      refine jt_goto (t := 2) d_VA_copy_38 rfl ?_
      exact ih (v + 1) Iq106 Aq106 hpq106 (by omega) (fun u a c => by rcases Classical.em (u = v) with e9 | e9; exact (by rw [e9]; exact ⟨by rw [g1, ju_self]; omega, fun z z0 z1 => by rw [show 437 + 2 * v.toNat = q104 + 1 by omega]; exact g3 z z0 z1⟩); exact ⟨by rw [g1, ju_ne _ _ e9]; exact (hc u a (by omega)).1, fun z z0 z1 => by rw [g2 _ (by omega) (by omega)]; exact (hc u a (by omega)).2 z z0 z1⟩) (by omega)
set_option maxRecDepth 100000 in
set_option maxHeartbeats 4000000 in
theorem v_VA_copy_x433 (G : jG) (d b : Nat)  (I : Nat → Nat → Int) (A : Nat → Int → Int) (hI : cSI I) (hA : cSA A) : cct G Y_VA_copy (d + 1) b [.ref (b + 433), .ref (b + 43)] I A (fun (rv : Option Value) (I2 : Nat → Nat → Int) (A2 : Nat → Int → Int) => rv = none ∧ cPf [] tBef I A I2 A2 ∧ ∀ u, 0 ≤ u → u < 12 → A2 434 u = A 44 u ∧ ∀ z, 0 ≤ z → z < 13 → A2 (437 + 2 * u.toNat) z = A (47 + 2 * u.toNat) z) := by
  refine cct_of (by decide) (Nat.le_of_ble_eq_true rfl) (fun f0 sz => ?_)
  show jt _ 0 [(0, .ref (b + 433)), (1, .ref (b + 43))] [] _ _ _ _
  have hz0 : cPf [] tBef I A I A := cPf.refl hI hA
  refine jt_iconst d_VA_copy_0 ?_
  refine jt_istore_n (L' := [(0, .ref (b + 433)), (1, .ref (b + 43)), (2, .int (jI 0))]) d_VA_copy_1 (Nat.le_of_ble_eq_true rfl) rfl ?_
  exact l2_VA_copy_x433v G d b  I A hI hA f0 sz  13 0 I A hz0 (by omega) (fun u a c => by omega) (by omega)
set_option maxRecDepth 100000 in
set_option maxHeartbeats 4000000 in
theorem v_VA_settle_x (G : jG) (d b : Nat) (v : Int) (I : Nat → Nat → Int) (A : Nat → Int → Int) (hI : cSI I) (hA : cSA A) (v0 : 0 ≤ v ∧ v < 12) : cct G Y_VA_settle (d + 1) b [.ref (b + 43), .int (jI v)] I A (fun (rv : Option Value) (I2 : Nat → Nat → Int) (A2 : Nat → Int → Int) => rv = none ∧ cPx [] [44] I A I2 A2 ∧ ∃ x : Int, stl (A (47 + 2 * v.toNat)) x ∧ I2 = I ∧ A2 = va_up A 44 (ju (A 44) v x)) := by
  refine cct_of (by decide) (Nat.le_of_ble_eq_true rfl) (fun f0 sz => ?_)
  show jt _ 0 [(0, .ref (b + 43)), (1, .int (jI v))] [] _ _ _ _
  have hz0 : cPx [] [44] I A I A := cPx.refl hI hA
  refine jt_aload_n d_VA_settle_0 rfl ?_
  refine cm_get (k := 43) (v := .ref (b + 44)) d_VA_settle_1 VA_f9 (by decide) (cc_4 rfl) rfl ?_
  refine jt_iload_n d_VA_settle_4 rfl ?_
  refine jt_aload_n d_VA_settle_5 rfl ?_
  refine cm_get (k := 43) (v := .ref (b + 45)) d_VA_settle_6 VA_f21 (by decide) (cc_4 rfl) rfl ?_
  refine jt_iload_n d_VA_settle_9 rfl ?_
  refine cm_ldF (k := 45) (n := 12) (z := v) d_VA_settle_10 (by decide) rfl rfl (by omega) (by omega) (by omega) ?_
  have hfq1 := form_at 45 (by decide) rfl (v : Int).toNat (show (v : Int).toNat < 12 by omega)
  obtain ⟨q1, eqq1⟩ : ∃ q9 : Nat, q9 = 45 + 1 + 2 * (v : Int).toNat := ⟨_, rfl⟩
  rw [← eqq1] at hfq1 ⊢
  have fpq1 := form_parts q1 hfq1.2 hfq1.1
  have glq1 := eLong hfq1.2 hfq1.1
  refine cct_callV (Y := Y_FO_isPlain) (ci := 4) (k := q1) (As := []) (rest := [.int (jI v), .ref (b + 44)]) d_VA_settle_11 VA_c50 yk_FO_isPlain yv_FO_isPlain rfl (Nat.le_of_ble_eq_true rfl) hfq1.2 (cc_5 hfq1.1) rfl rfl (Nat.le_of_ble_eq_true rfl) (v_FO_isPlain_x G _ b q1 I A hz0.1 hz0.2.1 hfq1.2 hfq1.1) (fun rvq2 Iq2 Aq2 hq2 => ?_)
  obtain ⟨yq2, rfl, ryq2, hIq2, hAq2, hxq2⟩ := hq2
  rw [hIq2, hAq2]
  by_cases gbq2 : yq2 = 1
  · skip
    obtain rfl : yq2 = 1 := by omega
    have hwq2 := hxq2.1 rfl
    show jt _ 14 [(0, .ref (b + 43)), (1, .int (jI v))] [.int (jI 1), .int (jI v), .ref (b + 44)] (cmf b f0 I A) _ _ _
    refine jt_if_eq (t := 21) d_VA_settle_14 rfl (by unfold jRi; omega) (fun c3 => ?_) (fun c3 => ?_)
    · skip
      exfalso
      omega
    · skip
      refine jt_iconst d_VA_settle_17 ?_
      refine jt_goto (t := 22) d_VA_settle_18 rfl ?_
      refine cm_st0 (k := 44) (n := 12) (v := 2) d_VA_settle_22 (by decide) rfl rfl (by omega) (by omega) (by omega) ?_
      have p4 := cPx.A 44 (ju (A 44) v 2) hz0 (Or.inl rfl) (gju (hz0.2.1 44) (show -2147483648 ≤ 2 ∧ 2 ≤ 2147483647 by omega))
      exact cm_vret d_VA_settle_23 rfl (⟨rfl, p4, 2, ⟨fun _ => rfl, fun z => absurd (by have h9 := hwq2; rw [show q1 + 1 = 47 + 2 * v.toNat by omega] at h9; exact h9) z⟩, rfl, rfl⟩)
  · skip
    obtain rfl : yq2 = 0 := by omega
    have hwq2 := hxq2.2 rfl
    show jt _ 14 [(0, .ref (b + 43)), (1, .int (jI v))] [.int (jI 0), .int (jI v), .ref (b + 44)] (cmf b f0 I A) _ _ _
    refine jt_if_eq (t := 21) d_VA_settle_14 rfl (by unfold jRi; omega) (fun c5 => ?_) (fun c5 => ?_)
    · skip
      refine jt_iconst d_VA_settle_21 ?_
      refine cm_st0 (k := 44) (n := 12) (v := 1) d_VA_settle_22 (by decide) rfl rfl (by omega) (by omega) (by omega) ?_
      have p6 := cPx.A 44 (ju (A 44) v 1) hz0 (Or.inl rfl) (gju (hz0.2.1 44) (show -2147483648 ≤ 1 ∧ 1 ≤ 2147483647 by omega))
      exact cm_vret d_VA_settle_23 rfl (⟨rfl, p6, 1, ⟨fun z => absurd z (by have h9 := hwq2; rw [show q1 + 1 = 47 + 2 * v.toNat by omega] at h9; exact h9), fun _ => rfl⟩, rfl, rfl⟩)
    · skip
      exfalso
      omega
set_option maxRecDepth 100000 in
set_option maxHeartbeats 4000000 in
theorem l8_VA_chooseSolved_xv (G : jG) (d b : Nat)  (I : Nat → Nat → Int) (A : Nat → Int → Int) (hI : cSI I) (hA : cSA A) (hw : wid (A 71)) (f0 : jF) (sz : Nat)   : ∀ (n9 : Nat) (n : Int) (g : Int) (v : Int) (J : Nat → Nat → Int) (B : Nat → Int → Int), cPx [] [] I A J B → (-2 ≤ n ∧ n ≤ 11 ∧ n ≠ -1) → (0 ≤ g ∧ g ≤ 1099511627776) → (0 ≤ v ∧ v ≤ 12) → (CS (A 71) n g v) → (J = I) → (B = A) → 12 - v < (n9 : Int) → jt (jm G Y_VA_chooseSolved (gR (d + 1)) (cQ b f0 sz (fun (rv : Option Value) (I2 : Nat → Nat → Int) (A2 : Nat → Int → Int) => ∃ y : Int, rv = some (.int (jI y)) ∧ (-2 ≤ y ∧ y ≤ 11 ∧ y ≠ -1) ∧ I2 = I ∧ A2 = A ∧ (y = -2 → PV0 (A 71)) ∧ (y ≠ -2 → PVt (A 71) y)))) 8 [(0, .ref (b + 43)), (1, .int (jI n)), (2, .long (jL g)), (4, .int (jI v))] [] (cmf b f0 J B) sz 0 0 := by
  intro n9
  induction n9 with
  | zero =>
    intro n g v J B hJ n0 g0 v0 hc eJ eB hmeas
    exfalso
    omega
  | succ n9 ih =>
    intro n g v J B hJ n0 g0 v0 hc eJ eB hmeas
    refine jt_iload d_VA_chooseSolved_8 rfl ?_
    refine jt_bipush d_VA_chooseSolved_10 (by omega) ?_
    refine jt_icmp_ge (t := 67) d_VA_chooseSolved_12 rfl (by unfold jRi; omega) (by unfold jRi; omega) (fun c101 => ?_) (fun c101 => ?_)
    · skip
      refine jt_iload_n d_VA_chooseSolved_67 rfl ?_
      exact cm_ret d_VA_chooseSolved_68 rfl rfl (⟨n, rfl, by omega, eJ, eB, fun z => CS_n (by rw [show v = 12 by omega] at hc; exact hc) (by omega), fun z => CS_p (by rw [show v = 12 by omega] at hc; exact hc) (by omega)⟩)
    · skip
      refine jt_aload_n d_VA_chooseSolved_15 rfl ?_
      refine cm_get (k := 43) (v := .ref (b + 70)) d_VA_chooseSolved_16 VA_f26 (by decide) (cc_4 rfl) rfl ?_
      refine cm_get (k := 70) (v := .ref (b + 71)) d_VA_chooseSolved_19 VA_f54 (by decide) (cc_5 rfl) rfl ?_
      refine jt_iload d_VA_chooseSolved_22 rfl ?_
      refine cm_ld1 (k := 71) (n := 13) (v := (B 71) v) d_VA_chooseSolved_24 (by decide) rfl rfl (by omega) (by omega) (by omega) rfl ?_
      refine jt_topl (fun v102 ev102 => ?_)
      have bv102 : -9223372036854775808 ≤ v102 ∧ v102 ≤ 9223372036854775807 := by rw [ev102]; exact hJ.2.1 71 v
      rw [eB] at ev102
      have wv := hw v (by omega) (by omega)
      refine jt_labs d_VA_chooseSolved_25 mw_abs (by unfold jRl; omega) (show 1 ≤ d + 1 by omega) (show 0 + 13 ≤ (d + 1) * 40 by omega) (Nat.le_refl _) (Nat.le_refl _) ?_
      refine jt_topln (fun v103 bv103 ev103 => ?_)
      refine jt_lstore (L' := [(0, .ref (b + 43)), (1, .int (jI n)), (2, .long (jL g)), (4, .int (jI v)), (5, .long (jL v103))]) d_VA_chooseSolved_28 (Nat.le_of_ble_eq_true rfl) rfl ?_
      have hy : v103 = ((A 71 v).natAbs : Int) := by rw [← ev102]; rcases Classical.em (0 < v102) with z9 | z9; exact (by rw [if_pos z9] at ev103; omega); exact (by rw [if_neg z9] at ev103; omega)
      refine jt_lload d_VA_chooseSolved_30 rfl ?_
      refine cct_callS (Y := Y_Lo_bitCount) (As := [.long (jL v103)]) (rest := []) d_VA_chooseSolved_32 VA_c76 yk_Lo_bitCount ys_Lo_bitCount (Nat.le_of_ble_eq_true rfl) rfl rfl (Nat.le_of_ble_eq_true rfl) (v_Lo_bitCount_i G _ b v103 J B (by omega) (by omega)) (fun rvq104 Iq104 Aq104 hq104 => ?_)
      obtain ⟨yq104, rfl, ryq104, hIq104, hAq104, hxq104⟩ := hq104
      rw [hIq104, hAq104]
      rw [show (v103 : Int).natAbs = (A 71 v).natAbs by omega] at hxq104
      replace hxq104 : Hd _ := hxq104
      show jt _ 35 [(0, .ref (b + 43)), (1, .int (jI n)), (2, .long (jL g)), (4, .int (jI v)), (5, .long (jL v103))] [.int (jI yq104)] (cmf b f0 J B) _ _ _
      refine jt_iconst d_VA_chooseSolved_35 ?_
      refine jt_icmp_ne (t := 61) d_VA_chooseSolved_36 rfl (by unfold jRi; omega) (by unfold jRi; omega) (fun c105 => ?_) (fun c105 => ?_)
      · skip
        refine jt_iinc (L' := [(0, .ref (b + 43)), (1, .int (jI n)), (2, .long (jL g)), (4, .int (jI (v + 1))), (5, .long (jL v103))]) d_VA_chooseSolved_61 rfl (Nat.le_of_ble_eq_true rfl) rfl ?_
        refine jt_goto (t := 8) d_VA_chooseSolved_64 rfl ?_
        refine jt_sub (L' := [(0, .ref (b + 43)), (1, .int (jI n)), (2, .long (jL g)), (4, .int (jI (v + 1)))]) (fun _ h => List.mem_append_left [(5, Value.long (jL v103))] h) ?_
        exact ih n g (v + 1) J B hJ (by omega) (by omega) (by omega) (CS_2 hc (by omega) hy (by first | exact Or.inl (fun z => absurd (hxq104.mpr z) (by omega)) | exact Or.inr (Or.inl (by omega)) | exact Or.inr (Or.inr (by omega)))) eJ eB (by omega)
      · skip
        refine jt_lload d_VA_chooseSolved_39 rfl ?_
        refine jt_ldc2 (z := 68719476736) d_VA_chooseSolved_41 VA_k82 ?_
        refine jt_lif_gt (t := 61) d_VA_chooseSolved_44 d_VA_chooseSolved_45 rfl (by unfold jRl; omega) (by unfold jRl; omega) (fun c106 => ?_) (fun c106 => ?_)
        · skip
          refine jt_iinc (L' := [(0, .ref (b + 43)), (1, .int (jI n)), (2, .long (jL g)), (4, .int (jI (v + 1))), (5, .long (jL v103))]) d_VA_chooseSolved_61 rfl (Nat.le_of_ble_eq_true rfl) rfl ?_
          refine jt_goto (t := 8) d_VA_chooseSolved_64 rfl ?_
          refine jt_sub (L' := [(0, .ref (b + 43)), (1, .int (jI n)), (2, .long (jL g)), (4, .int (jI (v + 1)))]) (fun _ h => List.mem_append_left [(5, Value.long (jL v103))] h) ?_
          exact ih n g (v + 1) J B hJ (by omega) (by omega) (by omega) (CS_2 hc (by omega) hy (by first | exact Or.inl (fun z => absurd (hxq104.mpr z) (by omega)) | exact Or.inr (Or.inl (by omega)) | exact Or.inr (Or.inr (by omega)))) eJ eB (by omega)
        · skip
          refine jt_lload d_VA_chooseSolved_48 rfl ?_
          refine jt_lload_n d_VA_chooseSolved_50 rfl ?_
          refine jt_lif_le (t := 61) d_VA_chooseSolved_51 d_VA_chooseSolved_52 rfl (by unfold jRl; omega) (by unfold jRl; omega) (fun c107 => ?_) (fun c107 => ?_)
          · skip
            refine jt_iinc (L' := [(0, .ref (b + 43)), (1, .int (jI n)), (2, .long (jL g)), (4, .int (jI (v + 1))), (5, .long (jL v103))]) d_VA_chooseSolved_61 rfl (Nat.le_of_ble_eq_true rfl) rfl ?_
            refine jt_goto (t := 8) d_VA_chooseSolved_64 rfl ?_
            refine jt_sub (L' := [(0, .ref (b + 43)), (1, .int (jI n)), (2, .long (jL g)), (4, .int (jI (v + 1)))]) (fun _ h => List.mem_append_left [(5, Value.long (jL v103))] h) ?_
            exact ih n g (v + 1) J B hJ (by omega) (by omega) (by omega) (CS_2 hc (by omega) hy (by first | exact Or.inl (fun z => absurd (hxq104.mpr z) (by omega)) | exact Or.inr (Or.inl (by omega)) | exact Or.inr (Or.inr (by omega)))) eJ eB (by omega)
          · skip
            refine jt_iload d_VA_chooseSolved_55 rfl ?_
            refine jt_istore_n (L' := [(0, .ref (b + 43)), (1, .int (jI v)), (2, .long (jL g)), (4, .int (jI v)), (5, .long (jL v103))]) d_VA_chooseSolved_57 (Nat.le_of_ble_eq_true rfl) rfl ?_
            refine jt_lload d_VA_chooseSolved_58 rfl ?_
            refine jt_lstore_n (L' := [(0, .ref (b + 43)), (1, .int (jI v)), (2, .long (jL v103)), (4, .int (jI v)), (5, .long (jL v103))]) d_VA_chooseSolved_60 (Nat.le_of_ble_eq_true rfl) rfl ?_
            refine jt_iinc (L' := [(0, .ref (b + 43)), (1, .int (jI v)), (2, .long (jL v103)), (4, .int (jI (v + 1))), (5, .long (jL v103))]) d_VA_chooseSolved_61 rfl (Nat.le_of_ble_eq_true rfl) rfl ?_
            refine jt_goto (t := 8) d_VA_chooseSolved_64 rfl ?_
            refine jt_sub (L' := [(0, .ref (b + 43)), (1, .int (jI v)), (2, .long (jL v103)), (4, .int (jI (v + 1)))]) (fun _ h => List.mem_append_left [(5, Value.long (jL v103))] h) ?_
            exact ih v v103 (v + 1) J B hJ (by omega) (by omega) (by omega) (CS_1 hc (by omega) hy (hxq104.mp (by omega)) (by omega) (by omega)) eJ eB (by omega)
set_option maxRecDepth 100000 in
set_option maxHeartbeats 4000000 in
theorem v_VA_chooseSolved_x (G : jG) (d b : Nat)  (I : Nat → Nat → Int) (A : Nat → Int → Int) (hI : cSI I) (hA : cSA A) (hw : wid (A 71)) : cct G Y_VA_chooseSolved (d + 1) b [.ref (b + 43)] I A (fun (rv : Option Value) (I2 : Nat → Nat → Int) (A2 : Nat → Int → Int) => ∃ y : Int, rv = some (.int (jI y)) ∧ (-2 ≤ y ∧ y ≤ 11 ∧ y ≠ -1) ∧ I2 = I ∧ A2 = A ∧ (y = -2 → PV0 (A 71)) ∧ (y ≠ -2 → PVt (A 71) y)) := by
  refine cct_of (by decide) (Nat.le_of_ble_eq_true rfl) (fun f0 sz => ?_)
  show jt _ 0 [(0, .ref (b + 43))] [] _ _ _ _
  have hz0 : cPx [] [] I A I A := cPx.refl hI hA
  refine jt_bipush d_VA_chooseSolved_0 (by omega) ?_
  refine jt_istore_n (L' := [(0, .ref (b + 43)), (1, .int (jI (-2)))]) d_VA_chooseSolved_2 (Nat.le_of_ble_eq_true rfl) rfl ?_
  refine jt_lconst (z := 0) d_VA_chooseSolved_3 (by decide) ?_
  refine jt_lstore_n (L' := [(0, .ref (b + 43)), (1, .int (jI (-2))), (2, .long (jL 0))]) d_VA_chooseSolved_4 (Nat.le_of_ble_eq_true rfl) rfl ?_
  refine jt_iconst d_VA_chooseSolved_5 ?_
  refine jt_istore (L' := [(0, .ref (b + 43)), (1, .int (jI (-2))), (2, .long (jL 0)), (4, .int (jI 0))]) d_VA_chooseSolved_6 (Nat.le_of_ble_eq_true rfl) rfl ?_
  exact l8_VA_chooseSolved_xv G d b  I A hI hA hw f0 sz  13 (-2) 0 0 I A hz0 (by omega) (by omega) (by omega) (CS_0 _ (by omega)) rfl rfl (by omega)

set_option maxRecDepth 100000 in
set_option maxHeartbeats 4000000 in
theorem l18_GC_equateAll_xv (G : jG) (d b : Nat)  (I : Nat → Nat → Int) (A : Nat → Int → Int) (hI : cSI I) (hA : cSA A) (fs : List (Int → Int)) (hkp : cKp A fs) (hl : I 38 6 = (fs.length : Int)) (h2l : 2 ≤ fs.length) (hin0 : ∀ z : Int, 0 ≤ z → z < (fs.length : Int) → inr (A (76 + 2 * z.toNat))) (hI9 : VI (A 44) (cV A)) (f0 : jF) (sz : Nat)   : ∀ (n9 : Nat) (e : Int) (k : Int) (J : Nat → Nat → Int) (B : Nat → Int → Int), cPf [] tEA I A J B → (-2147483648 ≤ e ∧ e ≤ 2147483647) → (1 ≤ k ∧ k ≤ 150) → (k ≤ (fs.length : Int)) → (e = 0 → VI (B 44) (cV B)) → (∀ z : Int, 0 ≤ z → z < (fs.length : Int) → inr (B (76 + 2 * z.toNat))) → (cKp B fs) → (e = 0 → ∀ (e2 : Int) (s2 : Int → Int) (V2 : Int → Int → Int), EA (fs.drop (k - 1).toNat) (B 44) (cV B) e2 s2 V2 → EA fs (A 44) (cV A) e2 s2 V2) → (e ≠ 0 → ∃ (s2 : Int → Int) (V2 : Int → Int → Int), EA fs (A 44) (cV A) e s2 V2) → (cBf A B) → 151 - k < (n9 : Int) → jt (jm G Y_GC_equateAll (gR (d + 4)) (cQ b f0 sz (fun (rv : Option Value) (I2 : Nat → Nat → Int) (A2 : Nat → Int → Int) => ∃ y : Int, rv = some (.int (jI y)) ∧ (-2147483648 ≤ y ∧ y ≤ 2147483647) ∧ cPf [] tEA I A I2 A2 ∧ ∃ (s2 : Int → Int) (V2 : Int → Int → Int), EA fs (A 44) (cV A) y s2 V2 ∧ (y = 0 → A2 44 = s2 ∧ cV A2 = V2) ∧ (y ≠ 0 → sEq (A 44) (cV A) (A2 44) (cV A2))))) 18 [(0, .ref (b + 0)), (1, .int (jI e)), (2, .int (jI k))] [] (cmf b f0 J B) sz 0 0 := by
  have r386 : 0 ≤ I 38 6 ∧ I 38 6 ≤ 150 := hI 38 6
  intro n9
  induction n9 with
  | zero =>
    intro e k J B hJ e0 k0 kl hV9 hin hkJ hE0 hE1 hb hmeas
    have r6J : J 38 6 = I 38 6 := hJ.2.2.1 38 6 rfl
    exfalso
    omega
  | succ n9 ih =>
    intro e k J B hJ e0 k0 kl hV9 hin hkJ hE0 hE1 hb hmeas
    have r6J : J 38 6 = I 38 6 := hJ.2.2.1 38 6 rfl
    refine jt_iload_n d_GC_equateAll_18 rfl ?_
    refine jt_aload_n d_GC_equateAll_19 rfl ?_
    refine cm_get (k := 0) (v := .ref (b + 38)) d_GC_equateAll_20 GC_f28 (by decide) cc_0 rfl ?_
    refine cm_get (k := 38) (v := .int (jI (J 38 6))) d_GC_equateAll_23 GC_f147 (by decide) cc_3 rfl ?_
    have rb101 : 0 ≤ J 38 6 ∧ J 38 6 ≤ 150 := hJ.1 38 6
    refine jt_icmp_ge (t := 70) d_GC_equateAll_26 rfl (by unfold jRi; omega) (by unfold jRi; omega) (fun c102 => ?_) (fun c102 => ?_)
    · skip
      refine jt_iload_n d_GC_equateAll_70 rfl ?_
      refine jt_if_eq (t := 88) d_GC_equateAll_71 rfl (by unfold jRi; omega) (fun c103 => ?_) (fun c103 => ?_)
      · skip
        refine jt_iload_n d_GC_equateAll_88 rfl ?_
        exact cm_ret d_GC_equateAll_89 rfl rfl (⟨e, rfl, by omega, hJ, B 44, cV B, by rw [show e = 0 by omega]; exact hE0 (by omega) 0 _ _ (EA_end (by rw [List.length_drop]; omega)), fun _ => ⟨rfl, rfl⟩, fun z9 => absurd (by omega) z9⟩)
      · skip
        refine jt_aload_n d_GC_equateAll_74 rfl ?_
        refine cm_get (k := 0) (v := .ref (b + 38)) d_GC_equateAll_75 GC_f28 (by decide) cc_0 rfl ?_
        refine cm_get (k := 38) (v := .ref (b + 43)) d_GC_equateAll_78 GC_f140 (by decide) cc_3 rfl ?_
        refine jt_aload_n d_GC_equateAll_81 rfl ?_
        refine cm_get (k := 0) (v := .ref (b + 433)) d_GC_equateAll_82 GC_f35 (by decide) cc_0 rfl ?_
        refine cct_callV (Y := Y_VA_copy) (ci := 3) (k := 43) (As := [.ref (b + 433)]) (rest := []) d_GC_equateAll_85 GC_c143 yk_VA_copy yv_VA_copy rfl (Nat.le_of_ble_eq_true rfl) (by decide) (cc_4 rfl) rfl rfl (Nat.le_of_ble_eq_true rfl) (v_VA_copy_x43 G _ b J B hJ.1 hJ.2.1) (fun rvq104 Iq104 Aq104 hq104 => ?_)
        obtain ⟨rfl, hqq104, hxq104⟩ := hq104
        have hpq104 := cPf.trans hJ hqq104 rfl (fun _ h9 => tEA_v h9)
        show jt _ 88 [(0, .ref (b + 0)), (1, .int (jI e)), (2, .int (jI k))] [] (cmf b f0 Iq104 Aq104) _ _ _
        refine jt_iload_n d_GC_equateAll_88 rfl ?_
        exact cm_ret d_GC_equateAll_89 rfl rfl (by
        obtain ⟨s9, V9, h9⟩ := hE1 (by omega)
        exact ⟨e, rfl, by omega, hpq104, s9, V9, h9, fun z9 => absurd z9 (by omega), fun _ u u0 u1 => ⟨((hxq104 u u0 u1).1).trans (hb u u0 u1).1, fun z z0 z1 => by rw [cV_e u1, cV_e u1]; exact ((hxq104 u u0 u1).2 z z0 z1).trans ((hb u u0 u1).2 z z0 z1)⟩⟩)
    · skip
      refine jt_iload_n d_GC_equateAll_29 rfl ?_
      refine jt_if_ne (t := 70) d_GC_equateAll_30 rfl (by unfold jRi; omega) (fun c105 => ?_) (fun c105 => ?_)
      · skip
        refine jt_iload_n d_GC_equateAll_70 rfl ?_
        refine jt_if_eq (t := 88) d_GC_equateAll_71 rfl (by unfold jRi; omega) (fun c106 => ?_) (fun c106 => ?_)
        · skip
          refine jt_iload_n d_GC_equateAll_88 rfl ?_
          exact cm_ret d_GC_equateAll_89 rfl rfl (⟨e, rfl, by omega, hJ, B 44, cV B, by rw [show e = 0 by omega]; exact hE0 (by omega) 0 _ _ (EA_end (by rw [List.length_drop]; omega)), fun _ => ⟨rfl, rfl⟩, fun z9 => absurd (by omega) z9⟩)
        · skip
          refine jt_aload_n d_GC_equateAll_74 rfl ?_
          refine cm_get (k := 0) (v := .ref (b + 38)) d_GC_equateAll_75 GC_f28 (by decide) cc_0 rfl ?_
          refine cm_get (k := 38) (v := .ref (b + 43)) d_GC_equateAll_78 GC_f140 (by decide) cc_3 rfl ?_
          refine jt_aload_n d_GC_equateAll_81 rfl ?_
          refine cm_get (k := 0) (v := .ref (b + 433)) d_GC_equateAll_82 GC_f35 (by decide) cc_0 rfl ?_
          refine cct_callV (Y := Y_VA_copy) (ci := 3) (k := 43) (As := [.ref (b + 433)]) (rest := []) d_GC_equateAll_85 GC_c143 yk_VA_copy yv_VA_copy rfl (Nat.le_of_ble_eq_true rfl) (by decide) (cc_4 rfl) rfl rfl (Nat.le_of_ble_eq_true rfl) (v_VA_copy_x43 G _ b J B hJ.1 hJ.2.1) (fun rvq107 Iq107 Aq107 hq107 => ?_)
          obtain ⟨rfl, hqq107, hxq107⟩ := hq107
          have hpq107 := cPf.trans hJ hqq107 rfl (fun _ h9 => tEA_v h9)
          show jt _ 88 [(0, .ref (b + 0)), (1, .int (jI e)), (2, .int (jI k))] [] (cmf b f0 Iq107 Aq107) _ _ _
          refine jt_iload_n d_GC_equateAll_88 rfl ?_
          exact cm_ret d_GC_equateAll_89 rfl rfl (by
        obtain ⟨s9, V9, h9⟩ := hE1 (by omega)
        exact ⟨e, rfl, by omega, hpq107, s9, V9, h9, fun z9 => absurd z9 (by omega), fun _ u u0 u1 => ⟨((hxq107 u u0 u1).1).trans (hb u u0 u1).1, fun z z0 z1 => by rw [cV_e u1, cV_e u1]; exact ((hxq107 u u0 u1).2 z z0 z1).trans ((hb u u0 u1).2 z z0 z1)⟩⟩)
      · skip
        refine jt_aload_n d_GC_equateAll_33 rfl ?_
        refine cm_get (k := 0) (v := .ref (b + 38)) d_GC_equateAll_34 GC_f28 (by decide) cc_0 rfl ?_
        refine cm_get (k := 38) (v := .ref (b + 43)) d_GC_equateAll_37 GC_f140 (by decide) cc_3 rfl ?_
        refine jt_aload_n d_GC_equateAll_40 rfl ?_
        refine cm_get (k := 0) (v := .ref (b + 38)) d_GC_equateAll_41 GC_f28 (by decide) cc_0 rfl ?_
        refine cm_get (k := 38) (v := .ref (b + 74)) d_GC_equateAll_44 GC_f114 (by decide) cc_3 rfl ?_
        refine jt_iload_n d_GC_equateAll_47 rfl ?_
        refine jt_iconst d_GC_equateAll_48 ?_
        refine jt_isub d_GC_equateAll_49 ?_
        refine cm_ldF (k := 74) (n := 150) (z := (k - 1)) d_GC_equateAll_50 (by decide) rfl rfl (by omega) (by omega) (by omega) ?_
        have hfq108 := form_at 74 (by decide) rfl ((k - 1) : Int).toNat (show ((k - 1) : Int).toNat < 150 by omega)
        obtain ⟨q108, eqq108⟩ : ∃ q9 : Nat, q9 = 74 + 1 + 2 * ((k - 1) : Int).toNat := ⟨_, rfl⟩
        rw [← eqq108] at hfq108 ⊢
        have fpq108 := form_parts q108 hfq108.2 hfq108.1
        have glq108 := eLong hfq108.2 hfq108.1
        refine jt_aload_n d_GC_equateAll_51 rfl ?_
        refine cm_get (k := 0) (v := .ref (b + 38)) d_GC_equateAll_52 GC_f28 (by decide) cc_0 rfl ?_
        refine cm_get (k := 38) (v := .ref (b + 74)) d_GC_equateAll_55 GC_f114 (by decide) cc_3 rfl ?_
        refine jt_iload_n d_GC_equateAll_58 rfl ?_
        refine cm_ldF (k := 74) (n := 150) (z := k) d_GC_equateAll_59 (by decide) rfl rfl (by omega) (by omega) (by omega) ?_
        have hfq109 := form_at 74 (by decide) rfl (k : Int).toNat (show (k : Int).toNat < 150 by omega)
        obtain ⟨q109, eqq109⟩ : ∃ q9 : Nat, q9 = 74 + 1 + 2 * (k : Int).toNat := ⟨_, rfl⟩
        rw [← eqq109] at hfq109 ⊢
        have fpq109 := form_parts q109 hfq109.2 hfq109.1
        have glq109 := eLong hfq109.2 hfq109.1
        refine cct_callV (Y := Y_VA_equate) (ci := 3) (k := 43) (As := [.ref (b + q108), .ref (b + q109)]) (rest := []) d_GC_equateAll_60 GC_c150 yk_VA_equate yv_VA_equate rfl (Nat.le_of_ble_eq_true rfl) (by decide) (cc_4 rfl) rfl rfl (Nat.le_of_ble_eq_true rfl) (v_VA_equate_x G _ b q108 q109 J B hJ.1 hJ.2.1 hfq108.2 hfq108.1 hfq109.2 hfq109.1 (hV9 (by omega)) (by rw [show q108 + 1 = 76 + 2 * (k - 1).toNat by omega]; exact hin (k - 1) (by omega) (by omega)) (by rw [show q109 + 1 = 76 + 2 * k.toNat by omega]; exact hin k (by omega) (by omega)) (by omega) (by omega)) (fun rvq110 Iq110 Aq110 hq110 => ?_)
        obtain ⟨yq110, rfl, ryq110, hqq110, hxq110⟩ := hq110
        have hpq110 := cPf.trans hJ hqq110 rfl (fun _ h9 => tEA_v2 h9)
        have hE := hxq110
        rw [show q108 + 1 = 76 + 2 * (k - 1).toNat by omega, show q109 + 1 = 76 + 2 * k.toNat by omega] at hE
        show jt _ 63 [(0, .ref (b + 0)), (1, .int (jI e)), (2, .int (jI k))] [.int (jI yq110)] (cmf b f0 Iq110 Aq110) _ _ _
        refine jt_istore_n (L' := [(0, .ref (b + 0)), (1, .int (jI yq110)), (2, .int (jI k))]) d_GC_equateAll_63 (Nat.le_of_ble_eq_true rfl) rfl ?_
        refine jt_iinc (L' := [(0, .ref (b + 0)), (1, .int (jI yq110)), (2, .int (jI (k + 1)))]) d_GC_equateAll_64 rfl (Nat.le_of_ble_eq_true rfl) rfl ?_
        refine jt_goto (t := 18) d_GC_equateAll_67 rfl ?_
        exact ih yq110 (k + 1) Iq110 Aq110 hpq110 (by omega) (by omega) (by omega) (fun z9 => VI_eq (hV9 (by omega)) (by rw [z9] at hE; exact hE)) (fun z z0 z1 => by rw [hqq110.2.2.2 _ (tVar_f (by omega)) trivial]; exact hin z z0 z1) (cKp_fr hkJ (by omega) (fun k9 a c => hqq110.2.2.2 k9 (tVar_f (by omega)) trivial)) (fun z9 e2 s2 V2 h9 => hE0 (by omega) e2 s2 V2 (EA_go hkJ (by omega) (by omega) (by rw [z9] at hE; exact hE) (by rw [show k + 1 - 1 = k by omega] at h9; exact h9))) (fun z9 => ⟨_, _, hE0 (by omega) _ (B 44) (cV B) (EA_err hkJ (by omega) (by omega) hE z9)⟩) (cBf_fr hb (fun k9 a => hqq110.2.2.2 k9 (tVar_f (by omega)) trivial)) (by omega)
set_option maxRecDepth 100000 in
set_option maxHeartbeats 4000000 in
theorem v_GC_equateAll_x (G : jG) (d b : Nat)  (I : Nat → Nat → Int) (A : Nat → Int → Int) (hI : cSI I) (hA : cSA A) (fs : List (Int → Int)) (hkp : cKp A fs) (hl : I 38 6 = (fs.length : Int)) (h2l : 2 ≤ fs.length) (hin0 : ∀ z : Int, 0 ≤ z → z < (fs.length : Int) → inr (A (76 + 2 * z.toNat))) (hI9 : VI (A 44) (cV A)) : cct G Y_GC_equateAll (d + 4) b [.ref (b + 0)] I A (fun (rv : Option Value) (I2 : Nat → Nat → Int) (A2 : Nat → Int → Int) => ∃ y : Int, rv = some (.int (jI y)) ∧ (-2147483648 ≤ y ∧ y ≤ 2147483647) ∧ cPf [] tEA I A I2 A2 ∧ ∃ (s2 : Int → Int) (V2 : Int → Int → Int), EA fs (A 44) (cV A) y s2 V2 ∧ (y = 0 → A2 44 = s2 ∧ cV A2 = V2) ∧ (y ≠ 0 → sEq (A 44) (cV A) (A2 44) (cV A2))) := by
  refine cct_of (by decide) (Nat.le_of_ble_eq_true rfl) (fun f0 sz => ?_)
  show jt _ 0 [(0, .ref (b + 0))] [] _ _ _ _
  have r386 : 0 ≤ I 38 6 ∧ I 38 6 ≤ 150 := hI 38 6
  have hz0 : cPf [] tEA I A I A := cPf.refl hI hA
  refine jt_aload_n d_GC_equateAll_0 rfl ?_
  refine cm_get (k := 0) (v := .ref (b + 433)) d_GC_equateAll_1 GC_f35 (by decide) cc_0 rfl ?_
  refine jt_aload_n d_GC_equateAll_4 rfl ?_
  refine cm_get (k := 0) (v := .ref (b + 38)) d_GC_equateAll_5 GC_f28 (by decide) cc_0 rfl ?_
  refine cm_get (k := 38) (v := .ref (b + 43)) d_GC_equateAll_8 GC_f140 (by decide) cc_3 rfl ?_
  refine cct_callV (Y := Y_VA_copy) (ci := 3) (k := 433) (As := [.ref (b + 43)]) (rest := []) d_GC_equateAll_11 GC_c143 yk_VA_copy yv_VA_copy rfl (Nat.le_of_ble_eq_true rfl) (by decide) (cc_4 rfl) rfl rfl (Nat.le_of_ble_eq_true rfl) (v_VA_copy_x433 G _ b I A hz0.1 hz0.2.1) (fun rvq1 Iq1 Aq1 hq1 => ?_)
  obtain ⟨rfl, hqq1, hxq1⟩ := hq1
  have hpq1 := cPf.trans hz0 hqq1 rfl (fun _ h9 => tEA_b h9)
  have f44 : Aq1 44 = A 44 := hqq1.2.2.2 44 (tBef_f (by decide)) trivial
  have fcv : cV Aq1 = cV A := cV_fr (fun k k0 k1 => hqq1.2.2.2 k (tBef_f (by omega)) trivial)
  have fkp : ∀ k, 74 ≤ k → k < 434 → Aq1 k = A k := fun k k0 k1 => hqq1.2.2.2 k (tBef_f (by omega)) trivial
  show jt _ 14 [(0, .ref (b + 0))] [] (cmf b f0 Iq1 Aq1) _ _ _
  refine jt_iconst d_GC_equateAll_14 ?_
  refine jt_istore_n (L' := [(0, .ref (b + 0)), (1, .int (jI 0))]) d_GC_equateAll_15 (Nat.le_of_ble_eq_true rfl) rfl ?_
  refine jt_iconst d_GC_equateAll_16 ?_
  refine jt_istore_n (L' := [(0, .ref (b + 0)), (1, .int (jI 0)), (2, .int (jI 1))]) d_GC_equateAll_17 (Nat.le_of_ble_eq_true rfl) rfl ?_
  exact l18_GC_equateAll_xv G d b  I A hI hA fs hkp hl h2l hin0 hI9 f0 sz  151 0 1 Iq1 Aq1 hpq1 (by omega) (by omega) (by omega) (fun _ => by rw [f44, fcv]; exact hI9) (fun z z0 z1 => by rw [fkp _ (by omega) (by omega)]; exact hin0 z z0 z1) (cKp_fr hkp (by omega) (fun k9 a c => fkp k9 (by omega) (by omega))) (fun _ e2 s2 V2 h9 => by rw [f44, fcv] at h9; exact h9) (fun z9 => absurd rfl z9) (fun u u0 u1 => hxq1 u u0 u1) (by omega)

set_option maxRecDepth 100000 in
set_option maxHeartbeats 4000000 in
theorem v_FO_isNumber (G : jG) (d b : Nat) (x : Int) (I : Nat → Nat → Int) (A : Nat → Int → Int) (hI : cSI I) (hA : cSA A) (hx : -9223372036854775808 ≤ x ∧ x ≤ 9223372036854775807) : cct G Y_FO_isNumber d b [.long (jL x)] I A (fun (rv : Option Value) (I2 : Nat → Nat → Int) (A2 : Nat → Int → Int) => ∃ y : Int, rv = some (.int (jI y)) ∧ (0 ≤ y ∧ y ≤ 1) ∧ cPo [] [] I A I2 A2) := by
  refine cct_of (by decide) (Nat.le_of_ble_eq_true rfl) (fun f0 sz => ?_)
  show jt _ 0 [(0, .long (jL x))] [] _ _ _ _
  have hz0 : cPo [] [] I A I A := cPo.refl hI hA
  refine jt_lload_n d_FO_isNumber_0 rfl ?_
  refine jt_ldc2 (z := -68719476736) d_FO_isNumber_1 FO_k16 ?_
  refine jt_lif_lt (t := 20) d_FO_isNumber_4 d_FO_isNumber_5 rfl (by unfold jRl; omega) (by unfold jRl; omega) (fun c1 => ?_) (fun c1 => ?_)
  · skip
    refine jt_iconst d_FO_isNumber_20 ?_
    exact cm_ret d_FO_isNumber_21 rfl (jnz (by omega)) (⟨0, rfl, by omega, hz0⟩)
  · skip
    refine jt_lload_n d_FO_isNumber_8 rfl ?_
    refine jt_ldc2 (z := 68719476736) d_FO_isNumber_9 FO_k18 ?_
    refine jt_lif_gt (t := 20) d_FO_isNumber_12 d_FO_isNumber_13 rfl (by unfold jRl; omega) (by unfold jRl; omega) (fun c2 => ?_) (fun c2 => ?_)
    · skip
      refine jt_iconst d_FO_isNumber_20 ?_
      exact cm_ret d_FO_isNumber_21 rfl (jnz (by omega)) (⟨0, rfl, by omega, hz0⟩)
    · skip
      refine jt_iconst d_FO_isNumber_16 ?_
      refine jt_goto (t := 21) d_FO_isNumber_17 rfl ?_
      exact cm_ret d_FO_isNumber_21 rfl (jnz (by omega)) (⟨1, rfl, by omega, hz0⟩)
set_option maxRecDepth 100000 in
set_option maxHeartbeats 4000000 in
theorem l4_FO_hasNumbersv (G : jG) (d b : Nat) (me : Nat) (I : Nat → Nat → Int) (A : Nat → Int → Int) (hI : cSI I) (hA : cSA A) (k_me : me < 472) (k5me : ck me = 5) (f0 : jF) (sz : Nat)   : ∀ (n9 : Nat) (n : Int) (p : Int) (J : Nat → Nat → Int) (B : Nat → Int → Int), cPo [] [] I A J B → (0 ≤ n ∧ n ≤ 1) → (0 ≤ p ∧ p ≤ 13) → 13 - p < (n9 : Int) → jt (jm G Y_FO_hasNumbers (gR (d + 1)) (cQ b f0 sz (fun (rv : Option Value) (I2 : Nat → Nat → Int) (A2 : Nat → Int → Int) => ∃ y : Int, rv = some (.int (jI y)) ∧ (0 ≤ y ∧ y ≤ 1) ∧ cPo [] [] I A I2 A2))) 4 [(0, .ref (b + me)), (1, .int (jI n)), (2, .int (jI p))] [] (cmf b f0 J B) sz 0 0 := by
  have fpme := form_parts me k_me k5me
  have glme := eLong k_me k5me
  intro n9
  induction n9 with
  | zero =>
    intro n p J B hJ n0 p0 hmeas
    exfalso
    omega
  | succ n9 ih =>
    intro n p J B hJ n0 p0 hmeas
    refine jt_iload_n d_FO_hasNumbers_4 rfl ?_
    refine jt_bipush d_FO_hasNumbers_5 (by omega) ?_
    refine jt_icmp_ge (t := 38) d_FO_hasNumbers_7 rfl (by unfold jRi; omega) (by unfold jRi; omega) (fun c101 => ?_) (fun c101 => ?_)
    · skip
      refine jt_iload_n d_FO_hasNumbers_38 rfl ?_
      exact cm_ret d_FO_hasNumbers_39 rfl (jnz (by omega)) (⟨n, rfl, by omega, hJ⟩)
    · skip
      refine jt_iload_n d_FO_hasNumbers_10 rfl ?_
      refine jt_if_eq (t := 30) d_FO_hasNumbers_11 rfl (by unfold jRi; omega) (fun c102 => ?_) (fun c102 => ?_)
      · skip
        refine jt_iconst d_FO_hasNumbers_30 ?_
        refine jt_istore_n (L' := [(0, .ref (b + me)), (1, .int (jI 0)), (2, .int (jI p))]) d_FO_hasNumbers_31 (Nat.le_of_ble_eq_true rfl) rfl ?_
        refine jt_iinc (L' := [(0, .ref (b + me)), (1, .int (jI 0)), (2, .int (jI (p + 1)))]) d_FO_hasNumbers_32 rfl (Nat.le_of_ble_eq_true rfl) rfl ?_
        refine jt_goto (t := 4) d_FO_hasNumbers_35 rfl ?_
        exact ih 0 (p + 1) J B hJ (by omega) (by omega) (by omega)
      · skip
        refine jt_aload_n d_FO_hasNumbers_14 rfl ?_
        refine cm_get (k := me) (v := .ref (b + (me + 1))) d_FO_hasNumbers_15 FO_f11 k_me (cc_5 k5me) rfl ?_
        refine jt_iload_n d_FO_hasNumbers_18 rfl ?_
        refine cm_ld1 (k := me + 1) (n := 13) (v := (B ((me + 1))) p) d_FO_hasNumbers_19 fpme.2.2 fpme.1 fpme.2.1 (by omega) (by omega) (by omega) rfl ?_
        refine jt_topl (fun v103 ev103 => ?_)
        have bv103 : -9223372036854775808 ≤ v103 ∧ v103 ≤ 9223372036854775807 := by have q9 := hJ.2.1 (me + 1) p; rw [glme.1, glme.2] at q9; rw [ev103]; exact q9
        refine cct_callS (Y := Y_FO_isNumber) (As := [.long (jL v103)]) (rest := []) d_FO_hasNumbers_20 FO_c20 yk_FO_isNumber ys_FO_isNumber (Nat.le_of_ble_eq_true rfl) rfl rfl (Nat.le_of_ble_eq_true rfl) (v_FO_isNumber G _ b v103 J B hJ.1 hJ.2.1 (by omega)) (fun rvq104 Iq104 Aq104 hq104 => ?_)
        obtain ⟨yq104, rfl, ryq104, hqq104⟩ := hq104
        have hpq104 := cPo.trans hJ hqq104 rfl rfl
        show jt _ 23 [(0, .ref (b + me)), (1, .int (jI n)), (2, .int (jI p))] [.int (jI yq104)] (cmf b f0 Iq104 Aq104) _ _ _
        refine jt_if_eq (t := 30) d_FO_hasNumbers_23 rfl (by unfold jRi; omega) (fun c105 => ?_) (fun c105 => ?_)
        · skip
          refine jt_iconst d_FO_hasNumbers_30 ?_
          refine jt_istore_n (L' := [(0, .ref (b + me)), (1, .int (jI 0)), (2, .int (jI p))]) d_FO_hasNumbers_31 (Nat.le_of_ble_eq_true rfl) rfl ?_
          refine jt_iinc (L' := [(0, .ref (b + me)), (1, .int (jI 0)), (2, .int (jI (p + 1)))]) d_FO_hasNumbers_32 rfl (Nat.le_of_ble_eq_true rfl) rfl ?_
          refine jt_goto (t := 4) d_FO_hasNumbers_35 rfl ?_
          exact ih 0 (p + 1) Iq104 Aq104 hpq104 (by omega) (by omega) (by omega)
        · skip
          refine jt_iconst d_FO_hasNumbers_26 ?_
          refine jt_goto (t := 31) d_FO_hasNumbers_27 rfl ?_
          refine jt_istore_n (L' := [(0, .ref (b + me)), (1, .int (jI 1)), (2, .int (jI p))]) d_FO_hasNumbers_31 (Nat.le_of_ble_eq_true rfl) rfl ?_
          refine jt_iinc (L' := [(0, .ref (b + me)), (1, .int (jI 1)), (2, .int (jI (p + 1)))]) d_FO_hasNumbers_32 rfl (Nat.le_of_ble_eq_true rfl) rfl ?_
          refine jt_goto (t := 4) d_FO_hasNumbers_35 rfl ?_
          exact ih 1 (p + 1) Iq104 Aq104 hpq104 (by omega) (by omega) (by omega)
set_option maxRecDepth 100000 in
set_option maxHeartbeats 4000000 in
theorem v_FO_hasNumbers (G : jG) (d b : Nat) (me : Nat) (I : Nat → Nat → Int) (A : Nat → Int → Int) (hI : cSI I) (hA : cSA A) (k_me : me < 472) (k5me : ck me = 5) : cct G Y_FO_hasNumbers (d + 1) b [.ref (b + me)] I A (fun (rv : Option Value) (I2 : Nat → Nat → Int) (A2 : Nat → Int → Int) => ∃ y : Int, rv = some (.int (jI y)) ∧ (0 ≤ y ∧ y ≤ 1) ∧ cPo [] [] I A I2 A2) := by
  refine cct_of (by decide) (Nat.le_of_ble_eq_true rfl) (fun f0 sz => ?_)
  show jt _ 0 [(0, .ref (b + me))] [] _ _ _ _
  have fpme := form_parts me k_me k5me
  have glme := eLong k_me k5me
  have hz0 : cPo [] [] I A I A := cPo.refl hI hA
  refine jt_iconst d_FO_hasNumbers_0 ?_
  refine jt_istore_n (L' := [(0, .ref (b + me)), (1, .int (jI 1))]) d_FO_hasNumbers_1 (Nat.le_of_ble_eq_true rfl) rfl ?_
  refine jt_iconst d_FO_hasNumbers_2 ?_
  refine jt_istore_n (L' := [(0, .ref (b + me)), (1, .int (jI 1)), (2, .int (jI 0))]) d_FO_hasNumbers_3 (Nat.le_of_ble_eq_true rfl) rfl ?_
  exact l4_FO_hasNumbersv G d b me I A hI hA k_me k5me f0 sz  14 1 0 I A hz0 (by omega) (by omega) (by omega)
set_option maxRecDepth 100000 in
set_option maxHeartbeats 4000000 in
theorem l4_FO_isPlainv (G : jG) (d b : Nat) (me : Nat) (I : Nat → Nat → Int) (A : Nat → Int → Int) (hI : cSI I) (hA : cSA A) (k_me : me < 472) (k5me : ck me = 5) (f0 : jF) (sz : Nat)   : ∀ (n9 : Nat) (n : Int) (p : Int) (J : Nat → Nat → Int) (B : Nat → Int → Int), cPo [] [] I A J B → (0 ≤ n ∧ n ≤ 1) → (0 ≤ p ∧ p ≤ 13) → 13 - p < (n9 : Int) → jt (jm G Y_FO_isPlain (gR d) (cQ b f0 sz (fun (rv : Option Value) (I2 : Nat → Nat → Int) (A2 : Nat → Int → Int) => ∃ y : Int, rv = some (.int (jI y)) ∧ (0 ≤ y ∧ y ≤ 1) ∧ cPo [] [] I A I2 A2))) 4 [(0, .ref (b + me)), (1, .int (jI n)), (2, .int (jI p))] [] (cmf b f0 J B) sz 0 0 := by
  have fpme := form_parts me k_me k5me
  have glme := eLong k_me k5me
  intro n9
  induction n9 with
  | zero =>
    intro n p J B hJ n0 p0 hmeas
    exfalso
    omega
  | succ n9 ih =>
    intro n p J B hJ n0 p0 hmeas
    refine jt_iload_n d_FO_isPlain_4 rfl ?_
    refine jt_bipush d_FO_isPlain_5 (by omega) ?_
    refine jt_icmp_ge (t := 37) d_FO_isPlain_7 rfl (by unfold jRi; omega) (by unfold jRi; omega) (fun c101 => ?_) (fun c101 => ?_)
    · skip
      refine jt_iload_n d_FO_isPlain_37 rfl ?_
      exact cm_ret d_FO_isPlain_38 rfl (jnz (by omega)) (⟨n, rfl, by omega, hJ⟩)
    · skip
      refine jt_iload_n d_FO_isPlain_10 rfl ?_
      refine jt_if_eq (t := 29) d_FO_isPlain_11 rfl (by unfold jRi; omega) (fun c102 => ?_) (fun c102 => ?_)
      · skip
        refine jt_iconst d_FO_isPlain_29 ?_
        refine jt_istore_n (L' := [(0, .ref (b + me)), (1, .int (jI 0)), (2, .int (jI p))]) d_FO_isPlain_30 (Nat.le_of_ble_eq_true rfl) rfl ?_
        refine jt_iinc (L' := [(0, .ref (b + me)), (1, .int (jI 0)), (2, .int (jI (p + 1)))]) d_FO_isPlain_31 rfl (Nat.le_of_ble_eq_true rfl) rfl ?_
        refine jt_goto (t := 4) d_FO_isPlain_34 rfl ?_
        exact ih 0 (p + 1) J B hJ (by omega) (by omega) (by omega)
      · skip
        refine jt_aload_n d_FO_isPlain_14 rfl ?_
        refine cm_get (k := me) (v := .ref (b + (me + 1))) d_FO_isPlain_15 FO_f11 k_me (cc_5 k5me) rfl ?_
        refine jt_iload_n d_FO_isPlain_18 rfl ?_
        refine cm_ld1 (k := me + 1) (n := 13) (v := (B ((me + 1))) p) d_FO_isPlain_19 fpme.2.2 fpme.1 fpme.2.1 (by omega) (by omega) (by omega) rfl ?_
        refine jt_topl (fun v103 ev103 => ?_)
        have bv103 : -9223372036854775808 ≤ v103 ∧ v103 ≤ 9223372036854775807 := by have q9 := hJ.2.1 (me + 1) p; rw [glme.1, glme.2] at q9; rw [ev103]; exact q9
        refine jt_lconst (z := 0) d_FO_isPlain_20 (by decide) ?_
        refine jt_lif_ne (t := 29) d_FO_isPlain_21 d_FO_isPlain_22 rfl (by unfold jRl; omega) (by unfold jRl; omega) (fun c104 => ?_) (fun c104 => ?_)
        · skip
          refine jt_iconst d_FO_isPlain_29 ?_
          refine jt_istore_n (L' := [(0, .ref (b + me)), (1, .int (jI 0)), (2, .int (jI p))]) d_FO_isPlain_30 (Nat.le_of_ble_eq_true rfl) rfl ?_
          refine jt_iinc (L' := [(0, .ref (b + me)), (1, .int (jI 0)), (2, .int (jI (p + 1)))]) d_FO_isPlain_31 rfl (Nat.le_of_ble_eq_true rfl) rfl ?_
          refine jt_goto (t := 4) d_FO_isPlain_34 rfl ?_
          exact ih 0 (p + 1) J B hJ (by omega) (by omega) (by omega)
        · skip
          refine jt_iconst d_FO_isPlain_25 ?_
          refine jt_goto (t := 30) d_FO_isPlain_26 rfl ?_
          refine jt_istore_n (L' := [(0, .ref (b + me)), (1, .int (jI 1)), (2, .int (jI p))]) d_FO_isPlain_30 (Nat.le_of_ble_eq_true rfl) rfl ?_
          refine jt_iinc (L' := [(0, .ref (b + me)), (1, .int (jI 1)), (2, .int (jI (p + 1)))]) d_FO_isPlain_31 rfl (Nat.le_of_ble_eq_true rfl) rfl ?_
          refine jt_goto (t := 4) d_FO_isPlain_34 rfl ?_
          exact ih 1 (p + 1) J B hJ (by omega) (by omega) (by omega)
set_option maxRecDepth 100000 in
set_option maxHeartbeats 4000000 in
theorem v_FO_isPlain (G : jG) (d b : Nat) (me : Nat) (I : Nat → Nat → Int) (A : Nat → Int → Int) (hI : cSI I) (hA : cSA A) (k_me : me < 472) (k5me : ck me = 5) : cct G Y_FO_isPlain d b [.ref (b + me)] I A (fun (rv : Option Value) (I2 : Nat → Nat → Int) (A2 : Nat → Int → Int) => ∃ y : Int, rv = some (.int (jI y)) ∧ (0 ≤ y ∧ y ≤ 1) ∧ cPo [] [] I A I2 A2) := by
  refine cct_of (by decide) (Nat.le_of_ble_eq_true rfl) (fun f0 sz => ?_)
  show jt _ 0 [(0, .ref (b + me))] [] _ _ _ _
  have fpme := form_parts me k_me k5me
  have glme := eLong k_me k5me
  have hz0 : cPo [] [] I A I A := cPo.refl hI hA
  refine jt_iconst d_FO_isPlain_0 ?_
  refine jt_istore_n (L' := [(0, .ref (b + me)), (1, .int (jI 1))]) d_FO_isPlain_1 (Nat.le_of_ble_eq_true rfl) rfl ?_
  refine jt_iconst d_FO_isPlain_2 ?_
  refine jt_istore_n (L' := [(0, .ref (b + me)), (1, .int (jI 1)), (2, .int (jI 0))]) d_FO_isPlain_3 (Nat.le_of_ble_eq_true rfl) rfl ?_
  exact l4_FO_isPlainv G d b me I A hI hA k_me k5me f0 sz  14 1 0 I A hz0 (by omega) (by omega) (by omega)
set_option maxRecDepth 100000 in
set_option maxHeartbeats 4000000 in
theorem l3_FO_setv (G : jG) (d b : Nat) (me : Nat) (q : Int) (x : Int) (I : Nat → Nat → Int) (A : Nat → Int → Int) (hI : cSI I) (hA : cSA A) (k_me : me < 472) (k5me : ck me = 5) (hq : -2147483648 ≤ q ∧ q ≤ 2147483647) (hx : -9223372036854775808 ≤ x ∧ x ≤ 9223372036854775807) (f0 : jF) (sz : Nat)   : ∀ (n9 : Nat) (p : Int) (J : Nat → Nat → Int) (B : Nat → Int → Int), cPo [] [] I A J B → (0 ≤ p ∧ p ≤ 13) → 13 - p < (n9 : Int) → jt (jm G Y_FO_set (gR d) (cQ b f0 sz (fun (rv : Option Value) (I2 : Nat → Nat → Int) (A2 : Nat → Int → Int) => rv = none ∧ cPo [] [] I A I2 A2))) 3 [(0, .ref (b + me)), (1, .int (jI q)), (2, .long (jL x)), (4, .int (jI p))] [] (cmf b f0 J B) sz 0 0 := by
  have fpme := form_parts me k_me k5me
  have glme := eLong k_me k5me
  intro n9
  induction n9 with
  | zero =>
    intro p J B hJ p0 hmeas
    exfalso
    omega
  | succ n9 ih =>
    intro p J B hJ p0 hmeas
    refine jt_iload d_FO_set_3 rfl ?_
    refine jt_bipush d_FO_set_5 (by omega) ?_
    refine jt_icmp_ge (t := 34) d_FO_set_7 rfl (by unfold jRi; omega) (by unfold jRi; omega) (fun c101 => ?_) (fun c101 => ?_)
    · skip
      exact cm_vret d_FO_set_34 rfl (⟨rfl, hJ⟩)
    · skip
      refine jt_aload_n d_FO_set_10 rfl ?_
      refine cm_get (k := me) (v := .ref (b + (me + 1))) d_FO_set_11 FO_f11 k_me (cc_5 k5me) rfl ?_
      refine jt_iload d_FO_set_14 rfl ?_
      refine jt_iload d_FO_set_16 rfl ?_
      refine jt_iload_n d_FO_set_18 rfl ?_
      refine jt_icmp_ne (t := 26) d_FO_set_19 rfl (by unfold jRi; omega) (by unfold jRi; omega) (fun c102 => ?_) (fun c102 => ?_)
      · skip
        refine jt_lconst (z := 0) d_FO_set_26 (by decide) ?_
        refine cm_st1 (k := me + 1) (n := 13) (v := 0) d_FO_set_27 fpme.2.2 fpme.1 fpme.2.1 (by omega) (by omega) (by omega) ?_
        refine cm_nmA (fun B103 eB103 => ?_)
        have p104 : cPo [] [] I A (J) B103 := by rw [eB103]; exact cPo.A (me + 1) _ hJ (Or.inr fpme.1) (by rw [glme.1, glme.2]; exact gju (fun z9 => by have q9 := hJ.2.1 (me + 1) z9; rw [glme.1, glme.2] at q9; exact q9) (show -9223372036854775808 ≤ 0 ∧ 0 ≤ 9223372036854775807 by omega))
        refine jt_iinc (L' := [(0, .ref (b + me)), (1, .int (jI q)), (2, .long (jL x)), (4, .int (jI (p + 1)))]) d_FO_set_28 rfl (Nat.le_of_ble_eq_true rfl) rfl ?_
        refine jt_goto (t := 3) d_FO_set_31 rfl ?_
        exact ih (p + 1) J B103 p104 (by omega) (by omega)
      · skip
        refine jt_lload_n d_FO_set_22 rfl ?_
        refine jt_goto (t := 27) d_FO_set_23 rfl ?_
        refine cm_st1 (k := me + 1) (n := 13) (v := x) d_FO_set_27 fpme.2.2 fpme.1 fpme.2.1 (by omega) (by omega) (by omega) ?_
        refine cm_nmA (fun B105 eB105 => ?_)
        have p106 : cPo [] [] I A (J) B105 := by rw [eB105]; exact cPo.A (me + 1) _ hJ (Or.inr fpme.1) (by rw [glme.1, glme.2]; exact gju (fun z9 => by have q9 := hJ.2.1 (me + 1) z9; rw [glme.1, glme.2] at q9; exact q9) (show -9223372036854775808 ≤ x ∧ x ≤ 9223372036854775807 by omega))
        refine jt_iinc (L' := [(0, .ref (b + me)), (1, .int (jI q)), (2, .long (jL x)), (4, .int (jI (p + 1)))]) d_FO_set_28 rfl (Nat.le_of_ble_eq_true rfl) rfl ?_
        refine jt_goto (t := 3) d_FO_set_31 rfl ?_
        exact ih (p + 1) J B105 p106 (by omega) (by omega)
set_option maxRecDepth 100000 in
set_option maxHeartbeats 4000000 in
theorem v_FO_set (G : jG) (d b : Nat) (me : Nat) (q : Int) (x : Int) (I : Nat → Nat → Int) (A : Nat → Int → Int) (hI : cSI I) (hA : cSA A) (k_me : me < 472) (k5me : ck me = 5) (hq : -2147483648 ≤ q ∧ q ≤ 2147483647) (hx : -9223372036854775808 ≤ x ∧ x ≤ 9223372036854775807) : cct G Y_FO_set d b [.ref (b + me), .int (jI q), .long (jL x)] I A (fun (rv : Option Value) (I2 : Nat → Nat → Int) (A2 : Nat → Int → Int) => rv = none ∧ cPo [] [] I A I2 A2) := by
  refine cct_of (by decide) (Nat.le_of_ble_eq_true rfl) (fun f0 sz => ?_)
  show jt _ 0 [(0, .ref (b + me)), (1, .int (jI q)), (2, .long (jL x))] [] _ _ _ _
  have fpme := form_parts me k_me k5me
  have glme := eLong k_me k5me
  have hz0 : cPo [] [] I A I A := cPo.refl hI hA
  refine jt_iconst d_FO_set_0 ?_
  refine jt_istore (L' := [(0, .ref (b + me)), (1, .int (jI q)), (2, .long (jL x)), (4, .int (jI 0))]) d_FO_set_1 (Nat.le_of_ble_eq_true rfl) rfl ?_
  exact l3_FO_setv G d b me q x I A hI hA k_me k5me hq hx f0 sz  14 0 I A hz0 (by omega) (by omega)
set_option maxRecDepth 100000 in
set_option maxHeartbeats 4000000 in
theorem l2_FO_copyv (G : jG) (d b : Nat) (me : Nat) (o : Nat) (I : Nat → Nat → Int) (A : Nat → Int → Int) (hI : cSI I) (hA : cSA A) (k_me : me < 472) (k5me : ck me = 5) (k_o : o < 472) (k5o : ck o = 5) (f0 : jF) (sz : Nat)   : ∀ (n9 : Nat) (p : Int) (J : Nat → Nat → Int) (B : Nat → Int → Int), cPo [] [] I A J B → (0 ≤ p ∧ p ≤ 13) → 13 - p < (n9 : Int) → jt (jm G Y_FO_copy (gR d) (cQ b f0 sz (fun (rv : Option Value) (I2 : Nat → Nat → Int) (A2 : Nat → Int → Int) => rv = none ∧ cPo [] [] I A I2 A2))) 2 [(0, .ref (b + me)), (1, .ref (b + o)), (2, .int (jI p))] [] (cmf b f0 J B) sz 0 0 := by
  have fpme := form_parts me k_me k5me
  have glme := eLong k_me k5me
  have fpo := form_parts o k_o k5o
  have glo := eLong k_o k5o
  intro n9
  induction n9 with
  | zero =>
    intro p J B hJ p0 hmeas
    exfalso
    omega
  | succ n9 ih =>
    intro p J B hJ p0 hmeas
    refine jt_iload_n d_FO_copy_2 rfl ?_
    refine jt_bipush d_FO_copy_3 (by omega) ?_
    refine jt_icmp_ge (t := 26) d_FO_copy_5 rfl (by unfold jRi; omega) (by unfold jRi; omega) (fun c101 => ?_) (fun c101 => ?_)
    · skip
      exact cm_vret d_FO_copy_26 rfl (⟨rfl, hJ⟩)
    · skip
      refine jt_aload_n d_FO_copy_8 rfl ?_
      refine cm_get (k := me) (v := .ref (b + (me + 1))) d_FO_copy_9 FO_f11 k_me (cc_5 k5me) rfl ?_
      refine jt_iload_n d_FO_copy_12 rfl ?_
      refine jt_aload_n d_FO_copy_13 rfl ?_
      refine cm_get (k := o) (v := .ref (b + (o + 1))) d_FO_copy_14 FO_f11 k_o (cc_5 k5o) rfl ?_
      refine jt_iload_n d_FO_copy_17 rfl ?_
      refine cm_ld1 (k := o + 1) (n := 13) (v := (B ((o + 1))) p) d_FO_copy_18 fpo.2.2 fpo.1 fpo.2.1 (by omega) (by omega) (by omega) rfl ?_
      refine jt_topl (fun v102 ev102 => ?_)
      have bv102 : -9223372036854775808 ≤ v102 ∧ v102 ≤ 9223372036854775807 := by have q9 := hJ.2.1 (o + 1) p; rw [glo.1, glo.2] at q9; rw [ev102]; exact q9
      refine cm_st1 (k := me + 1) (n := 13) (v := v102) d_FO_copy_19 fpme.2.2 fpme.1 fpme.2.1 (by omega) (by omega) (by omega) ?_
      refine cm_nmA (fun B103 eB103 => ?_)
      have p104 : cPo [] [] I A (J) B103 := by rw [eB103]; exact cPo.A (me + 1) _ hJ (Or.inr fpme.1) (by rw [glme.1, glme.2]; exact gju (fun z9 => by have q9 := hJ.2.1 (me + 1) z9; rw [glme.1, glme.2] at q9; exact q9) (show -9223372036854775808 ≤ v102 ∧ v102 ≤ 9223372036854775807 by omega))
      refine jt_iinc (L' := [(0, .ref (b + me)), (1, .ref (b + o)), (2, .int (jI (p + 1)))]) d_FO_copy_20 rfl (Nat.le_of_ble_eq_true rfl) rfl ?_
      refine jt_goto (t := 2) d_FO_copy_23 rfl ?_
      exact ih (p + 1) J B103 p104 (by omega) (by omega)
set_option maxRecDepth 100000 in
set_option maxHeartbeats 4000000 in
theorem v_FO_copy (G : jG) (d b : Nat) (me : Nat) (o : Nat) (I : Nat → Nat → Int) (A : Nat → Int → Int) (hI : cSI I) (hA : cSA A) (k_me : me < 472) (k5me : ck me = 5) (k_o : o < 472) (k5o : ck o = 5) : cct G Y_FO_copy d b [.ref (b + me), .ref (b + o)] I A (fun (rv : Option Value) (I2 : Nat → Nat → Int) (A2 : Nat → Int → Int) => rv = none ∧ cPo [] [] I A I2 A2) := by
  refine cct_of (by decide) (Nat.le_of_ble_eq_true rfl) (fun f0 sz => ?_)
  show jt _ 0 [(0, .ref (b + me)), (1, .ref (b + o))] [] _ _ _ _
  have fpme := form_parts me k_me k5me
  have glme := eLong k_me k5me
  have fpo := form_parts o k_o k5o
  have glo := eLong k_o k5o
  have hz0 : cPo [] [] I A I A := cPo.refl hI hA
  refine jt_iconst d_FO_copy_0 ?_
  refine jt_istore_n (L' := [(0, .ref (b + me)), (1, .ref (b + o)), (2, .int (jI 0))]) d_FO_copy_1 (Nat.le_of_ble_eq_true rfl) rfl ?_
  exact l2_FO_copyv G d b me o I A hI hA k_me k5me k_o k5o f0 sz  14 0 I A hz0 (by omega) (by omega)
set_option maxRecDepth 100000 in
set_option maxHeartbeats 4000000 in
theorem l2_FO_addv (G : jG) (d b : Nat) (me : Nat) (o : Nat) (I : Nat → Nat → Int) (A : Nat → Int → Int) (hI : cSI I) (hA : cSA A) (k_me : me < 472) (k5me : ck me = 5) (k_o : o < 472) (k5o : ck o = 5) (f0 : jF) (sz : Nat)   : ∀ (n9 : Nat) (p : Int) (J : Nat → Nat → Int) (B : Nat → Int → Int), cPo [] [] I A J B → (0 ≤ p ∧ p ≤ 13) → 13 - p < (n9 : Int) → jt (jm G Y_FO_add (gR d) (cQ b f0 sz (fun (rv : Option Value) (I2 : Nat → Nat → Int) (A2 : Nat → Int → Int) => rv = none ∧ cPo [] [] I A I2 A2))) 2 [(0, .ref (b + me)), (1, .ref (b + o)), (2, .int (jI p))] [] (cmf b f0 J B) sz 0 0 := by
  have fpme := form_parts me k_me k5me
  have glme := eLong k_me k5me
  have fpo := form_parts o k_o k5o
  have glo := eLong k_o k5o
  intro n9
  induction n9 with
  | zero =>
    intro p J B hJ p0 hmeas
    exfalso
    omega
  | succ n9 ih =>
    intro p J B hJ p0 hmeas
    refine jt_iload_n d_FO_add_2 rfl ?_
    refine jt_bipush d_FO_add_3 (by omega) ?_
    refine jt_icmp_ge (t := 29) d_FO_add_5 rfl (by unfold jRi; omega) (by unfold jRi; omega) (fun c101 => ?_) (fun c101 => ?_)
    · skip
      exact cm_vret d_FO_add_29 rfl (⟨rfl, hJ⟩)
    · skip
      refine jt_aload_n d_FO_add_8 rfl ?_
      refine cm_get (k := me) (v := .ref (b + (me + 1))) d_FO_add_9 FO_f11 k_me (cc_5 k5me) rfl ?_
      refine jt_iload_n d_FO_add_12 rfl ?_
      refine jt_dup2 d_FO_add_13 rfl rfl ?_
      refine cm_ld1 (k := me + 1) (n := 13) (v := (B ((me + 1))) p) d_FO_add_14 fpme.2.2 fpme.1 fpme.2.1 (by omega) (by omega) (by omega) rfl ?_
      refine jt_topl (fun v102 ev102 => ?_)
      have bv102 : -9223372036854775808 ≤ v102 ∧ v102 ≤ 9223372036854775807 := by have q9 := hJ.2.1 (me + 1) p; rw [glme.1, glme.2] at q9; rw [ev102]; exact q9
      refine jt_aload_n d_FO_add_15 rfl ?_
      refine cm_get (k := o) (v := .ref (b + (o + 1))) d_FO_add_16 FO_f11 k_o (cc_5 k5o) rfl ?_
      refine jt_iload_n d_FO_add_19 rfl ?_
      refine cm_ld1 (k := o + 1) (n := 13) (v := (B ((o + 1))) p) d_FO_add_20 fpo.2.2 fpo.1 fpo.2.1 (by omega) (by omega) (by omega) rfl ?_
      refine jt_topl (fun v103 ev103 => ?_)
      have bv103 : -9223372036854775808 ≤ v103 ∧ v103 ≤ 9223372036854775807 := by have q9 := hJ.2.1 (o + 1) p; rw [glo.1, glo.2] at q9; rw [ev103]; exact q9
      refine jt_ladd d_FO_add_21 ?_
      refine jt_toplw (fun v104 bv104 => ?_)
      refine cm_st1 (k := me + 1) (n := 13) (v := v104) d_FO_add_22 fpme.2.2 fpme.1 fpme.2.1 (by omega) (by omega) (by omega) ?_
      refine cm_nmA (fun B105 eB105 => ?_)
      have p106 : cPo [] [] I A (J) B105 := by rw [eB105]; exact cPo.A (me + 1) _ hJ (Or.inr fpme.1) (by rw [glme.1, glme.2]; exact gju (fun z9 => by have q9 := hJ.2.1 (me + 1) z9; rw [glme.1, glme.2] at q9; exact q9) (show -9223372036854775808 ≤ v104 ∧ v104 ≤ 9223372036854775807 by omega))
      refine jt_iinc (L' := [(0, .ref (b + me)), (1, .ref (b + o)), (2, .int (jI (p + 1)))]) d_FO_add_23 rfl (Nat.le_of_ble_eq_true rfl) rfl ?_
      refine jt_goto (t := 2) d_FO_add_26 rfl ?_
      exact ih (p + 1) J B105 p106 (by omega) (by omega)
set_option maxRecDepth 100000 in
set_option maxHeartbeats 4000000 in
theorem v_FO_add (G : jG) (d b : Nat) (me : Nat) (o : Nat) (I : Nat → Nat → Int) (A : Nat → Int → Int) (hI : cSI I) (hA : cSA A) (k_me : me < 472) (k5me : ck me = 5) (k_o : o < 472) (k5o : ck o = 5) : cct G Y_FO_add d b [.ref (b + me), .ref (b + o)] I A (fun (rv : Option Value) (I2 : Nat → Nat → Int) (A2 : Nat → Int → Int) => rv = none ∧ cPo [] [] I A I2 A2) := by
  refine cct_of (by decide) (Nat.le_of_ble_eq_true rfl) (fun f0 sz => ?_)
  show jt _ 0 [(0, .ref (b + me)), (1, .ref (b + o))] [] _ _ _ _
  have fpme := form_parts me k_me k5me
  have glme := eLong k_me k5me
  have fpo := form_parts o k_o k5o
  have glo := eLong k_o k5o
  have hz0 : cPo [] [] I A I A := cPo.refl hI hA
  refine jt_iconst d_FO_add_0 ?_
  refine jt_istore_n (L' := [(0, .ref (b + me)), (1, .ref (b + o)), (2, .int (jI 0))]) d_FO_add_1 (Nat.le_of_ble_eq_true rfl) rfl ?_
  exact l2_FO_addv G d b me o I A hI hA k_me k5me k_o k5o f0 sz  14 0 I A hz0 (by omega) (by omega)
set_option maxRecDepth 100000 in
set_option maxHeartbeats 4000000 in
theorem l2_FO_subtractv (G : jG) (d b : Nat) (me : Nat) (o : Nat) (I : Nat → Nat → Int) (A : Nat → Int → Int) (hI : cSI I) (hA : cSA A) (k_me : me < 472) (k5me : ck me = 5) (k_o : o < 472) (k5o : ck o = 5) (f0 : jF) (sz : Nat)   : ∀ (n9 : Nat) (p : Int) (J : Nat → Nat → Int) (B : Nat → Int → Int), cPo [] [] I A J B → (0 ≤ p ∧ p ≤ 13) → 13 - p < (n9 : Int) → jt (jm G Y_FO_subtract (gR d) (cQ b f0 sz (fun (rv : Option Value) (I2 : Nat → Nat → Int) (A2 : Nat → Int → Int) => rv = none ∧ cPo [] [] I A I2 A2))) 2 [(0, .ref (b + me)), (1, .ref (b + o)), (2, .int (jI p))] [] (cmf b f0 J B) sz 0 0 := by
  have fpme := form_parts me k_me k5me
  have glme := eLong k_me k5me
  have fpo := form_parts o k_o k5o
  have glo := eLong k_o k5o
  intro n9
  induction n9 with
  | zero =>
    intro p J B hJ p0 hmeas
    exfalso
    omega
  | succ n9 ih =>
    intro p J B hJ p0 hmeas
    refine jt_iload_n d_FO_subtract_2 rfl ?_
    refine jt_bipush d_FO_subtract_3 (by omega) ?_
    refine jt_icmp_ge (t := 29) d_FO_subtract_5 rfl (by unfold jRi; omega) (by unfold jRi; omega) (fun c101 => ?_) (fun c101 => ?_)
    · skip
      exact cm_vret d_FO_subtract_29 rfl (⟨rfl, hJ⟩)
    · skip
      refine jt_aload_n d_FO_subtract_8 rfl ?_
      refine cm_get (k := me) (v := .ref (b + (me + 1))) d_FO_subtract_9 FO_f11 k_me (cc_5 k5me) rfl ?_
      refine jt_iload_n d_FO_subtract_12 rfl ?_
      refine jt_dup2 d_FO_subtract_13 rfl rfl ?_
      refine cm_ld1 (k := me + 1) (n := 13) (v := (B ((me + 1))) p) d_FO_subtract_14 fpme.2.2 fpme.1 fpme.2.1 (by omega) (by omega) (by omega) rfl ?_
      refine jt_topl (fun v102 ev102 => ?_)
      have bv102 : -9223372036854775808 ≤ v102 ∧ v102 ≤ 9223372036854775807 := by have q9 := hJ.2.1 (me + 1) p; rw [glme.1, glme.2] at q9; rw [ev102]; exact q9
      refine jt_aload_n d_FO_subtract_15 rfl ?_
      refine cm_get (k := o) (v := .ref (b + (o + 1))) d_FO_subtract_16 FO_f11 k_o (cc_5 k5o) rfl ?_
      refine jt_iload_n d_FO_subtract_19 rfl ?_
      refine cm_ld1 (k := o + 1) (n := 13) (v := (B ((o + 1))) p) d_FO_subtract_20 fpo.2.2 fpo.1 fpo.2.1 (by omega) (by omega) (by omega) rfl ?_
      refine jt_topl (fun v103 ev103 => ?_)
      have bv103 : -9223372036854775808 ≤ v103 ∧ v103 ≤ 9223372036854775807 := by have q9 := hJ.2.1 (o + 1) p; rw [glo.1, glo.2] at q9; rw [ev103]; exact q9
      refine jt_lsub d_FO_subtract_21 ?_
      refine jt_toplw (fun v104 bv104 => ?_)
      refine cm_st1 (k := me + 1) (n := 13) (v := v104) d_FO_subtract_22 fpme.2.2 fpme.1 fpme.2.1 (by omega) (by omega) (by omega) ?_
      refine cm_nmA (fun B105 eB105 => ?_)
      have p106 : cPo [] [] I A (J) B105 := by rw [eB105]; exact cPo.A (me + 1) _ hJ (Or.inr fpme.1) (by rw [glme.1, glme.2]; exact gju (fun z9 => by have q9 := hJ.2.1 (me + 1) z9; rw [glme.1, glme.2] at q9; exact q9) (show -9223372036854775808 ≤ v104 ∧ v104 ≤ 9223372036854775807 by omega))
      refine jt_iinc (L' := [(0, .ref (b + me)), (1, .ref (b + o)), (2, .int (jI (p + 1)))]) d_FO_subtract_23 rfl (Nat.le_of_ble_eq_true rfl) rfl ?_
      refine jt_goto (t := 2) d_FO_subtract_26 rfl ?_
      exact ih (p + 1) J B105 p106 (by omega) (by omega)
set_option maxRecDepth 100000 in
set_option maxHeartbeats 4000000 in
theorem v_FO_subtract (G : jG) (d b : Nat) (me : Nat) (o : Nat) (I : Nat → Nat → Int) (A : Nat → Int → Int) (hI : cSI I) (hA : cSA A) (k_me : me < 472) (k5me : ck me = 5) (k_o : o < 472) (k5o : ck o = 5) : cct G Y_FO_subtract d b [.ref (b + me), .ref (b + o)] I A (fun (rv : Option Value) (I2 : Nat → Nat → Int) (A2 : Nat → Int → Int) => rv = none ∧ cPo [] [] I A I2 A2) := by
  refine cct_of (by decide) (Nat.le_of_ble_eq_true rfl) (fun f0 sz => ?_)
  show jt _ 0 [(0, .ref (b + me)), (1, .ref (b + o))] [] _ _ _ _
  have fpme := form_parts me k_me k5me
  have glme := eLong k_me k5me
  have fpo := form_parts o k_o k5o
  have glo := eLong k_o k5o
  have hz0 : cPo [] [] I A I A := cPo.refl hI hA
  refine jt_iconst d_FO_subtract_0 ?_
  refine jt_istore_n (L' := [(0, .ref (b + me)), (1, .ref (b + o)), (2, .int (jI 0))]) d_FO_subtract_1 (Nat.le_of_ble_eq_true rfl) rfl ?_
  exact l2_FO_subtractv G d b me o I A hI hA k_me k5me k_o k5o f0 sz  14 0 I A hz0 (by omega) (by omega)
set_option maxRecDepth 100000 in
set_option maxHeartbeats 4000000 in
theorem l4_FO_multiplyv (G : jG) (d b : Nat) (me : Nat) (s : Int) (I : Nat → Nat → Int) (A : Nat → Int → Int) (hI : cSI I) (hA : cSA A) (k_me : me < 472) (k5me : ck me = 5) (hs : -2147483648 ≤ s ∧ s ≤ 2147483647) (f0 : jF) (sz : Nat)   : ∀ (n9 : Nat) (n : Int) (p : Int) (J : Nat → Nat → Int) (B : Nat → Int → Int), cPo [] [] I A J B → (0 ≤ n ∧ n ≤ 1) → (0 ≤ p ∧ p ≤ 13) → 13 - p < (n9 : Int) → jt (jm G Y_FO_multiply (gR (d + 1)) (cQ b f0 sz (fun (rv : Option Value) (I2 : Nat → Nat → Int) (A2 : Nat → Int → Int) => ∃ y : Int, rv = some (.int (jI y)) ∧ (0 ≤ y ∧ y ≤ 1) ∧ cPo [] [] I A I2 A2))) 4 [(0, .ref (b + me)), (1, .int (jI s)), (2, .int (jI n)), (3, .int (jI p))] [] (cmf b f0 J B) sz 0 0 := by
  have fpme := form_parts me k_me k5me
  have glme := eLong k_me k5me
  intro n9
  induction n9 with
  | zero =>
    intro n p J B hJ n0 p0 hmeas
    exfalso
    omega
  | succ n9 ih =>
    intro n p J B hJ n0 p0 hmeas
    refine jt_iload_n d_FO_multiply_4 rfl ?_
    refine jt_bipush d_FO_multiply_5 (by omega) ?_
    refine jt_icmp_ge (t := 70) d_FO_multiply_7 rfl (by unfold jRi; omega) (by unfold jRi; omega) (fun c101 => ?_) (fun c101 => ?_)
    · skip
      refine jt_iload_n d_FO_multiply_70 rfl ?_
      exact cm_ret d_FO_multiply_71 rfl (jnz (by omega)) (⟨n, rfl, by omega, hJ⟩)
    · skip
      refine jt_aload_n d_FO_multiply_10 rfl ?_
      refine cm_get (k := me) (v := .ref (b + (me + 1))) d_FO_multiply_11 FO_f11 k_me (cc_5 k5me) rfl ?_
      refine jt_iload_n d_FO_multiply_14 rfl ?_
      refine cm_ld1 (k := me + 1) (n := 13) (v := (B ((me + 1))) p) d_FO_multiply_15 fpme.2.2 fpme.1 fpme.2.1 (by omega) (by omega) (by omega) rfl ?_
      refine jt_topl (fun v102 ev102 => ?_)
      have bv102 : -9223372036854775808 ≤ v102 ∧ v102 ≤ 9223372036854775807 := by have q9 := hJ.2.1 (me + 1) p; rw [glme.1, glme.2] at q9; rw [ev102]; exact q9
      refine jt_iload_n d_FO_multiply_16 rfl ?_
      refine jt_i2l d_FO_multiply_17 (by unfold jRi; omega) ?_
      refine jt_lmul d_FO_multiply_18 ?_
      refine jt_toplw (fun v103 bv103 => ?_)
      refine jt_lstore (L' := [(0, .ref (b + me)), (1, .int (jI s)), (2, .int (jI n)), (3, .int (jI p)), (4, .long (jL v103))]) d_FO_multiply_19 (Nat.le_of_ble_eq_true rfl) rfl ?_
      refine jt_aload_n d_FO_multiply_21 rfl ?_
      refine cm_get (k := me) (v := .ref (b + (me + 1))) d_FO_multiply_22 FO_f11 k_me (cc_5 k5me) rfl ?_
      refine jt_iload_n d_FO_multiply_25 rfl ?_
      refine jt_lload d_FO_multiply_26 rfl ?_
      refine jt_iconst d_FO_multiply_28 ?_
      refine jt_lshrW d_FO_multiply_29 (fun v104 bv104 => ?_)
      refine cm_st1 (k := me + 1) (n := 13) (v := v104) d_FO_multiply_30 fpme.2.2 fpme.1 fpme.2.1 (by omega) (by omega) (by omega) ?_
      refine cm_nmA (fun B105 eB105 => ?_)
      have p106 : cPo [] [] I A (J) B105 := by rw [eB105]; exact cPo.A (me + 1) _ hJ (Or.inr fpme.1) (by rw [glme.1, glme.2]; exact gju (fun z9 => by have q9 := hJ.2.1 (me + 1) z9; rw [glme.1, glme.2] at q9; exact q9) (show -9223372036854775808 ≤ v104 ∧ v104 ≤ 9223372036854775807 by omega))
      refine jt_iload_n d_FO_multiply_31 rfl ?_
      refine jt_if_eq (t := 62) d_FO_multiply_32 rfl (by unfold jRi; omega) (fun c107 => ?_) (fun c107 => ?_)
      · skip
        refine jt_iconst d_FO_multiply_62 ?_
        refine jt_istore_n (L' := [(0, .ref (b + me)), (1, .int (jI s)), (2, .int (jI 0)), (3, .int (jI p)), (4, .long (jL v103))]) d_FO_multiply_63 (Nat.le_of_ble_eq_true rfl) rfl ?_
        refine jt_iinc (L' := [(0, .ref (b + me)), (1, .int (jI s)), (2, .int (jI 0)), (3, .int (jI (p + 1))), (4, .long (jL v103))]) d_FO_multiply_64 rfl (Nat.le_of_ble_eq_true rfl) rfl ?_
        refine jt_goto (t := 4) d_FO_multiply_67 rfl ?_
        refine jt_sub (L' := [(0, .ref (b + me)), (1, .int (jI s)), (2, .int (jI 0)), (3, .int (jI (p + 1)))]) (fun _ h => List.mem_append_left [(4, Value.long (jL v103))] h) ?_
        exact ih 0 (p + 1) J B105 p106 (by omega) (by omega) (by omega)
      · skip
        refine jt_lload d_FO_multiply_35 rfl ?_
        refine jt_ldc2 (z := 15) d_FO_multiply_37 FO_k24 ?_
        refine jt_landW d_FO_multiply_40 (fun v108 bv108 => ?_)
        refine jt_lconst (z := 0) d_FO_multiply_41 (by decide) ?_
        refine jt_lif_ne (t := 62) d_FO_multiply_42 d_FO_multiply_43 rfl (by unfold jRl; omega) (by unfold jRl; omega) (fun c109 => ?_) (fun c109 => ?_)
        · skip
          refine jt_iconst d_FO_multiply_62 ?_
          refine jt_istore_n (L' := [(0, .ref (b + me)), (1, .int (jI s)), (2, .int (jI 0)), (3, .int (jI p)), (4, .long (jL v103))]) d_FO_multiply_63 (Nat.le_of_ble_eq_true rfl) rfl ?_
          refine jt_iinc (L' := [(0, .ref (b + me)), (1, .int (jI s)), (2, .int (jI 0)), (3, .int (jI (p + 1))), (4, .long (jL v103))]) d_FO_multiply_64 rfl (Nat.le_of_ble_eq_true rfl) rfl ?_
          refine jt_goto (t := 4) d_FO_multiply_67 rfl ?_
          refine jt_sub (L' := [(0, .ref (b + me)), (1, .int (jI s)), (2, .int (jI 0)), (3, .int (jI (p + 1)))]) (fun _ h => List.mem_append_left [(4, Value.long (jL v103))] h) ?_
          exact ih 0 (p + 1) J B105 p106 (by omega) (by omega) (by omega)
        · skip
          refine jt_aload_n d_FO_multiply_46 rfl ?_
          refine cm_get (k := me) (v := .ref (b + (me + 1))) d_FO_multiply_47 FO_f11 k_me (cc_5 k5me) rfl ?_
          refine jt_iload_n d_FO_multiply_50 rfl ?_
          refine cm_ld1 (k := me + 1) (n := 13) (v := (B105 ((me + 1))) p) d_FO_multiply_51 fpme.2.2 fpme.1 fpme.2.1 (by omega) (by omega) (by omega) rfl ?_
          refine jt_topl (fun v110 ev110 => ?_)
          have bv110 : -9223372036854775808 ≤ v110 ∧ v110 ≤ 9223372036854775807 := by have q9 := p106.2.1 (me + 1) p; rw [glme.1, glme.2] at q9; rw [ev110]; exact q9
          refine cct_callS (Y := Y_FO_isNumber) (As := [.long (jL v110)]) (rest := []) d_FO_multiply_52 FO_c20 yk_FO_isNumber ys_FO_isNumber (Nat.le_of_ble_eq_true rfl) rfl rfl (Nat.le_of_ble_eq_true rfl) (v_FO_isNumber G _ b v110 J B105 p106.1 p106.2.1 (by omega)) (fun rvq111 Iq111 Aq111 hq111 => ?_)
          obtain ⟨yq111, rfl, ryq111, hqq111⟩ := hq111
          have hpq111 := cPo.trans p106 hqq111 rfl rfl
          show jt _ 55 [(0, .ref (b + me)), (1, .int (jI s)), (2, .int (jI n)), (3, .int (jI p)), (4, .long (jL v103))] [.int (jI yq111)] (cmf b f0 Iq111 Aq111) _ _ _
          refine jt_if_eq (t := 62) d_FO_multiply_55 rfl (by unfold jRi; omega) (fun c112 => ?_) (fun c112 => ?_)
          · skip
            refine jt_iconst d_FO_multiply_62 ?_
            refine jt_istore_n (L' := [(0, .ref (b + me)), (1, .int (jI s)), (2, .int (jI 0)), (3, .int (jI p)), (4, .long (jL v103))]) d_FO_multiply_63 (Nat.le_of_ble_eq_true rfl) rfl ?_
            refine jt_iinc (L' := [(0, .ref (b + me)), (1, .int (jI s)), (2, .int (jI 0)), (3, .int (jI (p + 1))), (4, .long (jL v103))]) d_FO_multiply_64 rfl (Nat.le_of_ble_eq_true rfl) rfl ?_
            refine jt_goto (t := 4) d_FO_multiply_67 rfl ?_
            refine jt_sub (L' := [(0, .ref (b + me)), (1, .int (jI s)), (2, .int (jI 0)), (3, .int (jI (p + 1)))]) (fun _ h => List.mem_append_left [(4, Value.long (jL v103))] h) ?_
            exact ih 0 (p + 1) Iq111 Aq111 hpq111 (by omega) (by omega) (by omega)
          · skip
            refine jt_iconst d_FO_multiply_58 ?_
            refine jt_goto (t := 63) d_FO_multiply_59 rfl ?_
            refine jt_istore_n (L' := [(0, .ref (b + me)), (1, .int (jI s)), (2, .int (jI 1)), (3, .int (jI p)), (4, .long (jL v103))]) d_FO_multiply_63 (Nat.le_of_ble_eq_true rfl) rfl ?_
            refine jt_iinc (L' := [(0, .ref (b + me)), (1, .int (jI s)), (2, .int (jI 1)), (3, .int (jI (p + 1))), (4, .long (jL v103))]) d_FO_multiply_64 rfl (Nat.le_of_ble_eq_true rfl) rfl ?_
            refine jt_goto (t := 4) d_FO_multiply_67 rfl ?_
            refine jt_sub (L' := [(0, .ref (b + me)), (1, .int (jI s)), (2, .int (jI 1)), (3, .int (jI (p + 1)))]) (fun _ h => List.mem_append_left [(4, Value.long (jL v103))] h) ?_
            exact ih 1 (p + 1) Iq111 Aq111 hpq111 (by omega) (by omega) (by omega)
set_option maxRecDepth 100000 in
set_option maxHeartbeats 4000000 in
theorem v_FO_multiply (G : jG) (d b : Nat) (me : Nat) (s : Int) (I : Nat → Nat → Int) (A : Nat → Int → Int) (hI : cSI I) (hA : cSA A) (k_me : me < 472) (k5me : ck me = 5) (hs : -2147483648 ≤ s ∧ s ≤ 2147483647) : cct G Y_FO_multiply (d + 1) b [.ref (b + me), .int (jI s)] I A (fun (rv : Option Value) (I2 : Nat → Nat → Int) (A2 : Nat → Int → Int) => ∃ y : Int, rv = some (.int (jI y)) ∧ (0 ≤ y ∧ y ≤ 1) ∧ cPo [] [] I A I2 A2) := by
  refine cct_of (by decide) (Nat.le_of_ble_eq_true rfl) (fun f0 sz => ?_)
  show jt _ 0 [(0, .ref (b + me)), (1, .int (jI s))] [] _ _ _ _
  have fpme := form_parts me k_me k5me
  have glme := eLong k_me k5me
  have hz0 : cPo [] [] I A I A := cPo.refl hI hA
  refine jt_iconst d_FO_multiply_0 ?_
  refine jt_istore_n (L' := [(0, .ref (b + me)), (1, .int (jI s)), (2, .int (jI 1))]) d_FO_multiply_1 (Nat.le_of_ble_eq_true rfl) rfl ?_
  refine jt_iconst d_FO_multiply_2 ?_
  refine jt_istore_n (L' := [(0, .ref (b + me)), (1, .int (jI s)), (2, .int (jI 1)), (3, .int (jI 0))]) d_FO_multiply_3 (Nat.le_of_ble_eq_true rfl) rfl ?_
  exact l4_FO_multiplyv G d b me s I A hI hA k_me k5me hs f0 sz  14 1 0 I A hz0 (by omega) (by omega) (by omega)
set_option maxRecDepth 100000 in
set_option maxHeartbeats 4000000 in
theorem l6_FO_setBetweenv (G : jG) (d b : Nat) (me : Nat) (s : Int) (u : Nat) (o : Nat) (I : Nat → Nat → Int) (A : Nat → Int → Int) (hI : cSI I) (hA : cSA A) (k_me : me < 472) (k5me : ck me = 5) (k_u : u < 472) (k5u : ck u = 5) (k_o : o < 472) (k5o : ck o = 5) (hs : -2147483648 ≤ s ∧ s ≤ 2147483647) (f0 : jF) (sz : Nat)   : ∀ (n9 : Nat) (n : Int) (p : Int) (J : Nat → Nat → Int) (B : Nat → Int → Int), cPo [] [] I A J B → (0 ≤ n ∧ n ≤ 1) → (0 ≤ p ∧ p ≤ 13) → 13 - p < (n9 : Int) → jt (jm G Y_FO_setBetween (gR (d + 1)) (cQ b f0 sz (fun (rv : Option Value) (I2 : Nat → Nat → Int) (A2 : Nat → Int → Int) => ∃ y : Int, rv = some (.int (jI y)) ∧ (0 ≤ y ∧ y ≤ 1) ∧ cPo [] [] I A I2 A2))) 6 [(0, .ref (b + me)), (1, .int (jI s)), (2, .ref (b + u)), (3, .ref (b + o)), (4, .int (jI n)), (5, .int (jI p))] [] (cmf b f0 J B) sz 0 0 := by
  have fpme := form_parts me k_me k5me
  have glme := eLong k_me k5me
  have fpu := form_parts u k_u k5u
  have glu := eLong k_u k5u
  have fpo := form_parts o k_o k5o
  have glo := eLong k_o k5o
  intro n9
  induction n9 with
  | zero =>
    intro n p J B hJ n0 p0 hmeas
    exfalso
    omega
  | succ n9 ih =>
    intro n p J B hJ n0 p0 hmeas
    refine jt_iload d_FO_setBetween_6 rfl ?_
    refine jt_bipush d_FO_setBetween_8 (by omega) ?_
    refine jt_icmp_ge (t := 98) d_FO_setBetween_10 rfl (by unfold jRi; omega) (by unfold jRi; omega) (fun c101 => ?_) (fun c101 => ?_)
    · skip
      refine jt_iload d_FO_setBetween_98 rfl ?_
      exact cm_ret d_FO_setBetween_100 rfl (jnz (by omega)) (⟨n, rfl, by omega, hJ⟩)
    · skip
      refine jt_ldc2 (z := 16) d_FO_setBetween_13 FO_k26 ?_
      refine jt_aload_n d_FO_setBetween_16 rfl ?_
      refine cm_get (k := u) (v := .ref (b + (u + 1))) d_FO_setBetween_17 FO_f11 k_u (cc_5 k5u) rfl ?_
      refine jt_iload d_FO_setBetween_20 rfl ?_
      refine cm_ld1 (k := u + 1) (n := 13) (v := (B ((u + 1))) p) d_FO_setBetween_22 fpu.2.2 fpu.1 fpu.2.1 (by omega) (by omega) (by omega) rfl ?_
      refine jt_topl (fun v102 ev102 => ?_)
      have bv102 : -9223372036854775808 ≤ v102 ∧ v102 ≤ 9223372036854775807 := by have q9 := hJ.2.1 (u + 1) p; rw [glu.1, glu.2] at q9; rw [ev102]; exact q9
      refine jt_lmul d_FO_setBetween_23 ?_
      refine jt_toplw (fun v103 bv103 => ?_)
      refine jt_iload_n d_FO_setBetween_24 rfl ?_
      refine jt_i2l d_FO_setBetween_25 (by unfold jRi; omega) ?_
      refine jt_aload_n d_FO_setBetween_26 rfl ?_
      refine cm_get (k := o) (v := .ref (b + (o + 1))) d_FO_setBetween_27 FO_f11 k_o (cc_5 k5o) rfl ?_
      refine jt_iload d_FO_setBetween_30 rfl ?_
      refine cm_ld1 (k := o + 1) (n := 13) (v := (B ((o + 1))) p) d_FO_setBetween_32 fpo.2.2 fpo.1 fpo.2.1 (by omega) (by omega) (by omega) rfl ?_
      refine jt_topl (fun v104 ev104 => ?_)
      have bv104 : -9223372036854775808 ≤ v104 ∧ v104 ≤ 9223372036854775807 := by have q9 := hJ.2.1 (o + 1) p; rw [glo.1, glo.2] at q9; rw [ev104]; exact q9
      refine jt_aload_n d_FO_setBetween_33 rfl ?_
      refine cm_get (k := u) (v := .ref (b + (u + 1))) d_FO_setBetween_34 FO_f11 k_u (cc_5 k5u) rfl ?_
      refine jt_iload d_FO_setBetween_37 rfl ?_
      refine cm_ld1 (k := u + 1) (n := 13) (v := (B ((u + 1))) p) d_FO_setBetween_39 fpu.2.2 fpu.1 fpu.2.1 (by omega) (by omega) (by omega) rfl ?_
      refine jt_topl (fun v105 ev105 => ?_)
      have bv105 : -9223372036854775808 ≤ v105 ∧ v105 ≤ 9223372036854775807 := by have q9 := hJ.2.1 (u + 1) p; rw [glu.1, glu.2] at q9; rw [ev105]; exact q9
      refine jt_lsub d_FO_setBetween_40 ?_
      refine jt_toplw (fun v106 bv106 => ?_)
      refine jt_lmul d_FO_setBetween_41 ?_
      refine jt_toplw (fun v107 bv107 => ?_)
      refine jt_ladd d_FO_setBetween_42 ?_
      refine jt_toplw (fun v108 bv108 => ?_)
      refine jt_lstore (L' := [(0, .ref (b + me)), (1, .int (jI s)), (2, .ref (b + u)), (3, .ref (b + o)), (4, .int (jI n)), (5, .int (jI p)), (6, .long (jL v108))]) d_FO_setBetween_43 (Nat.le_of_ble_eq_true rfl) rfl ?_
      refine jt_aload_n d_FO_setBetween_45 rfl ?_
      refine cm_get (k := me) (v := .ref (b + (me + 1))) d_FO_setBetween_46 FO_f11 k_me (cc_5 k5me) rfl ?_
      refine jt_iload d_FO_setBetween_49 rfl ?_
      refine jt_lload d_FO_setBetween_51 rfl ?_
      refine jt_iconst d_FO_setBetween_53 ?_
      refine jt_lshrW d_FO_setBetween_54 (fun v109 bv109 => ?_)
      refine cm_st1 (k := me + 1) (n := 13) (v := v109) d_FO_setBetween_55 fpme.2.2 fpme.1 fpme.2.1 (by omega) (by omega) (by omega) ?_
      refine cm_nmA (fun B110 eB110 => ?_)
      have p111 : cPo [] [] I A (J) B110 := by rw [eB110]; exact cPo.A (me + 1) _ hJ (Or.inr fpme.1) (by rw [glme.1, glme.2]; exact gju (fun z9 => by have q9 := hJ.2.1 (me + 1) z9; rw [glme.1, glme.2] at q9; exact q9) (show -9223372036854775808 ≤ v109 ∧ v109 ≤ 9223372036854775807 by omega))
      refine jt_iload d_FO_setBetween_56 rfl ?_
      refine jt_if_eq (t := 89) d_FO_setBetween_58 rfl (by unfold jRi; omega) (fun c112 => ?_) (fun c112 => ?_)
      · skip
        refine jt_iconst d_FO_setBetween_89 ?_
        refine jt_istore (L' := [(0, .ref (b + me)), (1, .int (jI s)), (2, .ref (b + u)), (3, .ref (b + o)), (4, .int (jI 0)), (5, .int (jI p)), (6, .long (jL v108))]) d_FO_setBetween_90 (Nat.le_of_ble_eq_true rfl) rfl ?_
        refine jt_iinc (L' := [(0, .ref (b + me)), (1, .int (jI s)), (2, .ref (b + u)), (3, .ref (b + o)), (4, .int (jI 0)), (5, .int (jI (p + 1))), (6, .long (jL v108))]) d_FO_setBetween_92 rfl (Nat.le_of_ble_eq_true rfl) rfl ?_
        refine jt_goto (t := 6) d_FO_setBetween_95 rfl ?_
        refine jt_sub (L' := [(0, .ref (b + me)), (1, .int (jI s)), (2, .ref (b + u)), (3, .ref (b + o)), (4, .int (jI 0)), (5, .int (jI (p + 1)))]) (fun _ h => List.mem_append_left [(6, Value.long (jL v108))] h) ?_
        exact ih 0 (p + 1) J B110 p111 (by omega) (by omega) (by omega)
      · skip
        refine jt_lload d_FO_setBetween_61 rfl ?_
        refine jt_ldc2 (z := 15) d_FO_setBetween_63 FO_k24 ?_
        refine jt_landW d_FO_setBetween_66 (fun v113 bv113 => ?_)
        refine jt_lconst (z := 0) d_FO_setBetween_67 (by decide) ?_
        refine jt_lif_ne (t := 89) d_FO_setBetween_68 d_FO_setBetween_69 rfl (by unfold jRl; omega) (by unfold jRl; omega) (fun c114 => ?_) (fun c114 => ?_)
        · skip
          refine jt_iconst d_FO_setBetween_89 ?_
          refine jt_istore (L' := [(0, .ref (b + me)), (1, .int (jI s)), (2, .ref (b + u)), (3, .ref (b + o)), (4, .int (jI 0)), (5, .int (jI p)), (6, .long (jL v108))]) d_FO_setBetween_90 (Nat.le_of_ble_eq_true rfl) rfl ?_
          refine jt_iinc (L' := [(0, .ref (b + me)), (1, .int (jI s)), (2, .ref (b + u)), (3, .ref (b + o)), (4, .int (jI 0)), (5, .int (jI (p + 1))), (6, .long (jL v108))]) d_FO_setBetween_92 rfl (Nat.le_of_ble_eq_true rfl) rfl ?_
          refine jt_goto (t := 6) d_FO_setBetween_95 rfl ?_
          refine jt_sub (L' := [(0, .ref (b + me)), (1, .int (jI s)), (2, .ref (b + u)), (3, .ref (b + o)), (4, .int (jI 0)), (5, .int (jI (p + 1)))]) (fun _ h => List.mem_append_left [(6, Value.long (jL v108))] h) ?_
          exact ih 0 (p + 1) J B110 p111 (by omega) (by omega) (by omega)
        · skip
          refine jt_aload_n d_FO_setBetween_72 rfl ?_
          refine cm_get (k := me) (v := .ref (b + (me + 1))) d_FO_setBetween_73 FO_f11 k_me (cc_5 k5me) rfl ?_
          refine jt_iload d_FO_setBetween_76 rfl ?_
          refine cm_ld1 (k := me + 1) (n := 13) (v := (B110 ((me + 1))) p) d_FO_setBetween_78 fpme.2.2 fpme.1 fpme.2.1 (by omega) (by omega) (by omega) rfl ?_
          refine jt_topl (fun v115 ev115 => ?_)
          have bv115 : -9223372036854775808 ≤ v115 ∧ v115 ≤ 9223372036854775807 := by have q9 := p111.2.1 (me + 1) p; rw [glme.1, glme.2] at q9; rw [ev115]; exact q9
          refine cct_callS (Y := Y_FO_isNumber) (As := [.long (jL v115)]) (rest := []) d_FO_setBetween_79 FO_c20 yk_FO_isNumber ys_FO_isNumber (Nat.le_of_ble_eq_true rfl) rfl rfl (Nat.le_of_ble_eq_true rfl) (v_FO_isNumber G _ b v115 J B110 p111.1 p111.2.1 (by omega)) (fun rvq116 Iq116 Aq116 hq116 => ?_)
          obtain ⟨yq116, rfl, ryq116, hqq116⟩ := hq116
          have hpq116 := cPo.trans p111 hqq116 rfl rfl
          show jt _ 82 [(0, .ref (b + me)), (1, .int (jI s)), (2, .ref (b + u)), (3, .ref (b + o)), (4, .int (jI n)), (5, .int (jI p)), (6, .long (jL v108))] [.int (jI yq116)] (cmf b f0 Iq116 Aq116) _ _ _
          refine jt_if_eq (t := 89) d_FO_setBetween_82 rfl (by unfold jRi; omega) (fun c117 => ?_) (fun c117 => ?_)
          · skip
            refine jt_iconst d_FO_setBetween_89 ?_
            refine jt_istore (L' := [(0, .ref (b + me)), (1, .int (jI s)), (2, .ref (b + u)), (3, .ref (b + o)), (4, .int (jI 0)), (5, .int (jI p)), (6, .long (jL v108))]) d_FO_setBetween_90 (Nat.le_of_ble_eq_true rfl) rfl ?_
            refine jt_iinc (L' := [(0, .ref (b + me)), (1, .int (jI s)), (2, .ref (b + u)), (3, .ref (b + o)), (4, .int (jI 0)), (5, .int (jI (p + 1))), (6, .long (jL v108))]) d_FO_setBetween_92 rfl (Nat.le_of_ble_eq_true rfl) rfl ?_
            refine jt_goto (t := 6) d_FO_setBetween_95 rfl ?_
            refine jt_sub (L' := [(0, .ref (b + me)), (1, .int (jI s)), (2, .ref (b + u)), (3, .ref (b + o)), (4, .int (jI 0)), (5, .int (jI (p + 1)))]) (fun _ h => List.mem_append_left [(6, Value.long (jL v108))] h) ?_
            exact ih 0 (p + 1) Iq116 Aq116 hpq116 (by omega) (by omega) (by omega)
          · skip
            refine jt_iconst d_FO_setBetween_85 ?_
            refine jt_goto (t := 90) d_FO_setBetween_86 rfl ?_
            refine jt_istore (L' := [(0, .ref (b + me)), (1, .int (jI s)), (2, .ref (b + u)), (3, .ref (b + o)), (4, .int (jI 1)), (5, .int (jI p)), (6, .long (jL v108))]) d_FO_setBetween_90 (Nat.le_of_ble_eq_true rfl) rfl ?_
            refine jt_iinc (L' := [(0, .ref (b + me)), (1, .int (jI s)), (2, .ref (b + u)), (3, .ref (b + o)), (4, .int (jI 1)), (5, .int (jI (p + 1))), (6, .long (jL v108))]) d_FO_setBetween_92 rfl (Nat.le_of_ble_eq_true rfl) rfl ?_
            refine jt_goto (t := 6) d_FO_setBetween_95 rfl ?_
            refine jt_sub (L' := [(0, .ref (b + me)), (1, .int (jI s)), (2, .ref (b + u)), (3, .ref (b + o)), (4, .int (jI 1)), (5, .int (jI (p + 1)))]) (fun _ h => List.mem_append_left [(6, Value.long (jL v108))] h) ?_
            exact ih 1 (p + 1) Iq116 Aq116 hpq116 (by omega) (by omega) (by omega)
set_option maxRecDepth 100000 in
set_option maxHeartbeats 4000000 in
theorem v_FO_setBetween (G : jG) (d b : Nat) (me : Nat) (s : Int) (u : Nat) (o : Nat) (I : Nat → Nat → Int) (A : Nat → Int → Int) (hI : cSI I) (hA : cSA A) (k_me : me < 472) (k5me : ck me = 5) (k_u : u < 472) (k5u : ck u = 5) (k_o : o < 472) (k5o : ck o = 5) (hs : -2147483648 ≤ s ∧ s ≤ 2147483647) : cct G Y_FO_setBetween (d + 1) b [.ref (b + me), .int (jI s), .ref (b + u), .ref (b + o)] I A (fun (rv : Option Value) (I2 : Nat → Nat → Int) (A2 : Nat → Int → Int) => ∃ y : Int, rv = some (.int (jI y)) ∧ (0 ≤ y ∧ y ≤ 1) ∧ cPo [] [] I A I2 A2) := by
  refine cct_of (by decide) (Nat.le_of_ble_eq_true rfl) (fun f0 sz => ?_)
  show jt _ 0 [(0, .ref (b + me)), (1, .int (jI s)), (2, .ref (b + u)), (3, .ref (b + o))] [] _ _ _ _
  have fpme := form_parts me k_me k5me
  have glme := eLong k_me k5me
  have fpu := form_parts u k_u k5u
  have glu := eLong k_u k5u
  have fpo := form_parts o k_o k5o
  have glo := eLong k_o k5o
  have hz0 : cPo [] [] I A I A := cPo.refl hI hA
  refine jt_iconst d_FO_setBetween_0 ?_
  refine jt_istore (L' := [(0, .ref (b + me)), (1, .int (jI s)), (2, .ref (b + u)), (3, .ref (b + o)), (4, .int (jI 1))]) d_FO_setBetween_1 (Nat.le_of_ble_eq_true rfl) rfl ?_
  refine jt_iconst d_FO_setBetween_3 ?_
  refine jt_istore (L' := [(0, .ref (b + me)), (1, .int (jI s)), (2, .ref (b + u)), (3, .ref (b + o)), (4, .int (jI 1)), (5, .int (jI 0))]) d_FO_setBetween_4 (Nat.le_of_ble_eq_true rfl) rfl ?_
  exact l6_FO_setBetweenv G d b me s u o I A hI hA k_me k5me k_u k5u k_o k5o hs f0 sz  14 1 0 I A hz0 (by omega) (by omega) (by omega)
set_option maxRecDepth 100000 in
set_option maxHeartbeats 4000000 in
theorem l42_FO_setReplacedv (G : jG) (d b : Nat) (me : Nat) (o : Nat) (I : Nat → Nat → Int) (A : Nat → Int → Int) (hI : cSI I) (hA : cSA A) (k_me : me < 472) (k5me : ck me = 5) (k_o : o < 472) (k5o : ck o = 5) (f0 : jF) (sz : Nat)  (n : Int) (p : Int) (n0 : 0 ≤ n ∧ n ≤ 1) (p0 : 0 ≤ p ∧ p < 13) (hout : ∀ (x : Int) (y : Int) (v : Int) (J : Nat → Nat → Int) (B : Nat → Int → Int), cPo [] [] I A J B → (-9223372036854775808 ≤ x ∧ x ≤ 9223372036854775807) → (-9223372036854775808 ≤ y ∧ y ≤ 9223372036854775807) → (0 ≤ v ∧ v ≤ 12) → jt (jm G Y_FO_setReplaced (gR (d + 1)) (cQ b f0 sz (fun (rv : Option Value) (I2 : Nat → Nat → Int) (A2 : Nat → Int → Int) => ∃ y : Int, rv = some (.int (jI y)) ∧ (0 ≤ y ∧ y ≤ 1) ∧ cPo [] [] I A I2 A2))) 114 [(0, .ref (b + me)), (1, .ref (b + o)), (2, .ref (b + 45)), (3, .int (jI n)), (4, .int (jI p)), (5, .long (jL x)), (7, .long (jL y)), (9, .int (jI v))] [] (cmf b f0 J B) sz 0 0) : ∀ (n9 : Nat) (x : Int) (y : Int) (v : Int) (J : Nat → Nat → Int) (B : Nat → Int → Int), cPo [] [] I A J B → (-9223372036854775808 ≤ x ∧ x ≤ 9223372036854775807) → (-9223372036854775808 ≤ y ∧ y ≤ 9223372036854775807) → (0 ≤ v ∧ v ≤ 12) → 12 - v < (n9 : Int) → jt (jm G Y_FO_setReplaced (gR (d + 1)) (cQ b f0 sz (fun (rv : Option Value) (I2 : Nat → Nat → Int) (A2 : Nat → Int → Int) => ∃ y : Int, rv = some (.int (jI y)) ∧ (0 ≤ y ∧ y ≤ 1) ∧ cPo [] [] I A I2 A2))) 42 [(0, .ref (b + me)), (1, .ref (b + o)), (2, .ref (b + 45)), (3, .int (jI n)), (4, .int (jI p)), (5, .long (jL x)), (7, .long (jL y)), (9, .int (jI v))] [] (cmf b f0 J B) sz 0 0 := by
  have fpme := form_parts me k_me k5me
  have glme := eLong k_me k5me
  have fpo := form_parts o k_o k5o
  have glo := eLong k_o k5o
  intro n9
  induction n9 with
  | zero =>
    intro x y v J B hJ x0 y0 v0 hmeas
    exfalso
    omega
  | succ n9 ih =>
    intro x y v J B hJ x0 y0 v0 hmeas
    refine jt_iload d_FO_setReplaced_42 rfl ?_
    refine jt_bipush d_FO_setReplaced_44 (by omega) ?_
    refine jt_icmp_ge (t := 114) d_FO_setReplaced_46 rfl (by unfold jRi; omega) (by unfold jRi; omega) (fun c101 => ?_) (fun c101 => ?_)
    · skip
      exact hout x y v J B hJ x0 y0 v0 
    · skip
      refine jt_aload_n d_FO_setReplaced_49 rfl ?_
      refine cm_get (k := o) (v := .ref (b + (o + 1))) d_FO_setReplaced_50 FO_f11 k_o (cc_5 k5o) rfl ?_
      refine jt_iload d_FO_setReplaced_53 rfl ?_
      refine cm_ld1 (k := o + 1) (n := 13) (v := (B ((o + 1))) v) d_FO_setReplaced_55 fpo.2.2 fpo.1 fpo.2.1 (by omega) (by omega) (by omega) rfl ?_
      refine jt_topl (fun v102 ev102 => ?_)
      have bv102 : -9223372036854775808 ≤ v102 ∧ v102 ≤ 9223372036854775807 := by have q9 := hJ.2.1 (o + 1) v; rw [glo.1, glo.2] at q9; rw [ev102]; exact q9
      refine jt_lstore (L' := [(0, .ref (b + me)), (1, .ref (b + o)), (2, .ref (b + 45)), (3, .int (jI n)), (4, .int (jI p)), (5, .long (jL x)), (7, .long (jL y)), (9, .int (jI v)), (10, .long (jL v102))]) d_FO_setReplaced_56 (Nat.le_of_ble_eq_true rfl) rfl ?_
      refine jt_lload d_FO_setReplaced_58 rfl ?_
      refine jt_lconst (z := 0) d_FO_setReplaced_60 (by decide) ?_
      refine jt_lif_eq (t := 108) d_FO_setReplaced_61 d_FO_setReplaced_62 rfl (by unfold jRl; omega) (by unfold jRl; omega) (fun c103 => ?_) (fun c103 => ?_)
      · skip
        refine jt_iinc (L' := [(0, .ref (b + me)), (1, .ref (b + o)), (2, .ref (b + 45)), (3, .int (jI n)), (4, .int (jI p)), (5, .long (jL x)), (7, .long (jL y)), (9, .int (jI (v + 1))), (10, .long (jL v102))]) d_FO_setReplaced_108 rfl (Nat.le_of_ble_eq_true rfl) rfl ?_
        refine jt_goto (t := 42) d_FO_setReplaced_111 rfl ?_
        refine jt_sub (L' := [(0, .ref (b + me)), (1, .ref (b + o)), (2, .ref (b + 45)), (3, .int (jI n)), (4, .int (jI p)), (5, .long (jL x)), (7, .long (jL y)), (9, .int (jI (v + 1)))]) (fun _ h => List.mem_append_left [(10, Value.long (jL v102))] h) ?_
        exact ih x y (v + 1) J B hJ (by omega) (by omega) (by omega) (by omega)
      · skip
        refine jt_lload d_FO_setReplaced_65 rfl ?_
        refine jt_lload d_FO_setReplaced_67 rfl ?_
        refine jt_bipush d_FO_setReplaced_69 (by omega) ?_
        refine jt_lshrW d_FO_setReplaced_71 (fun v104 bv104 => ?_)
        refine jt_aload_n d_FO_setReplaced_72 rfl ?_
        refine jt_iload d_FO_setReplaced_73 rfl ?_
        refine cm_ldF (k := 45) (n := 12) (z := v) d_FO_setReplaced_75 (by decide) rfl rfl (by omega) (by omega) (by omega) ?_
        have hfq105 := form_at 45 (by decide) rfl (v : Int).toNat (show (v : Int).toNat < 12 by omega)
        generalize 45 + 1 + 2 * (v : Int).toNat = q105 at hfq105 ⊢
        have fpq105 := form_parts q105 hfq105.2 hfq105.1
        have glq105 := eLong hfq105.2 hfq105.1
        refine cm_get (k := q105) (v := .ref (b + (q105 + 1))) d_FO_setReplaced_76 FO_f11 hfq105.2 (cc_5 hfq105.1) rfl ?_
        refine jt_iload d_FO_setReplaced_79 rfl ?_
        refine cm_ld1 (k := q105 + 1) (n := 13) (v := (B ((q105 + 1))) p) d_FO_setReplaced_81 fpq105.2.2 fpq105.1 fpq105.2.1 (by omega) (by omega) (by omega) rfl ?_
        refine jt_topl (fun v106 ev106 => ?_)
        have bv106 : -9223372036854775808 ≤ v106 ∧ v106 ≤ 9223372036854775807 := by have q9 := hJ.2.1 (q105 + 1) p; rw [glq105.1, glq105.2] at q9; rw [ev106]; exact q9
        refine jt_lmul d_FO_setReplaced_82 ?_
        refine jt_toplw (fun v107 bv107 => ?_)
        refine jt_ladd d_FO_setReplaced_83 ?_
        refine jt_toplw (fun v108 bv108 => ?_)
        refine jt_lstore (L' := [(0, .ref (b + me)), (1, .ref (b + o)), (2, .ref (b + 45)), (3, .int (jI n)), (4, .int (jI p)), (5, .long (jL v108)), (7, .long (jL y)), (9, .int (jI v)), (10, .long (jL v102))]) d_FO_setReplaced_84 (Nat.le_of_ble_eq_true rfl) rfl ?_
        refine jt_lload d_FO_setReplaced_86 rfl ?_
        refine jt_lload d_FO_setReplaced_88 rfl ?_
        refine jt_ldc2 (z := 1048575) d_FO_setReplaced_90 FO_k30 ?_
        refine jt_landW d_FO_setReplaced_93 (fun v109 bv109 => ?_)
        refine jt_aload_n d_FO_setReplaced_94 rfl ?_
        refine jt_iload d_FO_setReplaced_95 rfl ?_
        refine cm_ldF (k := 45) (n := 12) (z := v) d_FO_setReplaced_97 (by decide) rfl rfl (by omega) (by omega) (by omega) ?_
        have hfq110 := form_at 45 (by decide) rfl (v : Int).toNat (show (v : Int).toNat < 12 by omega)
        generalize 45 + 1 + 2 * (v : Int).toNat = q110 at hfq110 ⊢
        have fpq110 := form_parts q110 hfq110.2 hfq110.1
        have glq110 := eLong hfq110.2 hfq110.1
        refine cm_get (k := q110) (v := .ref (b + (q110 + 1))) d_FO_setReplaced_98 FO_f11 hfq110.2 (cc_5 hfq110.1) rfl ?_
        refine jt_iload d_FO_setReplaced_101 rfl ?_
        refine cm_ld1 (k := q110 + 1) (n := 13) (v := (B ((q110 + 1))) p) d_FO_setReplaced_103 fpq110.2.2 fpq110.1 fpq110.2.1 (by omega) (by omega) (by omega) rfl ?_
        refine jt_topl (fun v111 ev111 => ?_)
        have bv111 : -9223372036854775808 ≤ v111 ∧ v111 ≤ 9223372036854775807 := by have q9 := hJ.2.1 (q110 + 1) p; rw [glq110.1, glq110.2] at q9; rw [ev111]; exact q9
        refine jt_lmul d_FO_setReplaced_104 ?_
        refine jt_toplw (fun v112 bv112 => ?_)
        refine jt_ladd d_FO_setReplaced_105 ?_
        refine jt_toplw (fun v113 bv113 => ?_)
        refine jt_lstore (L' := [(0, .ref (b + me)), (1, .ref (b + o)), (2, .ref (b + 45)), (3, .int (jI n)), (4, .int (jI p)), (5, .long (jL v108)), (7, .long (jL v113)), (9, .int (jI v)), (10, .long (jL v102))]) d_FO_setReplaced_106 (Nat.le_of_ble_eq_true rfl) rfl ?_
        refine jt_iinc (L' := [(0, .ref (b + me)), (1, .ref (b + o)), (2, .ref (b + 45)), (3, .int (jI n)), (4, .int (jI p)), (5, .long (jL v108)), (7, .long (jL v113)), (9, .int (jI (v + 1))), (10, .long (jL v102))]) d_FO_setReplaced_108 rfl (Nat.le_of_ble_eq_true rfl) rfl ?_
        refine jt_goto (t := 42) d_FO_setReplaced_111 rfl ?_
        refine jt_sub (L' := [(0, .ref (b + me)), (1, .ref (b + o)), (2, .ref (b + 45)), (3, .int (jI n)), (4, .int (jI p)), (5, .long (jL v108)), (7, .long (jL v113)), (9, .int (jI (v + 1)))]) (fun _ h => List.mem_append_left [(10, Value.long (jL v102))] h) ?_
        exact ih v108 v113 (v + 1) J B hJ (by omega) (by omega) (by omega) (by omega)
set_option maxRecDepth 100000 in
set_option maxHeartbeats 4000000 in
theorem l5_FO_setReplacedv (G : jG) (d b : Nat) (me : Nat) (o : Nat) (I : Nat → Nat → Int) (A : Nat → Int → Int) (hI : cSI I) (hA : cSA A) (k_me : me < 472) (k5me : ck me = 5) (k_o : o < 472) (k5o : ck o = 5) (f0 : jF) (sz : Nat)   : ∀ (n9 : Nat) (n : Int) (p : Int) (J : Nat → Nat → Int) (B : Nat → Int → Int), cPo [] [] I A J B → (0 ≤ n ∧ n ≤ 1) → (0 ≤ p ∧ p ≤ 13) → 13 - p < (n9 : Int) → jt (jm G Y_FO_setReplaced (gR (d + 1)) (cQ b f0 sz (fun (rv : Option Value) (I2 : Nat → Nat → Int) (A2 : Nat → Int → Int) => ∃ y : Int, rv = some (.int (jI y)) ∧ (0 ≤ y ∧ y ≤ 1) ∧ cPo [] [] I A I2 A2))) 5 [(0, .ref (b + me)), (1, .ref (b + o)), (2, .ref (b + 45)), (3, .int (jI n)), (4, .int (jI p))] [] (cmf b f0 J B) sz 0 0 := by
  have fpme := form_parts me k_me k5me
  have glme := eLong k_me k5me
  have fpo := form_parts o k_o k5o
  have glo := eLong k_o k5o
  intro n9
  induction n9 with
  | zero =>
    intro n p J B hJ n0 p0 hmeas
    exfalso
    omega
  | succ n9 ih =>
    intro n p J B hJ n0 p0 hmeas
    refine jt_iload d_FO_setReplaced_5 rfl ?_
    refine jt_bipush d_FO_setReplaced_7 (by omega) ?_
    refine jt_icmp_ge (t := 189) d_FO_setReplaced_9 rfl (by unfold jRi; omega) (by unfold jRi; omega) (fun c201 => ?_) (fun c201 => ?_)
    · skip
      refine jt_iload_n d_FO_setReplaced_189 rfl ?_
      exact cm_ret d_FO_setReplaced_190 rfl (jnz (by omega)) (⟨n, rfl, by omega, hJ⟩)
    · skip
      refine jt_lconst (z := 0) d_FO_setReplaced_12 (by decide) ?_
      refine jt_lstore (L' := [(0, .ref (b + me)), (1, .ref (b + o)), (2, .ref (b + 45)), (3, .int (jI n)), (4, .int (jI p)), (5, .long (jL 0))]) d_FO_setReplaced_13 (Nat.le_of_ble_eq_true rfl) rfl ?_
      refine jt_iload d_FO_setReplaced_15 rfl ?_
      refine jt_bipush d_FO_setReplaced_17 (by omega) ?_
      refine jt_icmp_ne (t := 36) d_FO_setReplaced_19 rfl (by unfold jRi; omega) (by unfold jRi; omega) (fun c202 => ?_) (fun c202 => ?_)
      · skip
        refine jt_lconst (z := 0) d_FO_setReplaced_36 (by decide) ?_
        refine jt_lstore (L' := [(0, .ref (b + me)), (1, .ref (b + o)), (2, .ref (b + 45)), (3, .int (jI n)), (4, .int (jI p)), (5, .long (jL 0)), (7, .long (jL 0))]) d_FO_setReplaced_37 (Nat.le_of_ble_eq_true rfl) rfl ?_
        refine jt_iconst d_FO_setReplaced_39 ?_
        refine jt_istore (L' := [(0, .ref (b + me)), (1, .ref (b + o)), (2, .ref (b + 45)), (3, .int (jI n)), (4, .int (jI p)), (5, .long (jL 0)), (7, .long (jL 0)), (9, .int (jI 0))]) d_FO_setReplaced_40 (Nat.le_of_ble_eq_true rfl) rfl ?_
        refine l42_FO_setReplacedv G d b me o I A hI hA k_me k5me k_o k5o f0 sz n p ((by omega)) ((by omega)) (fun xo203 yo203 vo203 Jo203 Bo203 hJo203 x0o203 y0o203 v0o203 => ?_) 13 0 0 0 J B hJ (by omega) (by omega) (by omega) (by omega)
        refine jt_lload d_FO_setReplaced_114 rfl ?_
        refine jt_lload d_FO_setReplaced_116 rfl ?_
        refine jt_bipush d_FO_setReplaced_118 (by omega) ?_
        refine jt_lshrW d_FO_setReplaced_120 (fun v204 bv204 => ?_)
        refine jt_ladd d_FO_setReplaced_121 ?_
        refine jt_toplw (fun v205 bv205 => ?_)
        refine jt_lstore (L' := [(0, .ref (b + me)), (1, .ref (b + o)), (2, .ref (b + 45)), (3, .int (jI n)), (4, .int (jI p)), (5, .long (jL v205)), (7, .long (jL yo203)), (9, .int (jI vo203))]) d_FO_setReplaced_122 (Nat.le_of_ble_eq_true rfl) rfl ?_
        refine jt_lload d_FO_setReplaced_124 rfl ?_
        refine jt_ldc2 (z := 1048575) d_FO_setReplaced_126 FO_k30 ?_
        refine jt_landW d_FO_setReplaced_129 (fun v206 bv206 => ?_)
        refine jt_lstore (L' := [(0, .ref (b + me)), (1, .ref (b + o)), (2, .ref (b + 45)), (3, .int (jI n)), (4, .int (jI p)), (5, .long (jL v205)), (7, .long (jL v206)), (9, .int (jI vo203))]) d_FO_setReplaced_130 (Nat.le_of_ble_eq_true rfl) rfl ?_
        refine jt_aload_n d_FO_setReplaced_132 rfl ?_
        refine cm_get (k := me) (v := .ref (b + (me + 1))) d_FO_setReplaced_133 FO_f11 k_me (cc_5 k5me) rfl ?_
        refine jt_iload d_FO_setReplaced_136 rfl ?_
        refine jt_lload d_FO_setReplaced_138 rfl ?_
        refine jt_iconst d_FO_setReplaced_140 ?_
        refine jt_lshlW d_FO_setReplaced_141 (fun v207 bv207 => ?_)
        refine jt_lload d_FO_setReplaced_142 rfl ?_
        refine jt_bipush d_FO_setReplaced_144 (by omega) ?_
        refine jt_lshrW d_FO_setReplaced_146 (fun v208 bv208 => ?_)
        refine jt_ladd d_FO_setReplaced_147 ?_
        refine jt_toplw (fun v209 bv209 => ?_)
        refine cm_st1 (k := me + 1) (n := 13) (v := v209) d_FO_setReplaced_148 fpme.2.2 fpme.1 fpme.2.1 (by omega) (by omega) (by omega) ?_
        refine cm_nmA (fun B210 eB210 => ?_)
        have p211 : cPo [] [] I A (Jo203) B210 := by rw [eB210]; exact cPo.A (me + 1) _ hJo203 (Or.inr fpme.1) (by rw [glme.1, glme.2]; exact gju (fun z9 => by have q9 := hJo203.2.1 (me + 1) z9; rw [glme.1, glme.2] at q9; exact q9) (show -9223372036854775808 ≤ v209 ∧ v209 ≤ 9223372036854775807 by omega))
        refine jt_iload_n d_FO_setReplaced_149 rfl ?_
        refine jt_if_eq (t := 181) d_FO_setReplaced_150 rfl (by unfold jRi; omega) (fun c212 => ?_) (fun c212 => ?_)
        · skip
          refine jt_iconst d_FO_setReplaced_181 ?_
          refine jt_istore_n (L' := [(0, .ref (b + me)), (1, .ref (b + o)), (2, .ref (b + 45)), (3, .int (jI 0)), (4, .int (jI p)), (5, .long (jL v205)), (7, .long (jL v206)), (9, .int (jI vo203))]) d_FO_setReplaced_182 (Nat.le_of_ble_eq_true rfl) rfl ?_
          refine jt_iinc (L' := [(0, .ref (b + me)), (1, .ref (b + o)), (2, .ref (b + 45)), (3, .int (jI 0)), (4, .int (jI (p + 1))), (5, .long (jL v205)), (7, .long (jL v206)), (9, .int (jI vo203))]) d_FO_setReplaced_183 rfl (Nat.le_of_ble_eq_true rfl) rfl ?_
          refine jt_goto (t := 5) d_FO_setReplaced_186 rfl ?_
          refine jt_sub (L' := [(0, .ref (b + me)), (1, .ref (b + o)), (2, .ref (b + 45)), (3, .int (jI 0)), (4, .int (jI (p + 1)))]) (fun _ h => List.mem_append_left [(5, Value.long (jL v205)), (7, Value.long (jL v206)), (9, Value.int (jI vo203))] h) ?_
          exact ih 0 (p + 1) Jo203 B210 p211 (by omega) (by omega) (by omega)
        · skip
          refine jt_lload d_FO_setReplaced_153 rfl ?_
          refine jt_ldc2 (z := 65535) d_FO_setReplaced_155 FO_k32 ?_
          refine jt_landW d_FO_setReplaced_158 (fun v213 bv213 => ?_)
          refine jt_lconst (z := 0) d_FO_setReplaced_159 (by decide) ?_
          refine jt_lif_ne (t := 181) d_FO_setReplaced_160 d_FO_setReplaced_161 rfl (by unfold jRl; omega) (by unfold jRl; omega) (fun c214 => ?_) (fun c214 => ?_)
          · skip
            refine jt_iconst d_FO_setReplaced_181 ?_
            refine jt_istore_n (L' := [(0, .ref (b + me)), (1, .ref (b + o)), (2, .ref (b + 45)), (3, .int (jI 0)), (4, .int (jI p)), (5, .long (jL v205)), (7, .long (jL v206)), (9, .int (jI vo203))]) d_FO_setReplaced_182 (Nat.le_of_ble_eq_true rfl) rfl ?_
            refine jt_iinc (L' := [(0, .ref (b + me)), (1, .ref (b + o)), (2, .ref (b + 45)), (3, .int (jI 0)), (4, .int (jI (p + 1))), (5, .long (jL v205)), (7, .long (jL v206)), (9, .int (jI vo203))]) d_FO_setReplaced_183 rfl (Nat.le_of_ble_eq_true rfl) rfl ?_
            refine jt_goto (t := 5) d_FO_setReplaced_186 rfl ?_
            refine jt_sub (L' := [(0, .ref (b + me)), (1, .ref (b + o)), (2, .ref (b + 45)), (3, .int (jI 0)), (4, .int (jI (p + 1)))]) (fun _ h => List.mem_append_left [(5, Value.long (jL v205)), (7, Value.long (jL v206)), (9, Value.int (jI vo203))] h) ?_
            exact ih 0 (p + 1) Jo203 B210 p211 (by omega) (by omega) (by omega)
          · skip
            refine jt_aload_n d_FO_setReplaced_164 rfl ?_
            refine cm_get (k := me) (v := .ref (b + (me + 1))) d_FO_setReplaced_165 FO_f11 k_me (cc_5 k5me) rfl ?_
            refine jt_iload d_FO_setReplaced_168 rfl ?_
            refine cm_ld1 (k := me + 1) (n := 13) (v := (B210 ((me + 1))) p) d_FO_setReplaced_170 fpme.2.2 fpme.1 fpme.2.1 (by omega) (by omega) (by omega) rfl ?_
            refine jt_topl (fun v215 ev215 => ?_)
            have bv215 : -9223372036854775808 ≤ v215 ∧ v215 ≤ 9223372036854775807 := by have q9 := p211.2.1 (me + 1) p; rw [glme.1, glme.2] at q9; rw [ev215]; exact q9
            refine cct_callS (Y := Y_FO_isNumber) (As := [.long (jL v215)]) (rest := []) d_FO_setReplaced_171 FO_c20 yk_FO_isNumber ys_FO_isNumber (Nat.le_of_ble_eq_true rfl) rfl rfl (Nat.le_of_ble_eq_true rfl) (v_FO_isNumber G _ b v215 Jo203 B210 p211.1 p211.2.1 (by omega)) (fun rvq216 Iq216 Aq216 hq216 => ?_)
            obtain ⟨yq216, rfl, ryq216, hqq216⟩ := hq216
            have hpq216 := cPo.trans p211 hqq216 rfl rfl
            show jt _ 174 [(0, .ref (b + me)), (1, .ref (b + o)), (2, .ref (b + 45)), (3, .int (jI n)), (4, .int (jI p)), (5, .long (jL v205)), (7, .long (jL v206)), (9, .int (jI vo203))] [.int (jI yq216)] (cmf b f0 Iq216 Aq216) _ _ _
            refine jt_if_eq (t := 181) d_FO_setReplaced_174 rfl (by unfold jRi; omega) (fun c217 => ?_) (fun c217 => ?_)
            · skip
              refine jt_iconst d_FO_setReplaced_181 ?_
              refine jt_istore_n (L' := [(0, .ref (b + me)), (1, .ref (b + o)), (2, .ref (b + 45)), (3, .int (jI 0)), (4, .int (jI p)), (5, .long (jL v205)), (7, .long (jL v206)), (9, .int (jI vo203))]) d_FO_setReplaced_182 (Nat.le_of_ble_eq_true rfl) rfl ?_
              refine jt_iinc (L' := [(0, .ref (b + me)), (1, .ref (b + o)), (2, .ref (b + 45)), (3, .int (jI 0)), (4, .int (jI (p + 1))), (5, .long (jL v205)), (7, .long (jL v206)), (9, .int (jI vo203))]) d_FO_setReplaced_183 rfl (Nat.le_of_ble_eq_true rfl) rfl ?_
              refine jt_goto (t := 5) d_FO_setReplaced_186 rfl ?_
              refine jt_sub (L' := [(0, .ref (b + me)), (1, .ref (b + o)), (2, .ref (b + 45)), (3, .int (jI 0)), (4, .int (jI (p + 1)))]) (fun _ h => List.mem_append_left [(5, Value.long (jL v205)), (7, Value.long (jL v206)), (9, Value.int (jI vo203))] h) ?_
              exact ih 0 (p + 1) Iq216 Aq216 hpq216 (by omega) (by omega) (by omega)
            · skip
              refine jt_iconst d_FO_setReplaced_177 ?_
              refine jt_goto (t := 182) d_FO_setReplaced_178 rfl ?_
              refine jt_istore_n (L' := [(0, .ref (b + me)), (1, .ref (b + o)), (2, .ref (b + 45)), (3, .int (jI 1)), (4, .int (jI p)), (5, .long (jL v205)), (7, .long (jL v206)), (9, .int (jI vo203))]) d_FO_setReplaced_182 (Nat.le_of_ble_eq_true rfl) rfl ?_
              refine jt_iinc (L' := [(0, .ref (b + me)), (1, .ref (b + o)), (2, .ref (b + 45)), (3, .int (jI 1)), (4, .int (jI (p + 1))), (5, .long (jL v205)), (7, .long (jL v206)), (9, .int (jI vo203))]) d_FO_setReplaced_183 rfl (Nat.le_of_ble_eq_true rfl) rfl ?_
              refine jt_goto (t := 5) d_FO_setReplaced_186 rfl ?_
              refine jt_sub (L' := [(0, .ref (b + me)), (1, .ref (b + o)), (2, .ref (b + 45)), (3, .int (jI 1)), (4, .int (jI (p + 1)))]) (fun _ h => List.mem_append_left [(5, Value.long (jL v205)), (7, Value.long (jL v206)), (9, Value.int (jI vo203))] h) ?_
              exact ih 1 (p + 1) Iq216 Aq216 hpq216 (by omega) (by omega) (by omega)
      · skip
        refine jt_aload_n d_FO_setReplaced_22 rfl ?_
        refine cm_get (k := o) (v := .ref (b + (o + 1))) d_FO_setReplaced_23 FO_f11 k_o (cc_5 k5o) rfl ?_
        refine jt_bipush d_FO_setReplaced_26 (by omega) ?_
        refine cm_ld1 (k := o + 1) (n := 13) (v := (B ((o + 1))) 12) d_FO_setReplaced_28 fpo.2.2 fpo.1 fpo.2.1 (by omega) (by omega) (by omega) rfl ?_
        refine jt_topl (fun v218 ev218 => ?_)
        have bv218 : -9223372036854775808 ≤ v218 ∧ v218 ≤ 9223372036854775807 := by have q9 := hJ.2.1 (o + 1) 12; rw [glo.1, glo.2] at q9; rw [ev218]; exact q9
        refine jt_ldc2 (z := 65536) d_FO_setReplaced_29 FO_k28 ?_
        refine jt_lmul d_FO_setReplaced_32 ?_
        refine jt_toplw (fun v219 bv219 => ?_)
        refine jt_goto (t := 37) d_FO_setReplaced_33 rfl ?_
        refine jt_lstore (L' := [(0, .ref (b + me)), (1, .ref (b + o)), (2, .ref (b + 45)), (3, .int (jI n)), (4, .int (jI p)), (5, .long (jL 0)), (7, .long (jL v219))]) d_FO_setReplaced_37 (Nat.le_of_ble_eq_true rfl) rfl ?_
        refine jt_iconst d_FO_setReplaced_39 ?_
        refine jt_istore (L' := [(0, .ref (b + me)), (1, .ref (b + o)), (2, .ref (b + 45)), (3, .int (jI n)), (4, .int (jI p)), (5, .long (jL 0)), (7, .long (jL v219)), (9, .int (jI 0))]) d_FO_setReplaced_40 (Nat.le_of_ble_eq_true rfl) rfl ?_
        refine l42_FO_setReplacedv G d b me o I A hI hA k_me k5me k_o k5o f0 sz n p ((by omega)) ((by omega)) (fun xo220 yo220 vo220 Jo220 Bo220 hJo220 x0o220 y0o220 v0o220 => ?_) 13 0 v219 0 J B hJ (by omega) (by omega) (by omega) (by omega)
        refine jt_lload d_FO_setReplaced_114 rfl ?_
        refine jt_lload d_FO_setReplaced_116 rfl ?_
        refine jt_bipush d_FO_setReplaced_118 (by omega) ?_
        refine jt_lshrW d_FO_setReplaced_120 (fun v221 bv221 => ?_)
        refine jt_ladd d_FO_setReplaced_121 ?_
        refine jt_toplw (fun v222 bv222 => ?_)
        refine jt_lstore (L' := [(0, .ref (b + me)), (1, .ref (b + o)), (2, .ref (b + 45)), (3, .int (jI n)), (4, .int (jI p)), (5, .long (jL v222)), (7, .long (jL yo220)), (9, .int (jI vo220))]) d_FO_setReplaced_122 (Nat.le_of_ble_eq_true rfl) rfl ?_
        refine jt_lload d_FO_setReplaced_124 rfl ?_
        refine jt_ldc2 (z := 1048575) d_FO_setReplaced_126 FO_k30 ?_
        refine jt_landW d_FO_setReplaced_129 (fun v223 bv223 => ?_)
        refine jt_lstore (L' := [(0, .ref (b + me)), (1, .ref (b + o)), (2, .ref (b + 45)), (3, .int (jI n)), (4, .int (jI p)), (5, .long (jL v222)), (7, .long (jL v223)), (9, .int (jI vo220))]) d_FO_setReplaced_130 (Nat.le_of_ble_eq_true rfl) rfl ?_
        refine jt_aload_n d_FO_setReplaced_132 rfl ?_
        refine cm_get (k := me) (v := .ref (b + (me + 1))) d_FO_setReplaced_133 FO_f11 k_me (cc_5 k5me) rfl ?_
        refine jt_iload d_FO_setReplaced_136 rfl ?_
        refine jt_lload d_FO_setReplaced_138 rfl ?_
        refine jt_iconst d_FO_setReplaced_140 ?_
        refine jt_lshlW d_FO_setReplaced_141 (fun v224 bv224 => ?_)
        refine jt_lload d_FO_setReplaced_142 rfl ?_
        refine jt_bipush d_FO_setReplaced_144 (by omega) ?_
        refine jt_lshrW d_FO_setReplaced_146 (fun v225 bv225 => ?_)
        refine jt_ladd d_FO_setReplaced_147 ?_
        refine jt_toplw (fun v226 bv226 => ?_)
        refine cm_st1 (k := me + 1) (n := 13) (v := v226) d_FO_setReplaced_148 fpme.2.2 fpme.1 fpme.2.1 (by omega) (by omega) (by omega) ?_
        refine cm_nmA (fun B227 eB227 => ?_)
        have p228 : cPo [] [] I A (Jo220) B227 := by rw [eB227]; exact cPo.A (me + 1) _ hJo220 (Or.inr fpme.1) (by rw [glme.1, glme.2]; exact gju (fun z9 => by have q9 := hJo220.2.1 (me + 1) z9; rw [glme.1, glme.2] at q9; exact q9) (show -9223372036854775808 ≤ v226 ∧ v226 ≤ 9223372036854775807 by omega))
        refine jt_iload_n d_FO_setReplaced_149 rfl ?_
        refine jt_if_eq (t := 181) d_FO_setReplaced_150 rfl (by unfold jRi; omega) (fun c229 => ?_) (fun c229 => ?_)
        · skip
          refine jt_iconst d_FO_setReplaced_181 ?_
          refine jt_istore_n (L' := [(0, .ref (b + me)), (1, .ref (b + o)), (2, .ref (b + 45)), (3, .int (jI 0)), (4, .int (jI p)), (5, .long (jL v222)), (7, .long (jL v223)), (9, .int (jI vo220))]) d_FO_setReplaced_182 (Nat.le_of_ble_eq_true rfl) rfl ?_
          refine jt_iinc (L' := [(0, .ref (b + me)), (1, .ref (b + o)), (2, .ref (b + 45)), (3, .int (jI 0)), (4, .int (jI (p + 1))), (5, .long (jL v222)), (7, .long (jL v223)), (9, .int (jI vo220))]) d_FO_setReplaced_183 rfl (Nat.le_of_ble_eq_true rfl) rfl ?_
          refine jt_goto (t := 5) d_FO_setReplaced_186 rfl ?_
          refine jt_sub (L' := [(0, .ref (b + me)), (1, .ref (b + o)), (2, .ref (b + 45)), (3, .int (jI 0)), (4, .int (jI (p + 1)))]) (fun _ h => List.mem_append_left [(5, Value.long (jL v222)), (7, Value.long (jL v223)), (9, Value.int (jI vo220))] h) ?_
          exact ih 0 (p + 1) Jo220 B227 p228 (by omega) (by omega) (by omega)
        · skip
          refine jt_lload d_FO_setReplaced_153 rfl ?_
          refine jt_ldc2 (z := 65535) d_FO_setReplaced_155 FO_k32 ?_
          refine jt_landW d_FO_setReplaced_158 (fun v230 bv230 => ?_)
          refine jt_lconst (z := 0) d_FO_setReplaced_159 (by decide) ?_
          refine jt_lif_ne (t := 181) d_FO_setReplaced_160 d_FO_setReplaced_161 rfl (by unfold jRl; omega) (by unfold jRl; omega) (fun c231 => ?_) (fun c231 => ?_)
          · skip
            refine jt_iconst d_FO_setReplaced_181 ?_
            refine jt_istore_n (L' := [(0, .ref (b + me)), (1, .ref (b + o)), (2, .ref (b + 45)), (3, .int (jI 0)), (4, .int (jI p)), (5, .long (jL v222)), (7, .long (jL v223)), (9, .int (jI vo220))]) d_FO_setReplaced_182 (Nat.le_of_ble_eq_true rfl) rfl ?_
            refine jt_iinc (L' := [(0, .ref (b + me)), (1, .ref (b + o)), (2, .ref (b + 45)), (3, .int (jI 0)), (4, .int (jI (p + 1))), (5, .long (jL v222)), (7, .long (jL v223)), (9, .int (jI vo220))]) d_FO_setReplaced_183 rfl (Nat.le_of_ble_eq_true rfl) rfl ?_
            refine jt_goto (t := 5) d_FO_setReplaced_186 rfl ?_
            refine jt_sub (L' := [(0, .ref (b + me)), (1, .ref (b + o)), (2, .ref (b + 45)), (3, .int (jI 0)), (4, .int (jI (p + 1)))]) (fun _ h => List.mem_append_left [(5, Value.long (jL v222)), (7, Value.long (jL v223)), (9, Value.int (jI vo220))] h) ?_
            exact ih 0 (p + 1) Jo220 B227 p228 (by omega) (by omega) (by omega)
          · skip
            refine jt_aload_n d_FO_setReplaced_164 rfl ?_
            refine cm_get (k := me) (v := .ref (b + (me + 1))) d_FO_setReplaced_165 FO_f11 k_me (cc_5 k5me) rfl ?_
            refine jt_iload d_FO_setReplaced_168 rfl ?_
            refine cm_ld1 (k := me + 1) (n := 13) (v := (B227 ((me + 1))) p) d_FO_setReplaced_170 fpme.2.2 fpme.1 fpme.2.1 (by omega) (by omega) (by omega) rfl ?_
            refine jt_topl (fun v232 ev232 => ?_)
            have bv232 : -9223372036854775808 ≤ v232 ∧ v232 ≤ 9223372036854775807 := by have q9 := p228.2.1 (me + 1) p; rw [glme.1, glme.2] at q9; rw [ev232]; exact q9
            refine cct_callS (Y := Y_FO_isNumber) (As := [.long (jL v232)]) (rest := []) d_FO_setReplaced_171 FO_c20 yk_FO_isNumber ys_FO_isNumber (Nat.le_of_ble_eq_true rfl) rfl rfl (Nat.le_of_ble_eq_true rfl) (v_FO_isNumber G _ b v232 Jo220 B227 p228.1 p228.2.1 (by omega)) (fun rvq233 Iq233 Aq233 hq233 => ?_)
            obtain ⟨yq233, rfl, ryq233, hqq233⟩ := hq233
            have hpq233 := cPo.trans p228 hqq233 rfl rfl
            show jt _ 174 [(0, .ref (b + me)), (1, .ref (b + o)), (2, .ref (b + 45)), (3, .int (jI n)), (4, .int (jI p)), (5, .long (jL v222)), (7, .long (jL v223)), (9, .int (jI vo220))] [.int (jI yq233)] (cmf b f0 Iq233 Aq233) _ _ _
            refine jt_if_eq (t := 181) d_FO_setReplaced_174 rfl (by unfold jRi; omega) (fun c234 => ?_) (fun c234 => ?_)
            · skip
              refine jt_iconst d_FO_setReplaced_181 ?_
              refine jt_istore_n (L' := [(0, .ref (b + me)), (1, .ref (b + o)), (2, .ref (b + 45)), (3, .int (jI 0)), (4, .int (jI p)), (5, .long (jL v222)), (7, .long (jL v223)), (9, .int (jI vo220))]) d_FO_setReplaced_182 (Nat.le_of_ble_eq_true rfl) rfl ?_
              refine jt_iinc (L' := [(0, .ref (b + me)), (1, .ref (b + o)), (2, .ref (b + 45)), (3, .int (jI 0)), (4, .int (jI (p + 1))), (5, .long (jL v222)), (7, .long (jL v223)), (9, .int (jI vo220))]) d_FO_setReplaced_183 rfl (Nat.le_of_ble_eq_true rfl) rfl ?_
              refine jt_goto (t := 5) d_FO_setReplaced_186 rfl ?_
              refine jt_sub (L' := [(0, .ref (b + me)), (1, .ref (b + o)), (2, .ref (b + 45)), (3, .int (jI 0)), (4, .int (jI (p + 1)))]) (fun _ h => List.mem_append_left [(5, Value.long (jL v222)), (7, Value.long (jL v223)), (9, Value.int (jI vo220))] h) ?_
              exact ih 0 (p + 1) Iq233 Aq233 hpq233 (by omega) (by omega) (by omega)
            · skip
              refine jt_iconst d_FO_setReplaced_177 ?_
              refine jt_goto (t := 182) d_FO_setReplaced_178 rfl ?_
              refine jt_istore_n (L' := [(0, .ref (b + me)), (1, .ref (b + o)), (2, .ref (b + 45)), (3, .int (jI 1)), (4, .int (jI p)), (5, .long (jL v222)), (7, .long (jL v223)), (9, .int (jI vo220))]) d_FO_setReplaced_182 (Nat.le_of_ble_eq_true rfl) rfl ?_
              refine jt_iinc (L' := [(0, .ref (b + me)), (1, .ref (b + o)), (2, .ref (b + 45)), (3, .int (jI 1)), (4, .int (jI (p + 1))), (5, .long (jL v222)), (7, .long (jL v223)), (9, .int (jI vo220))]) d_FO_setReplaced_183 rfl (Nat.le_of_ble_eq_true rfl) rfl ?_
              refine jt_goto (t := 5) d_FO_setReplaced_186 rfl ?_
              refine jt_sub (L' := [(0, .ref (b + me)), (1, .ref (b + o)), (2, .ref (b + 45)), (3, .int (jI 1)), (4, .int (jI (p + 1)))]) (fun _ h => List.mem_append_left [(5, Value.long (jL v222)), (7, Value.long (jL v223)), (9, Value.int (jI vo220))] h) ?_
              exact ih 1 (p + 1) Iq233 Aq233 hpq233 (by omega) (by omega) (by omega)
set_option maxRecDepth 100000 in
set_option maxHeartbeats 4000000 in
theorem v_FO_setReplaced (G : jG) (d b : Nat) (me : Nat) (o : Nat) (I : Nat → Nat → Int) (A : Nat → Int → Int) (hI : cSI I) (hA : cSA A) (k_me : me < 472) (k5me : ck me = 5) (k_o : o < 472) (k5o : ck o = 5) : cct G Y_FO_setReplaced (d + 1) b [.ref (b + me), .ref (b + o), .ref (b + 45)] I A (fun (rv : Option Value) (I2 : Nat → Nat → Int) (A2 : Nat → Int → Int) => ∃ y : Int, rv = some (.int (jI y)) ∧ (0 ≤ y ∧ y ≤ 1) ∧ cPo [] [] I A I2 A2) := by
  refine cct_of (by decide) (Nat.le_of_ble_eq_true rfl) (fun f0 sz => ?_)
  show jt _ 0 [(0, .ref (b + me)), (1, .ref (b + o)), (2, .ref (b + 45))] [] _ _ _ _
  have fpme := form_parts me k_me k5me
  have glme := eLong k_me k5me
  have fpo := form_parts o k_o k5o
  have glo := eLong k_o k5o
  have hz0 : cPo [] [] I A I A := cPo.refl hI hA
  refine jt_iconst d_FO_setReplaced_0 ?_
  refine jt_istore_n (L' := [(0, .ref (b + me)), (1, .ref (b + o)), (2, .ref (b + 45)), (3, .int (jI 1))]) d_FO_setReplaced_1 (Nat.le_of_ble_eq_true rfl) rfl ?_
  refine jt_iconst d_FO_setReplaced_2 ?_
  refine jt_istore (L' := [(0, .ref (b + me)), (1, .ref (b + o)), (2, .ref (b + 45)), (3, .int (jI 1)), (4, .int (jI 0))]) d_FO_setReplaced_3 (Nat.le_of_ble_eq_true rfl) rfl ?_
  exact l5_FO_setReplacedv G d b me o I A hI hA k_me k5me k_o k5o f0 sz  14 1 0 I A hz0 (by omega) (by omega) (by omega)
set_option maxRecDepth 100000 in
set_option maxHeartbeats 4000000 in
theorem l22_FO_setSolvedv (G : jG) (d b : Nat) (me : Nat) (o : Nat) (v : Int) (I : Nat → Nat → Int) (A : Nat → Int → Int) (hI : cSI I) (hA : cSA A) (k_me : me < 472) (k5me : ck me = 5) (k_o : o < 472) (k5o : ck o = 5) (v0 : 0 ≤ v ∧ v < 12) (f0 : jF) (sz : Nat)  (q : Int) (q0 : ¬ q = 0) (q1 : -9223372036854775808 ≤ q ∧ q ≤ 9223372036854775807) : ∀ (n9 : Nat) (n : Int) (p : Int) (J : Nat → Nat → Int) (B : Nat → Int → Int), cPo [] [] I A J B → (0 ≤ n ∧ n ≤ 1) → (0 ≤ p ∧ p ≤ 13) → 13 - p < (n9 : Int) → jt (jm G Y_FO_setSolved (gR (d + 1)) (cQ b f0 sz (fun (rv : Option Value) (I2 : Nat → Nat → Int) (A2 : Nat → Int → Int) => ∃ y : Int, rv = some (.int (jI y)) ∧ (0 ≤ y ∧ y ≤ 1) ∧ cPo [] [] I A I2 A2))) 22 [(0, .ref (b + me)), (1, .ref (b + o)), (2, .int (jI v)), (3, .long (jL q)), (5, .int (jI n)), (6, .int (jI p))] [] (cmf b f0 J B) sz 0 0 := by
  have fpme := form_parts me k_me k5me
  have glme := eLong k_me k5me
  have fpo := form_parts o k_o k5o
  have glo := eLong k_o k5o
  intro n9
  induction n9 with
  | zero =>
    intro n p J B hJ n0 p0 hmeas
    exfalso
    omega
  | succ n9 ih =>
    intro n p J B hJ n0 p0 hmeas
    refine jt_iload d_FO_setSolved_22 rfl ?_
    refine jt_bipush d_FO_setSolved_24 (by omega) ?_
    refine jt_icmp_ge (t := 103) d_FO_setSolved_26 rfl (by unfold jRi; omega) (by unfold jRi; omega) (fun c101 => ?_) (fun c101 => ?_)
    · skip
      refine jt_iload d_FO_setSolved_103 rfl ?_
      exact cm_ret d_FO_setSolved_105 rfl (jnz (by omega)) (⟨n, rfl, by omega, hJ⟩)
    · skip
      refine jt_iload d_FO_setSolved_29 rfl ?_
      refine jt_iload_n d_FO_setSolved_31 rfl ?_
      refine jt_icmp_ne (t := 39) d_FO_setSolved_32 rfl (by unfold jRi; omega) (by unfold jRi; omega) (fun c102 => ?_) (fun c102 => ?_)
      · skip
        refine jt_aload_n d_FO_setSolved_39 rfl ?_
        refine cm_get (k := o) (v := .ref (b + (o + 1))) d_FO_setSolved_40 FO_f11 k_o (cc_5 k5o) rfl ?_
        refine jt_iload d_FO_setSolved_43 rfl ?_
        refine cm_ld1 (k := o + 1) (n := 13) (v := (B ((o + 1))) p) d_FO_setSolved_45 fpo.2.2 fpo.1 fpo.2.1 (by omega) (by omega) (by omega) rfl ?_
        refine jt_topl (fun v103 ev103 => ?_)
        have bv103 : -9223372036854775808 ≤ v103 ∧ v103 ≤ 9223372036854775807 := by have q9 := hJ.2.1 (o + 1) p; rw [glo.1, glo.2] at q9; rw [ev103]; exact q9
        refine jt_ldc2 (z := 65536) d_FO_setSolved_46 FO_k28 ?_
        refine jt_lmul d_FO_setSolved_49 ?_
        refine jt_toplw (fun v104 bv104 => ?_)
        refine jt_lstore (L' := [(0, .ref (b + me)), (1, .ref (b + o)), (2, .int (jI v)), (3, .long (jL q)), (5, .int (jI n)), (6, .int (jI p)), (7, .long (jL v104))]) d_FO_setSolved_50 (Nat.le_of_ble_eq_true rfl) rfl ?_
        refine jt_aload_n d_FO_setSolved_52 rfl ?_
        refine cm_get (k := me) (v := .ref (b + (me + 1))) d_FO_setSolved_53 FO_f11 k_me (cc_5 k5me) rfl ?_
        refine jt_iload d_FO_setSolved_56 rfl ?_
        refine jt_lload d_FO_setSolved_58 rfl ?_
        refine jt_lload_n d_FO_setSolved_60 rfl ?_
        refine jt_ldiv d_FO_setSolved_61 (by unfold jRl; omega) (by unfold jRl; omega) (by omega) ?_
        refine jt_toplw (fun v105 bv105 => ?_)
        refine cm_st1 (k := me + 1) (n := 13) (v := v105) d_FO_setSolved_62 fpme.2.2 fpme.1 fpme.2.1 (by omega) (by omega) (by omega) ?_
        refine cm_nmA (fun B106 eB106 => ?_)
        have p107 : cPo [] [] I A (J) B106 := by rw [eB106]; exact cPo.A (me + 1) _ hJ (Or.inr fpme.1) (by rw [glme.1, glme.2]; exact gju (fun z9 => by have q9 := hJ.2.1 (me + 1) z9; rw [glme.1, glme.2] at q9; exact q9) (show -9223372036854775808 ≤ v105 ∧ v105 ≤ 9223372036854775807 by omega))
        refine jt_iload d_FO_setSolved_63 rfl ?_
        refine jt_if_eq (t := 94) d_FO_setSolved_65 rfl (by unfold jRi; omega) (fun c108 => ?_) (fun c108 => ?_)
        · skip
          refine jt_iconst d_FO_setSolved_94 ?_
          refine jt_istore (L' := [(0, .ref (b + me)), (1, .ref (b + o)), (2, .int (jI v)), (3, .long (jL q)), (5, .int (jI 0)), (6, .int (jI p)), (7, .long (jL v104))]) d_FO_setSolved_95 (Nat.le_of_ble_eq_true rfl) rfl ?_
          refine jt_iinc (L' := [(0, .ref (b + me)), (1, .ref (b + o)), (2, .int (jI v)), (3, .long (jL q)), (5, .int (jI 0)), (6, .int (jI (p + 1))), (7, .long (jL v104))]) d_FO_setSolved_97 rfl (Nat.le_of_ble_eq_true rfl) rfl ?_
          refine jt_goto (t := 22) d_FO_setSolved_100 rfl ?_
          refine jt_sub (L' := [(0, .ref (b + me)), (1, .ref (b + o)), (2, .int (jI v)), (3, .long (jL q)), (5, .int (jI 0)), (6, .int (jI (p + 1)))]) (fun _ h => List.mem_append_left [(7, Value.long (jL v104))] h) ?_
          exact ih 0 (p + 1) J B106 p107 (by omega) (by omega) (by omega)
        · skip
          refine jt_lload d_FO_setSolved_68 rfl ?_
          refine jt_lload_n d_FO_setSolved_70 rfl ?_
          refine jt_lrem d_FO_setSolved_71 (by unfold jRl; omega) (by unfold jRl; omega) (by omega) ?_
          refine jt_toplw (fun v109 bv109 => ?_)
          refine jt_lconst (z := 0) d_FO_setSolved_72 (by decide) ?_
          refine jt_lif_ne (t := 94) d_FO_setSolved_73 d_FO_setSolved_74 rfl (by unfold jRl; omega) (by unfold jRl; omega) (fun c110 => ?_) (fun c110 => ?_)
          · skip
            refine jt_iconst d_FO_setSolved_94 ?_
            refine jt_istore (L' := [(0, .ref (b + me)), (1, .ref (b + o)), (2, .int (jI v)), (3, .long (jL q)), (5, .int (jI 0)), (6, .int (jI p)), (7, .long (jL v104))]) d_FO_setSolved_95 (Nat.le_of_ble_eq_true rfl) rfl ?_
            refine jt_iinc (L' := [(0, .ref (b + me)), (1, .ref (b + o)), (2, .int (jI v)), (3, .long (jL q)), (5, .int (jI 0)), (6, .int (jI (p + 1))), (7, .long (jL v104))]) d_FO_setSolved_97 rfl (Nat.le_of_ble_eq_true rfl) rfl ?_
            refine jt_goto (t := 22) d_FO_setSolved_100 rfl ?_
            refine jt_sub (L' := [(0, .ref (b + me)), (1, .ref (b + o)), (2, .int (jI v)), (3, .long (jL q)), (5, .int (jI 0)), (6, .int (jI (p + 1)))]) (fun _ h => List.mem_append_left [(7, Value.long (jL v104))] h) ?_
            exact ih 0 (p + 1) J B106 p107 (by omega) (by omega) (by omega)
          · skip
            refine jt_aload_n d_FO_setSolved_77 rfl ?_
            refine cm_get (k := me) (v := .ref (b + (me + 1))) d_FO_setSolved_78 FO_f11 k_me (cc_5 k5me) rfl ?_
            refine jt_iload d_FO_setSolved_81 rfl ?_
            refine cm_ld1 (k := me + 1) (n := 13) (v := (B106 ((me + 1))) p) d_FO_setSolved_83 fpme.2.2 fpme.1 fpme.2.1 (by omega) (by omega) (by omega) rfl ?_
            refine jt_topl (fun v111 ev111 => ?_)
            have bv111 : -9223372036854775808 ≤ v111 ∧ v111 ≤ 9223372036854775807 := by have q9 := p107.2.1 (me + 1) p; rw [glme.1, glme.2] at q9; rw [ev111]; exact q9
            refine cct_callS (Y := Y_FO_isNumber) (As := [.long (jL v111)]) (rest := []) d_FO_setSolved_84 FO_c20 yk_FO_isNumber ys_FO_isNumber (Nat.le_of_ble_eq_true rfl) rfl rfl (Nat.le_of_ble_eq_true rfl) (v_FO_isNumber G _ b v111 J B106 p107.1 p107.2.1 (by omega)) (fun rvq112 Iq112 Aq112 hq112 => ?_)
            obtain ⟨yq112, rfl, ryq112, hqq112⟩ := hq112
            have hpq112 := cPo.trans p107 hqq112 rfl rfl
            show jt _ 87 [(0, .ref (b + me)), (1, .ref (b + o)), (2, .int (jI v)), (3, .long (jL q)), (5, .int (jI n)), (6, .int (jI p)), (7, .long (jL v104))] [.int (jI yq112)] (cmf b f0 Iq112 Aq112) _ _ _
            refine jt_if_eq (t := 94) d_FO_setSolved_87 rfl (by unfold jRi; omega) (fun c113 => ?_) (fun c113 => ?_)
            · skip
              refine jt_iconst d_FO_setSolved_94 ?_
              refine jt_istore (L' := [(0, .ref (b + me)), (1, .ref (b + o)), (2, .int (jI v)), (3, .long (jL q)), (5, .int (jI 0)), (6, .int (jI p)), (7, .long (jL v104))]) d_FO_setSolved_95 (Nat.le_of_ble_eq_true rfl) rfl ?_
              refine jt_iinc (L' := [(0, .ref (b + me)), (1, .ref (b + o)), (2, .int (jI v)), (3, .long (jL q)), (5, .int (jI 0)), (6, .int (jI (p + 1))), (7, .long (jL v104))]) d_FO_setSolved_97 rfl (Nat.le_of_ble_eq_true rfl) rfl ?_
              refine jt_goto (t := 22) d_FO_setSolved_100 rfl ?_
              refine jt_sub (L' := [(0, .ref (b + me)), (1, .ref (b + o)), (2, .int (jI v)), (3, .long (jL q)), (5, .int (jI 0)), (6, .int (jI (p + 1)))]) (fun _ h => List.mem_append_left [(7, Value.long (jL v104))] h) ?_
              exact ih 0 (p + 1) Iq112 Aq112 hpq112 (by omega) (by omega) (by omega)
            · skip
              refine jt_iconst d_FO_setSolved_90 ?_
              refine jt_goto (t := 95) d_FO_setSolved_91 rfl ?_
              refine jt_istore (L' := [(0, .ref (b + me)), (1, .ref (b + o)), (2, .int (jI v)), (3, .long (jL q)), (5, .int (jI 1)), (6, .int (jI p)), (7, .long (jL v104))]) d_FO_setSolved_95 (Nat.le_of_ble_eq_true rfl) rfl ?_
              refine jt_iinc (L' := [(0, .ref (b + me)), (1, .ref (b + o)), (2, .int (jI v)), (3, .long (jL q)), (5, .int (jI 1)), (6, .int (jI (p + 1))), (7, .long (jL v104))]) d_FO_setSolved_97 rfl (Nat.le_of_ble_eq_true rfl) rfl ?_
              refine jt_goto (t := 22) d_FO_setSolved_100 rfl ?_
              refine jt_sub (L' := [(0, .ref (b + me)), (1, .ref (b + o)), (2, .int (jI v)), (3, .long (jL q)), (5, .int (jI 1)), (6, .int (jI (p + 1)))]) (fun _ h => List.mem_append_left [(7, Value.long (jL v104))] h) ?_
              exact ih 1 (p + 1) Iq112 Aq112 hpq112 (by omega) (by omega) (by omega)
      · skip
        refine jt_lconst (z := 0) d_FO_setSolved_35 (by decide) ?_
        refine jt_goto (t := 50) d_FO_setSolved_36 rfl ?_
        refine jt_lstore (L' := [(0, .ref (b + me)), (1, .ref (b + o)), (2, .int (jI v)), (3, .long (jL q)), (5, .int (jI n)), (6, .int (jI p)), (7, .long (jL 0))]) d_FO_setSolved_50 (Nat.le_of_ble_eq_true rfl) rfl ?_
        refine jt_aload_n d_FO_setSolved_52 rfl ?_
        refine cm_get (k := me) (v := .ref (b + (me + 1))) d_FO_setSolved_53 FO_f11 k_me (cc_5 k5me) rfl ?_
        refine jt_iload d_FO_setSolved_56 rfl ?_
        refine jt_lload d_FO_setSolved_58 rfl ?_
        refine jt_lload_n d_FO_setSolved_60 rfl ?_
        refine jt_ldiv d_FO_setSolved_61 (by unfold jRl; omega) (by unfold jRl; omega) (by omega) ?_
        refine jt_toplw (fun v114 bv114 => ?_)
        refine cm_st1 (k := me + 1) (n := 13) (v := v114) d_FO_setSolved_62 fpme.2.2 fpme.1 fpme.2.1 (by omega) (by omega) (by omega) ?_
        refine cm_nmA (fun B115 eB115 => ?_)
        have p116 : cPo [] [] I A (J) B115 := by rw [eB115]; exact cPo.A (me + 1) _ hJ (Or.inr fpme.1) (by rw [glme.1, glme.2]; exact gju (fun z9 => by have q9 := hJ.2.1 (me + 1) z9; rw [glme.1, glme.2] at q9; exact q9) (show -9223372036854775808 ≤ v114 ∧ v114 ≤ 9223372036854775807 by omega))
        refine jt_iload d_FO_setSolved_63 rfl ?_
        refine jt_if_eq (t := 94) d_FO_setSolved_65 rfl (by unfold jRi; omega) (fun c117 => ?_) (fun c117 => ?_)
        · skip
          refine jt_iconst d_FO_setSolved_94 ?_
          refine jt_istore (L' := [(0, .ref (b + me)), (1, .ref (b + o)), (2, .int (jI v)), (3, .long (jL q)), (5, .int (jI 0)), (6, .int (jI p)), (7, .long (jL 0))]) d_FO_setSolved_95 (Nat.le_of_ble_eq_true rfl) rfl ?_
          refine jt_iinc (L' := [(0, .ref (b + me)), (1, .ref (b + o)), (2, .int (jI v)), (3, .long (jL q)), (5, .int (jI 0)), (6, .int (jI (p + 1))), (7, .long (jL 0))]) d_FO_setSolved_97 rfl (Nat.le_of_ble_eq_true rfl) rfl ?_
          refine jt_goto (t := 22) d_FO_setSolved_100 rfl ?_
          refine jt_sub (L' := [(0, .ref (b + me)), (1, .ref (b + o)), (2, .int (jI v)), (3, .long (jL q)), (5, .int (jI 0)), (6, .int (jI (p + 1)))]) (fun _ h => List.mem_append_left [(7, Value.long (jL 0))] h) ?_
          exact ih 0 (p + 1) J B115 p116 (by omega) (by omega) (by omega)
        · skip
          refine jt_lload d_FO_setSolved_68 rfl ?_
          refine jt_lload_n d_FO_setSolved_70 rfl ?_
          refine jt_lrem d_FO_setSolved_71 (by unfold jRl; omega) (by unfold jRl; omega) (by omega) ?_
          refine jt_toplw (fun v118 bv118 => ?_)
          refine jt_lconst (z := 0) d_FO_setSolved_72 (by decide) ?_
          refine jt_lif_ne (t := 94) d_FO_setSolved_73 d_FO_setSolved_74 rfl (by unfold jRl; omega) (by unfold jRl; omega) (fun c119 => ?_) (fun c119 => ?_)
          · skip
            refine jt_iconst d_FO_setSolved_94 ?_
            refine jt_istore (L' := [(0, .ref (b + me)), (1, .ref (b + o)), (2, .int (jI v)), (3, .long (jL q)), (5, .int (jI 0)), (6, .int (jI p)), (7, .long (jL 0))]) d_FO_setSolved_95 (Nat.le_of_ble_eq_true rfl) rfl ?_
            refine jt_iinc (L' := [(0, .ref (b + me)), (1, .ref (b + o)), (2, .int (jI v)), (3, .long (jL q)), (5, .int (jI 0)), (6, .int (jI (p + 1))), (7, .long (jL 0))]) d_FO_setSolved_97 rfl (Nat.le_of_ble_eq_true rfl) rfl ?_
            refine jt_goto (t := 22) d_FO_setSolved_100 rfl ?_
            refine jt_sub (L' := [(0, .ref (b + me)), (1, .ref (b + o)), (2, .int (jI v)), (3, .long (jL q)), (5, .int (jI 0)), (6, .int (jI (p + 1)))]) (fun _ h => List.mem_append_left [(7, Value.long (jL 0))] h) ?_
            exact ih 0 (p + 1) J B115 p116 (by omega) (by omega) (by omega)
          · skip
            refine jt_aload_n d_FO_setSolved_77 rfl ?_
            refine cm_get (k := me) (v := .ref (b + (me + 1))) d_FO_setSolved_78 FO_f11 k_me (cc_5 k5me) rfl ?_
            refine jt_iload d_FO_setSolved_81 rfl ?_
            refine cm_ld1 (k := me + 1) (n := 13) (v := (B115 ((me + 1))) p) d_FO_setSolved_83 fpme.2.2 fpme.1 fpme.2.1 (by omega) (by omega) (by omega) rfl ?_
            refine jt_topl (fun v120 ev120 => ?_)
            have bv120 : -9223372036854775808 ≤ v120 ∧ v120 ≤ 9223372036854775807 := by have q9 := p116.2.1 (me + 1) p; rw [glme.1, glme.2] at q9; rw [ev120]; exact q9
            refine cct_callS (Y := Y_FO_isNumber) (As := [.long (jL v120)]) (rest := []) d_FO_setSolved_84 FO_c20 yk_FO_isNumber ys_FO_isNumber (Nat.le_of_ble_eq_true rfl) rfl rfl (Nat.le_of_ble_eq_true rfl) (v_FO_isNumber G _ b v120 J B115 p116.1 p116.2.1 (by omega)) (fun rvq121 Iq121 Aq121 hq121 => ?_)
            obtain ⟨yq121, rfl, ryq121, hqq121⟩ := hq121
            have hpq121 := cPo.trans p116 hqq121 rfl rfl
            show jt _ 87 [(0, .ref (b + me)), (1, .ref (b + o)), (2, .int (jI v)), (3, .long (jL q)), (5, .int (jI n)), (6, .int (jI p)), (7, .long (jL 0))] [.int (jI yq121)] (cmf b f0 Iq121 Aq121) _ _ _
            refine jt_if_eq (t := 94) d_FO_setSolved_87 rfl (by unfold jRi; omega) (fun c122 => ?_) (fun c122 => ?_)
            · skip
              refine jt_iconst d_FO_setSolved_94 ?_
              refine jt_istore (L' := [(0, .ref (b + me)), (1, .ref (b + o)), (2, .int (jI v)), (3, .long (jL q)), (5, .int (jI 0)), (6, .int (jI p)), (7, .long (jL 0))]) d_FO_setSolved_95 (Nat.le_of_ble_eq_true rfl) rfl ?_
              refine jt_iinc (L' := [(0, .ref (b + me)), (1, .ref (b + o)), (2, .int (jI v)), (3, .long (jL q)), (5, .int (jI 0)), (6, .int (jI (p + 1))), (7, .long (jL 0))]) d_FO_setSolved_97 rfl (Nat.le_of_ble_eq_true rfl) rfl ?_
              refine jt_goto (t := 22) d_FO_setSolved_100 rfl ?_
              refine jt_sub (L' := [(0, .ref (b + me)), (1, .ref (b + o)), (2, .int (jI v)), (3, .long (jL q)), (5, .int (jI 0)), (6, .int (jI (p + 1)))]) (fun _ h => List.mem_append_left [(7, Value.long (jL 0))] h) ?_
              exact ih 0 (p + 1) Iq121 Aq121 hpq121 (by omega) (by omega) (by omega)
            · skip
              refine jt_iconst d_FO_setSolved_90 ?_
              refine jt_goto (t := 95) d_FO_setSolved_91 rfl ?_
              refine jt_istore (L' := [(0, .ref (b + me)), (1, .ref (b + o)), (2, .int (jI v)), (3, .long (jL q)), (5, .int (jI 1)), (6, .int (jI p)), (7, .long (jL 0))]) d_FO_setSolved_95 (Nat.le_of_ble_eq_true rfl) rfl ?_
              refine jt_iinc (L' := [(0, .ref (b + me)), (1, .ref (b + o)), (2, .int (jI v)), (3, .long (jL q)), (5, .int (jI 1)), (6, .int (jI (p + 1))), (7, .long (jL 0))]) d_FO_setSolved_97 rfl (Nat.le_of_ble_eq_true rfl) rfl ?_
              refine jt_goto (t := 22) d_FO_setSolved_100 rfl ?_
              refine jt_sub (L' := [(0, .ref (b + me)), (1, .ref (b + o)), (2, .int (jI v)), (3, .long (jL q)), (5, .int (jI 1)), (6, .int (jI (p + 1)))]) (fun _ h => List.mem_append_left [(7, Value.long (jL 0))] h) ?_
              exact ih 1 (p + 1) Iq121 Aq121 hpq121 (by omega) (by omega) (by omega)
set_option maxRecDepth 100000 in
set_option maxHeartbeats 4000000 in
theorem v_FO_setSolved (G : jG) (d b : Nat) (me : Nat) (o : Nat) (v : Int) (I : Nat → Nat → Int) (A : Nat → Int → Int) (hI : cSI I) (hA : cSA A) (k_me : me < 472) (k5me : ck me = 5) (k_o : o < 472) (k5o : ck o = 5) (v0 : 0 ≤ v ∧ v < 12) : cct G Y_FO_setSolved (d + 1) b [.ref (b + me), .ref (b + o), .int (jI v)] I A (fun (rv : Option Value) (I2 : Nat → Nat → Int) (A2 : Nat → Int → Int) => ∃ y : Int, rv = some (.int (jI y)) ∧ (0 ≤ y ∧ y ≤ 1) ∧ cPo [] [] I A I2 A2) := by
  refine cct_of (by decide) (Nat.le_of_ble_eq_true rfl) (fun f0 sz => ?_)
  show jt _ 0 [(0, .ref (b + me)), (1, .ref (b + o)), (2, .int (jI v))] [] _ _ _ _
  have fpme := form_parts me k_me k5me
  have glme := eLong k_me k5me
  have fpo := form_parts o k_o k5o
  have glo := eLong k_o k5o
  have hz0 : cPo [] [] I A I A := cPo.refl hI hA
  refine jt_aload_n d_FO_setSolved_0 rfl ?_
  refine cm_get (k := o) (v := .ref (b + (o + 1))) d_FO_setSolved_1 FO_f11 k_o (cc_5 k5o) rfl ?_
  refine jt_iload_n d_FO_setSolved_4 rfl ?_
  refine cm_ld1 (k := o + 1) (n := 13) (v := (A ((o + 1))) v) d_FO_setSolved_5 fpo.2.2 fpo.1 fpo.2.1 (by omega) (by omega) (by omega) rfl ?_
  refine jt_topl (fun v1 ev1 => ?_)
  have bv1 : -9223372036854775808 ≤ v1 ∧ v1 ≤ 9223372036854775807 := by have q9 := hz0.2.1 (o + 1) v; rw [glo.1, glo.2] at q9; rw [ev1]; exact q9
  refine jt_lneg d_FO_setSolved_6 ?_
  refine jt_toplw (fun v2 bv2 => ?_)
  refine jt_lstore_n (L' := [(0, .ref (b + me)), (1, .ref (b + o)), (2, .int (jI v)), (3, .long (jL v2))]) d_FO_setSolved_7 (Nat.le_of_ble_eq_true rfl) rfl ?_
  refine jt_lload_n d_FO_setSolved_8 rfl ?_
  refine jt_lconst (z := 0) d_FO_setSolved_9 (by decide) ?_
  refine jt_lif_ne (t := 16) d_FO_setSolved_10 d_FO_setSolved_11 rfl (by unfold jRl; omega) (by unfold jRl; omega) (fun c3 => ?_) (fun c3 => ?_)
  · skip
    refine jt_iconst d_FO_setSolved_16 ?_
    refine jt_istore (L' := [(0, .ref (b + me)), (1, .ref (b + o)), (2, .int (jI v)), (3, .long (jL v2)), (5, .int (jI 1))]) d_FO_setSolved_17 (Nat.le_of_ble_eq_true rfl) rfl ?_
    refine jt_iconst d_FO_setSolved_19 ?_
    refine jt_istore (L' := [(0, .ref (b + me)), (1, .ref (b + o)), (2, .int (jI v)), (3, .long (jL v2)), (5, .int (jI 1)), (6, .int (jI 0))]) d_FO_setSolved_20 (Nat.le_of_ble_eq_true rfl) rfl ?_
    exact l22_FO_setSolvedv G d b me o v I A hI hA k_me k5me k_o k5o v0 f0 sz v2 ((by omega)) ((by omega)) 14 1 0 I A hz0 (by omega) (by omega) (by omega)
  · skip
    refine jt_iconst d_FO_setSolved_14 ?_
    exact cm_ret d_FO_setSolved_15 rfl (jnz (by omega)) (⟨0, rfl, by omega, hz0⟩)

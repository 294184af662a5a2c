set_option maxRecDepth 100000 in
set_option maxHeartbeats 4000000 in
theorem v_FO_isNumber_x (G : jG) (d b : Nat) (x : Int) (I : Nat → Nat → Int) (A : Nat → Int → Int) (hI : cSI I) (hA : cSA A) (hx : -9223372036854775808 ≤ x ∧ x ≤ 9223372036854775807) : cct G Y_FO_isNumber d b [.long (jL x)] I A (fun (rv : Option Value) (I2 : Nat → Nat → Int) (A2 : Nat → Int → Int) => ∃ y : Int, rv = some (.int (jI y)) ∧ (0 ≤ y ∧ y ≤ 1) ∧ I2 = I ∧ A2 = A ∧ ((y = 1 → gin x) ∧ (y = 0 → ¬ (gin x)))) := by
  refine cct_of (by decide) (Nat.le_of_ble_eq_true rfl) (fun f0 sz => ?_)
  show jt _ 0 [(0, .long (jL x))] [] _ _ _ _
  have hz0 : cPx [] [] I A I A := cPx.refl hI hA
  refine jt_lload_n d_FO_isNumber_0 rfl ?_
  refine jt_ldc2 (z := -68719476736) d_FO_isNumber_1 FO_k16 ?_
  refine jt_lif_lt (t := 20) d_FO_isNumber_4 d_FO_isNumber_5 rfl (by unfold jRl; omega) (by unfold jRl; omega) (fun c1 => ?_) (fun c1 => ?_)
  · skip
    refine jt_iconst d_FO_isNumber_20 ?_
    exact cm_ret d_FO_isNumber_21 rfl (jnz (by omega)) (⟨0, rfl, by omega, rfl, rfl, ⟨fun z => by omega, fun z => by omega⟩⟩)
  · skip
    refine jt_lload_n d_FO_isNumber_8 rfl ?_
    refine jt_ldc2 (z := 68719476736) d_FO_isNumber_9 FO_k18 ?_
    refine jt_lif_gt (t := 20) d_FO_isNumber_12 d_FO_isNumber_13 rfl (by unfold jRl; omega) (by unfold jRl; omega) (fun c2 => ?_) (fun c2 => ?_)
    · skip
      refine jt_iconst d_FO_isNumber_20 ?_
      exact cm_ret d_FO_isNumber_21 rfl (jnz (by omega)) (⟨0, rfl, by omega, rfl, rfl, ⟨fun z => by omega, fun z => by omega⟩⟩)
    · skip
      refine jt_iconst d_FO_isNumber_16 ?_
      refine jt_goto (t := 21) d_FO_isNumber_17 rfl ?_
      exact cm_ret d_FO_isNumber_21 rfl (jnz (by omega)) (⟨1, rfl, by omega, rfl, rfl, ⟨fun z => by omega, fun z => by omega⟩⟩)
set_option maxRecDepth 100000 in
set_option maxHeartbeats 4000000 in
theorem l4_FO_hasNumbers_xv (G : jG) (d b : Nat) (me : Nat) (I : Nat → Nat → Int) (A : Nat → Int → Int) (hI : cSI I) (hA : cSA A) (k_me : me < 472) (k5me : ck me = 5) (f0 : jF) (sz : Nat)   : ∀ (n9 : Nat) (n : Int) (p : Int) (J : Nat → Nat → Int) (B : Nat → Int → Int), cPx [] [me + 1] I A J B → (0 ≤ n ∧ n ≤ 1) → (0 ≤ p ∧ p ≤ 13) → (n = 1 → ∀ z, 0 ≤ z → z < p → gin (A (me + 1) z)) → (n = 0 → ¬ inr (A (me + 1))) → (J = I) → (B = A) → 13 - p < (n9 : Int) → jt (jm G Y_FO_hasNumbers (gR (d + 1)) (cQ b f0 sz (fun (rv : Option Value) (I2 : Nat → Nat → Int) (A2 : Nat → Int → Int) => ∃ y : Int, rv = some (.int (jI y)) ∧ (0 ≤ y ∧ y ≤ 1) ∧ I2 = I ∧ A2 = A ∧ ((y = 1 → inr (A (me + 1))) ∧ (y = 0 → ¬ (inr (A (me + 1)))))))) 4 [(0, .ref (b + me)), (1, .int (jI n)), (2, .int (jI p))] [] (cmf b f0 J B) sz 0 0 := by
  have fpme := form_parts me k_me k5me
  have glme := eLong k_me k5me
  intro n9
  induction n9 with
  | zero =>
    intro n p J B hJ n0 p0 hn1 hn0 eJ eB hmeas
    exfalso
    omega
  | succ n9 ih =>
    intro n p J B hJ n0 p0 hn1 hn0 eJ eB hmeas
    refine jt_iload_n d_FO_hasNumbers_4 rfl ?_
    refine jt_bipush d_FO_hasNumbers_5 (by omega) ?_
    refine jt_icmp_ge (t := 38) d_FO_hasNumbers_7 rfl (by unfold jRi; omega) (by unfold jRi; omega) (fun c101 => ?_) (fun c101 => ?_)
    · skip
      refine jt_iload_n d_FO_hasNumbers_38 rfl ?_
      exact cm_ret d_FO_hasNumbers_39 rfl (jnz (by omega)) (⟨n, rfl, by omega, eJ, eB, ⟨fun z => (fun i a c => hn1 z i a (by omega)), hn0⟩⟩)
    · skip
      refine jt_iload_n d_FO_hasNumbers_10 rfl ?_
      refine jt_if_eq (t := 30) d_FO_hasNumbers_11 rfl (by unfold jRi; omega) (fun c102 => ?_) (fun c102 => ?_)
      · skip
        refine jt_iconst d_FO_hasNumbers_30 ?_
        refine jt_istore_n (L' := [(0, .ref (b + me)), (1, .int (jI 0)), (2, .int (jI p))]) d_FO_hasNumbers_31 (Nat.le_of_ble_eq_true rfl) rfl ?_
        refine jt_iinc (L' := [(0, .ref (b + me)), (1, .int (jI 0)), (2, .int (jI (p + 1)))]) d_FO_hasNumbers_32 rfl (Nat.le_of_ble_eq_true rfl) rfl ?_
        refine jt_goto (t := 4) d_FO_hasNumbers_35 rfl ?_
        exact ih 0 (p + 1) J B hJ (by omega) (by omega) (fun z => absurd z (by omega)) (fun _ => hn0 (by omega)) eJ eB (by omega)
      · skip
        refine jt_aload_n d_FO_hasNumbers_14 rfl ?_
        refine cm_get (k := me) (v := .ref (b + (me + 1))) d_FO_hasNumbers_15 FO_f11 k_me (cc_5 k5me) rfl ?_
        refine jt_iload_n d_FO_hasNumbers_18 rfl ?_
        refine cm_ld1 (k := me + 1) (n := 13) (v := (B ((me + 1))) p) d_FO_hasNumbers_19 fpme.2.2 fpme.1 fpme.2.1 (by omega) (by omega) (by omega) rfl ?_
        refine jt_topl (fun v103 ev103 => ?_)
        have bv103 : -9223372036854775808 ≤ v103 ∧ v103 ≤ 9223372036854775807 := by have q9 := hJ.2.1 (me + 1) p; rw [glme.1, glme.2] at q9; rw [ev103]; exact q9
        rw [eB] at ev103
        refine cct_callS (Y := Y_FO_isNumber) (As := [.long (jL v103)]) (rest := []) d_FO_hasNumbers_20 FO_c20 yk_FO_isNumber ys_FO_isNumber (Nat.le_of_ble_eq_true rfl) rfl rfl (Nat.le_of_ble_eq_true rfl) (v_FO_isNumber_x G _ b v103 J B hJ.1 hJ.2.1 (by omega)) (fun rvq104 Iq104 Aq104 hq104 => ?_)
        obtain ⟨yq104, rfl, ryq104, hIq104, hAq104, hxq104⟩ := hq104
        rw [hIq104, hAq104]
        by_cases gbq104 : yq104 = 1
        · skip
          obtain rfl : yq104 = 1 := by omega
          have hwq104 := hxq104.1 rfl
          show jt _ 23 [(0, .ref (b + me)), (1, .int (jI n)), (2, .int (jI p))] [.int (jI 1)] (cmf b f0 J B) _ _ _
          refine jt_if_eq (t := 30) d_FO_hasNumbers_23 rfl (by unfold jRi; omega) (fun c105 => ?_) (fun c105 => ?_)
          · skip
            exfalso
            omega
          · skip
            refine jt_iconst d_FO_hasNumbers_26 ?_
            refine jt_goto (t := 31) d_FO_hasNumbers_27 rfl ?_
            refine jt_istore_n (L' := [(0, .ref (b + me)), (1, .int (jI 1)), (2, .int (jI p))]) d_FO_hasNumbers_31 (Nat.le_of_ble_eq_true rfl) rfl ?_
            refine jt_iinc (L' := [(0, .ref (b + me)), (1, .int (jI 1)), (2, .int (jI (p + 1)))]) d_FO_hasNumbers_32 rfl (Nat.le_of_ble_eq_true rfl) rfl ?_
            refine jt_goto (t := 4) d_FO_hasNumbers_35 rfl ?_
            exact ih 1 (p + 1) J B hJ (by omega) (by omega) (fun _ z a c => by rcases Classical.em (z = p) with e9 | e9; exact (by rw [e9]; rw [← ev103]; exact hwq104); exact hn1 (by omega) z a (by omega)) (fun z => absurd z (by omega)) eJ eB (by omega)
        · skip
          obtain rfl : yq104 = 0 := by omega
          have hwq104 := hxq104.2 rfl
          show jt _ 23 [(0, .ref (b + me)), (1, .int (jI n)), (2, .int (jI p))] [.int (jI 0)] (cmf b f0 J B) _ _ _
          refine jt_if_eq (t := 30) d_FO_hasNumbers_23 rfl (by unfold jRi; omega) (fun c106 => ?_) (fun c106 => ?_)
          · skip
            refine jt_iconst d_FO_hasNumbers_30 ?_
            refine jt_istore_n (L' := [(0, .ref (b + me)), (1, .int (jI 0)), (2, .int (jI p))]) d_FO_hasNumbers_31 (Nat.le_of_ble_eq_true rfl) rfl ?_
            refine jt_iinc (L' := [(0, .ref (b + me)), (1, .int (jI 0)), (2, .int (jI (p + 1)))]) d_FO_hasNumbers_32 rfl (Nat.le_of_ble_eq_true rfl) rfl ?_
            refine jt_goto (t := 4) d_FO_hasNumbers_35 rfl ?_
            exact ih 0 (p + 1) J B hJ (by omega) (by omega) (fun z => absurd z (by omega)) (fun _ z9 => by have z8 := z9 p (by omega) (by omega); rw [← ev103] at z8; exact hwq104 z8) eJ eB (by omega)
          · skip
            exfalso
            omega
set_option maxRecDepth 100000 in
set_option maxHeartbeats 4000000 in
theorem v_FO_hasNumbers_x (G : jG) (d b : Nat) (me : Nat) (I : Nat → Nat → Int) (A : Nat → Int → Int) (hI : cSI I) (hA : cSA A) (k_me : me < 472) (k5me : ck me = 5) : cct G Y_FO_hasNumbers (d + 1) b [.ref (b + me)] I A (fun (rv : Option Value) (I2 : Nat → Nat → Int) (A2 : Nat → Int → Int) => ∃ y : Int, rv = some (.int (jI y)) ∧ (0 ≤ y ∧ y ≤ 1) ∧ I2 = I ∧ A2 = A ∧ ((y = 1 → inr (A (me + 1))) ∧ (y = 0 → ¬ (inr (A (me + 1)))))) := by
  refine cct_of (by decide) (Nat.le_of_ble_eq_true rfl) (fun f0 sz => ?_)
  show jt _ 0 [(0, .ref (b + me))] [] _ _ _ _
  have fpme := form_parts me k_me k5me
  have glme := eLong k_me k5me
  have hz0 : cPx [] [me + 1] I A I A := cPx.refl hI hA
  refine jt_iconst d_FO_hasNumbers_0 ?_
  refine jt_istore_n (L' := [(0, .ref (b + me)), (1, .int (jI 1))]) d_FO_hasNumbers_1 (Nat.le_of_ble_eq_true rfl) rfl ?_
  refine jt_iconst d_FO_hasNumbers_2 ?_
  refine jt_istore_n (L' := [(0, .ref (b + me)), (1, .int (jI 1)), (2, .int (jI 0))]) d_FO_hasNumbers_3 (Nat.le_of_ble_eq_true rfl) rfl ?_
  exact l4_FO_hasNumbers_xv G d b me I A hI hA k_me k5me f0 sz  14 1 0 I A hz0 (by omega) (by omega) (fun _ z a c => by omega) (fun z => absurd z (by omega)) rfl rfl (by omega)
set_option maxRecDepth 100000 in
set_option maxHeartbeats 4000000 in
theorem l4_FO_isPlain_xv (G : jG) (d b : Nat) (me : Nat) (I : Nat → Nat → Int) (A : Nat → Int → Int) (hI : cSI I) (hA : cSA A) (k_me : me < 472) (k5me : ck me = 5) (f0 : jF) (sz : Nat)   : ∀ (n9 : Nat) (n : Int) (p : Int) (J : Nat → Nat → Int) (B : Nat → Int → Int), cPx [] [me + 1] I A J B → (0 ≤ n ∧ n ≤ 1) → (0 ≤ p ∧ p ≤ 12) → (n = 1 → ∀ z, 0 ≤ z → z < p → A (me + 1) z = 0) → (n = 0 → ¬ fZ (A (me + 1))) → (J = I) → (B = A) → 13 - p < (n9 : Int) → jt (jm G Y_FO_isPlain (gR d) (cQ b f0 sz (fun (rv : Option Value) (I2 : Nat → Nat → Int) (A2 : Nat → Int → Int) => ∃ y : Int, rv = some (.int (jI y)) ∧ (0 ≤ y ∧ y ≤ 1) ∧ I2 = I ∧ A2 = A ∧ ((y = 1 → fZ (A (me + 1))) ∧ (y = 0 → ¬ (fZ (A (me + 1)))))))) 4 [(0, .ref (b + me)), (1, .int (jI n)), (2, .int (jI p))] [] (cmf b f0 J B) sz 0 0 := by
  have fpme := form_parts me k_me k5me
  have glme := eLong k_me k5me
  intro n9
  induction n9 with
  | zero =>
    intro n p J B hJ n0 p0 hn1 hn0 eJ eB hmeas
    exfalso
    omega
  | succ n9 ih =>
    intro n p J B hJ n0 p0 hn1 hn0 eJ eB hmeas
    refine jt_iload_n d_FO_isPlain_4 rfl ?_
    refine jt_bipush d_FO_isPlain_5 (by omega) ?_
    refine jt_icmp_ge (t := 37) d_FO_isPlain_7 rfl (by unfold jRi; omega) (by unfold jRi; omega) (fun c101 => ?_) (fun c101 => ?_)
    · skip
      refine jt_iload_n d_FO_isPlain_37 rfl ?_
      exact cm_ret d_FO_isPlain_38 rfl (jnz (by omega)) (⟨n, rfl, by omega, eJ, eB, ⟨fun z => (fun i a c => hn1 z i a (by omega)), hn0⟩⟩)
    · skip
      refine jt_iload_n d_FO_isPlain_10 rfl ?_
      refine jt_if_eq (t := 29) d_FO_isPlain_11 rfl (by unfold jRi; omega) (fun c102 => ?_) (fun c102 => ?_)
      · skip
        refine jt_iconst d_FO_isPlain_29 ?_
        refine jt_istore_n (L' := [(0, .ref (b + me)), (1, .int (jI 0)), (2, .int (jI p))]) d_FO_isPlain_30 (Nat.le_of_ble_eq_true rfl) rfl ?_
        refine jt_iinc (L' := [(0, .ref (b + me)), (1, .int (jI 0)), (2, .int (jI (p + 1)))]) d_FO_isPlain_31 rfl (Nat.le_of_ble_eq_true rfl) rfl ?_
        refine jt_goto (t := 4) d_FO_isPlain_34 rfl ?_
        exact ih 0 (p + 1) J B hJ (by omega) (by omega) (fun z => absurd z (by omega)) (fun _ => hn0 (by omega)) eJ eB (by omega)
      · skip
        refine jt_aload_n d_FO_isPlain_14 rfl ?_
        refine cm_get (k := me) (v := .ref (b + (me + 1))) d_FO_isPlain_15 FO_f11 k_me (cc_5 k5me) rfl ?_
        refine jt_iload_n d_FO_isPlain_18 rfl ?_
        refine cm_ld1 (k := me + 1) (n := 13) (v := (B ((me + 1))) p) d_FO_isPlain_19 fpme.2.2 fpme.1 fpme.2.1 (by omega) (by omega) (by omega) rfl ?_
        refine jt_topl (fun v103 ev103 => ?_)
        have bv103 : -9223372036854775808 ≤ v103 ∧ v103 ≤ 9223372036854775807 := by have q9 := hJ.2.1 (me + 1) p; rw [glme.1, glme.2] at q9; rw [ev103]; exact q9
        rw [eB] at ev103
        refine jt_lconst (z := 0) d_FO_isPlain_20 (by decide) ?_
        refine jt_lif_ne (t := 29) d_FO_isPlain_21 d_FO_isPlain_22 rfl (by unfold jRl; omega) (by unfold jRl; omega) (fun c104 => ?_) (fun c104 => ?_)
        · skip
          refine jt_iconst d_FO_isPlain_29 ?_
          refine jt_istore_n (L' := [(0, .ref (b + me)), (1, .int (jI 0)), (2, .int (jI p))]) d_FO_isPlain_30 (Nat.le_of_ble_eq_true rfl) rfl ?_
          refine jt_iinc (L' := [(0, .ref (b + me)), (1, .int (jI 0)), (2, .int (jI (p + 1)))]) d_FO_isPlain_31 rfl (Nat.le_of_ble_eq_true rfl) rfl ?_
          refine jt_goto (t := 4) d_FO_isPlain_34 rfl ?_
          exact ih 0 (p + 1) J B hJ (by omega) (by omega) (fun z => absurd z (by omega)) (fun _ z9 => by have z8 := z9 p (by omega) (by omega); omega) eJ eB (by omega)
        · skip
          refine jt_iconst d_FO_isPlain_25 ?_
          refine jt_goto (t := 30) d_FO_isPlain_26 rfl ?_
          refine jt_istore_n (L' := [(0, .ref (b + me)), (1, .int (jI 1)), (2, .int (jI p))]) d_FO_isPlain_30 (Nat.le_of_ble_eq_true rfl) rfl ?_
          refine jt_iinc (L' := [(0, .ref (b + me)), (1, .int (jI 1)), (2, .int (jI (p + 1)))]) d_FO_isPlain_31 rfl (Nat.le_of_ble_eq_true rfl) rfl ?_
          refine jt_goto (t := 4) d_FO_isPlain_34 rfl ?_
          exact ih 1 (p + 1) J B hJ (by omega) (by omega) (fun _ z a c => by rcases Classical.em (z = p) with e9 | e9; exact (by rw [e9]; omega); exact hn1 (by omega) z a (by omega)) (fun z => absurd z (by omega)) eJ eB (by omega)
set_option maxRecDepth 100000 in
set_option maxHeartbeats 4000000 in
theorem v_FO_isPlain_x (G : jG) (d b : Nat) (me : Nat) (I : Nat → Nat → Int) (A : Nat → Int → Int) (hI : cSI I) (hA : cSA A) (k_me : me < 472) (k5me : ck me = 5) : cct G Y_FO_isPlain d b [.ref (b + me)] I A (fun (rv : Option Value) (I2 : Nat → Nat → Int) (A2 : Nat → Int → Int) => ∃ y : Int, rv = some (.int (jI y)) ∧ (0 ≤ y ∧ y ≤ 1) ∧ I2 = I ∧ A2 = A ∧ ((y = 1 → fZ (A (me + 1))) ∧ (y = 0 → ¬ (fZ (A (me + 1)))))) := by
  refine cct_of (by decide) (Nat.le_of_ble_eq_true rfl) (fun f0 sz => ?_)
  show jt _ 0 [(0, .ref (b + me))] [] _ _ _ _
  have fpme := form_parts me k_me k5me
  have glme := eLong k_me k5me
  have hz0 : cPx [] [me + 1] I A I A := cPx.refl hI hA
  refine jt_iconst d_FO_isPlain_0 ?_
  refine jt_istore_n (L' := [(0, .ref (b + me)), (1, .int (jI 1))]) d_FO_isPlain_1 (Nat.le_of_ble_eq_true rfl) rfl ?_
  refine jt_iconst d_FO_isPlain_2 ?_
  refine jt_istore_n (L' := [(0, .ref (b + me)), (1, .int (jI 1)), (2, .int (jI 0))]) d_FO_isPlain_3 (Nat.le_of_ble_eq_true rfl) rfl ?_
  exact l4_FO_isPlain_xv G d b me I A hI hA k_me k5me f0 sz  14 1 0 I A hz0 (by omega) (by omega) (fun _ z a c => by omega) (fun z => absurd z (by omega)) rfl rfl (by omega)
set_option maxRecDepth 100000 in
set_option maxHeartbeats 4000000 in
theorem l3_FO_set_xv (G : jG) (d b : Nat) (me : Nat) (q : Int) (x : Int) (I : Nat → Nat → Int) (A : Nat → Int → Int) (hI : cSI I) (hA : cSA A) (k_me : me < 472) (k5me : ck me = 5) (hq : -2147483648 ≤ q ∧ q ≤ 2147483647) (hx : -9223372036854775808 ≤ x ∧ x ≤ 9223372036854775807) (f0 : jF) (sz : Nat)   : ∀ (n9 : Nat) (p : Int) (J : Nat → Nat → Int) (B : Nat → Int → Int), cPx [] [me + 1] I A J B → (0 ≤ p ∧ p ≤ 13) → (∀ z, 0 ≤ z → z < p → B (me + 1) z = if z = q then x else 0) → 13 - p < (n9 : Int) → jt (jm G Y_FO_set (gR d) (cQ b f0 sz (fun (rv : Option Value) (I2 : Nat → Nat → Int) (A2 : Nat → Int → Int) => rv = none ∧ cPx [] [me + 1] I A I2 A2 ∧ ∀ z, 0 ≤ z → z < 13 → A2 (me + 1) z = if z = q then x else 0))) 3 [(0, .ref (b + me)), (1, .int (jI q)), (2, .long (jL x)), (4, .int (jI p))] [] (cmf b f0 J B) sz 0 0 := by
  have fpme := form_parts me k_me k5me
  have glme := eLong k_me k5me
  intro n9
  induction n9 with
  | zero =>
    intro p J B hJ p0 hv hmeas
    exfalso
    omega
  | succ n9 ih =>
    intro p J B hJ p0 hv hmeas
    refine jt_iload d_FO_set_3 rfl ?_
    refine jt_bipush d_FO_set_5 (by omega) ?_
    refine jt_icmp_ge (t := 34) d_FO_set_7 rfl (by unfold jRi; omega) (by unfold jRi; omega) (fun c101 => ?_) (fun c101 => ?_)
    · skip
      exact cm_vret d_FO_set_34 rfl (⟨rfl, hJ, fun z a c => hv z a (by omega)⟩)
    · skip
      refine jt_aload_n d_FO_set_10 rfl ?_
      refine cm_get (k := me) (v := .ref (b + (me + 1))) d_FO_set_11 FO_f11 k_me (cc_5 k5me) rfl ?_
      refine jt_iload d_FO_set_14 rfl ?_
      refine jt_iload d_FO_set_16 rfl ?_
      refine jt_iload_n d_FO_set_18 rfl ?_
      refine jt_icmp_ne (t := 26) d_FO_set_19 rfl (by unfold jRi; omega) (by unfold jRi; omega) (fun c102 => ?_) (fun c102 => ?_)
      · skip
        refine jt_lconst (z := 0) d_FO_set_26 (by decide) ?_
        refine cm_st1 (k := me + 1) (n := 13) (v := 0) d_FO_set_27 fpme.2.2 fpme.1 fpme.2.1 (by omega) (by omega) (by omega) ?_
        refine cm_nmA (fun B103 eB103 => ?_)
        have p104 : cPx [] [me + 1] I A (J) B103 := by rw [eB103]; exact cPx.A (me + 1) _ hJ (Or.inl ctn1s) (by rw [glme.1, glme.2]; exact gju (fun z9 => by have q9 := hJ.2.1 (me + 1) z9; rw [glme.1, glme.2] at q9; exact q9) (show -9223372036854775808 ≤ 0 ∧ 0 ≤ 9223372036854775807 by omega))
        refine jt_iinc (L' := [(0, .ref (b + me)), (1, .int (jI q)), (2, .long (jL x)), (4, .int (jI (p + 1)))]) d_FO_set_28 rfl (Nat.le_of_ble_eq_true rfl) rfl ?_
        refine jt_goto (t := 3) d_FO_set_31 rfl ?_
        exact ih (p + 1) J B103 p104 (by omega) (fun z a c => by rcases Classical.em (z = p) with e9 | e9; exact (by rw [e9, (fo_st eB103).1]; first | rw [if_pos (by omega)] | rw [if_neg (by omega)]); exact (by rw [(fo_st eB103).2 z e9]; exact hv z a (by omega))) (by omega)
      · skip
        refine jt_lload_n d_FO_set_22 rfl ?_
        refine jt_goto (t := 27) d_FO_set_23 rfl ?_
        refine cm_st1 (k := me + 1) (n := 13) (v := x) d_FO_set_27 fpme.2.2 fpme.1 fpme.2.1 (by omega) (by omega) (by omega) ?_
        refine cm_nmA (fun B105 eB105 => ?_)
        have p106 : cPx [] [me + 1] I A (J) B105 := by rw [eB105]; exact cPx.A (me + 1) _ hJ (Or.inl ctn1s) (by rw [glme.1, glme.2]; exact gju (fun z9 => by have q9 := hJ.2.1 (me + 1) z9; rw [glme.1, glme.2] at q9; exact q9) (show -9223372036854775808 ≤ x ∧ x ≤ 9223372036854775807 by omega))
        refine jt_iinc (L' := [(0, .ref (b + me)), (1, .int (jI q)), (2, .long (jL x)), (4, .int (jI (p + 1)))]) d_FO_set_28 rfl (Nat.le_of_ble_eq_true rfl) rfl ?_
        refine jt_goto (t := 3) d_FO_set_31 rfl ?_
        exact ih (p + 1) J B105 p106 (by omega) (fun z a c => by rcases Classical.em (z = p) with e9 | e9; exact (by rw [e9, (fo_st eB105).1]; first | rw [if_pos (by omega)] | rw [if_neg (by omega)]); exact (by rw [(fo_st eB105).2 z e9]; exact hv z a (by omega))) (by omega)
set_option maxRecDepth 100000 in
set_option maxHeartbeats 4000000 in
theorem v_FO_set_x (G : jG) (d b : Nat) (me : Nat) (q : Int) (x : Int) (I : Nat → Nat → Int) (A : Nat → Int → Int) (hI : cSI I) (hA : cSA A) (k_me : me < 472) (k5me : ck me = 5) (hq : -2147483648 ≤ q ∧ q ≤ 2147483647) (hx : -9223372036854775808 ≤ x ∧ x ≤ 9223372036854775807) : cct G Y_FO_set d b [.ref (b + me), .int (jI q), .long (jL x)] I A (fun (rv : Option Value) (I2 : Nat → Nat → Int) (A2 : Nat → Int → Int) => rv = none ∧ cPx [] [me + 1] I A I2 A2 ∧ ∀ z, 0 ≤ z → z < 13 → A2 (me + 1) z = if z = q then x else 0) := by
  refine cct_of (by decide) (Nat.le_of_ble_eq_true rfl) (fun f0 sz => ?_)
  show jt _ 0 [(0, .ref (b + me)), (1, .int (jI q)), (2, .long (jL x))] [] _ _ _ _
  have fpme := form_parts me k_me k5me
  have glme := eLong k_me k5me
  have hz0 : cPx [] [me + 1] I A I A := cPx.refl hI hA
  refine jt_iconst d_FO_set_0 ?_
  refine jt_istore (L' := [(0, .ref (b + me)), (1, .int (jI q)), (2, .long (jL x)), (4, .int (jI 0))]) d_FO_set_1 (Nat.le_of_ble_eq_true rfl) rfl ?_
  exact l3_FO_set_xv G d b me q x I A hI hA k_me k5me hq hx f0 sz  14 0 I A hz0 (by omega) (fun z a c => by omega) (by omega)
set_option maxRecDepth 100000 in
set_option maxHeartbeats 4000000 in
theorem l2_FO_copy_xv (G : jG) (d b : Nat) (me : Nat) (o : Nat) (I : Nat → Nat → Int) (A : Nat → Int → Int) (hI : cSI I) (hA : cSA A) (k_me : me < 472) (k5me : ck me = 5) (k_o : o < 472) (k5o : ck o = 5) (hne : me ≠ o) (f0 : jF) (sz : Nat)   : ∀ (n9 : Nat) (p : Int) (J : Nat → Nat → Int) (B : Nat → Int → Int), cPx [] [me + 1] I A J B → (0 ≤ p ∧ p ≤ 13) → (∀ z, 0 ≤ z → z < p → B (me + 1) z = A (o + 1) z) → 13 - p < (n9 : Int) → jt (jm G Y_FO_copy (gR d) (cQ b f0 sz (fun (rv : Option Value) (I2 : Nat → Nat → Int) (A2 : Nat → Int → Int) => rv = none ∧ cPx [] [me + 1] I A I2 A2 ∧ ∀ z, 0 ≤ z → z < 13 → A2 (me + 1) z = A (o + 1) z))) 2 [(0, .ref (b + me)), (1, .ref (b + o)), (2, .int (jI p))] [] (cmf b f0 J B) sz 0 0 := by
  have fpme := form_parts me k_me k5me
  have glme := eLong k_me k5me
  have fpo := form_parts o k_o k5o
  have glo := eLong k_o k5o
  intro n9
  induction n9 with
  | zero =>
    intro p J B hJ p0 hv hmeas
    have fo : B (o + 1) = A (o + 1) := hJ.2.2.2 (o + 1) (ctn1 (by omega)) trivial
    exfalso
    omega
  | succ n9 ih =>
    intro p J B hJ p0 hv hmeas
    have fo : B (o + 1) = A (o + 1) := hJ.2.2.2 (o + 1) (ctn1 (by omega)) trivial
    refine jt_iload_n d_FO_copy_2 rfl ?_
    refine jt_bipush d_FO_copy_3 (by omega) ?_
    refine jt_icmp_ge (t := 26) d_FO_copy_5 rfl (by unfold jRi; omega) (by unfold jRi; omega) (fun c101 => ?_) (fun c101 => ?_)
    · skip
      exact cm_vret d_FO_copy_26 rfl (⟨rfl, hJ, fun z a c => hv z a (by omega)⟩)
    · skip
      refine jt_aload_n d_FO_copy_8 rfl ?_
      refine cm_get (k := me) (v := .ref (b + (me + 1))) d_FO_copy_9 FO_f11 k_me (cc_5 k5me) rfl ?_
      refine jt_iload_n d_FO_copy_12 rfl ?_
      refine jt_aload_n d_FO_copy_13 rfl ?_
      refine cm_get (k := o) (v := .ref (b + (o + 1))) d_FO_copy_14 FO_f11 k_o (cc_5 k5o) rfl ?_
      refine jt_iload_n d_FO_copy_17 rfl ?_
      refine cm_ld1 (k := o + 1) (n := 13) (v := (B ((o + 1))) p) d_FO_copy_18 fpo.2.2 fpo.1 fpo.2.1 (by omega) (by omega) (by omega) rfl ?_
      refine jt_topl (fun v102 ev102 => ?_)
      have bv102 : -9223372036854775808 ≤ v102 ∧ v102 ≤ 9223372036854775807 := by have q9 := hJ.2.1 (o + 1) p; rw [glo.1, glo.2] at q9; rw [ev102]; exact q9
      rw [fo] at ev102
      refine cm_st1 (k := me + 1) (n := 13) (v := v102) d_FO_copy_19 fpme.2.2 fpme.1 fpme.2.1 (by omega) (by omega) (by omega) ?_
      refine cm_nmA (fun B103 eB103 => ?_)
      have p104 : cPx [] [me + 1] I A (J) B103 := by rw [eB103]; exact cPx.A (me + 1) _ hJ (Or.inl ctn1s) (by rw [glme.1, glme.2]; exact gju (fun z9 => by have q9 := hJ.2.1 (me + 1) z9; rw [glme.1, glme.2] at q9; exact q9) (show -9223372036854775808 ≤ v102 ∧ v102 ≤ 9223372036854775807 by omega))
      refine jt_iinc (L' := [(0, .ref (b + me)), (1, .ref (b + o)), (2, .int (jI (p + 1)))]) d_FO_copy_20 rfl (Nat.le_of_ble_eq_true rfl) rfl ?_
      refine jt_goto (t := 2) d_FO_copy_23 rfl ?_
      exact ih (p + 1) J B103 p104 (by omega) (fun z a c => by rcases Classical.em (z = p) with e9 | e9; exact (by rw [e9, (fo_st eB103).1]; omega); exact (by rw [(fo_st eB103).2 z e9]; exact hv z a (by omega))) (by omega)
set_option maxRecDepth 100000 in
set_option maxHeartbeats 4000000 in
theorem v_FO_copy_x (G : jG) (d b : Nat) (me : Nat) (o : Nat) (I : Nat → Nat → Int) (A : Nat → Int → Int) (hI : cSI I) (hA : cSA A) (k_me : me < 472) (k5me : ck me = 5) (k_o : o < 472) (k5o : ck o = 5) (hne : me ≠ o) : cct G Y_FO_copy d b [.ref (b + me), .ref (b + o)] I A (fun (rv : Option Value) (I2 : Nat → Nat → Int) (A2 : Nat → Int → Int) => rv = none ∧ cPx [] [me + 1] I A I2 A2 ∧ ∀ z, 0 ≤ z → z < 13 → A2 (me + 1) z = A (o + 1) z) := by
  refine cct_of (by decide) (Nat.le_of_ble_eq_true rfl) (fun f0 sz => ?_)
  show jt _ 0 [(0, .ref (b + me)), (1, .ref (b + o))] [] _ _ _ _
  have fpme := form_parts me k_me k5me
  have glme := eLong k_me k5me
  have fpo := form_parts o k_o k5o
  have glo := eLong k_o k5o
  have hz0 : cPx [] [me + 1] I A I A := cPx.refl hI hA
  refine jt_iconst d_FO_copy_0 ?_
  refine jt_istore_n (L' := [(0, .ref (b + me)), (1, .ref (b + o)), (2, .int (jI 0))]) d_FO_copy_1 (Nat.le_of_ble_eq_true rfl) rfl ?_
  exact l2_FO_copy_xv G d b me o I A hI hA k_me k5me k_o k5o hne f0 sz  14 0 I A hz0 (by omega) (fun z a c => by omega) (by omega)
set_option maxRecDepth 100000 in
set_option maxHeartbeats 4000000 in
theorem l2_FO_add_xv (G : jG) (d b : Nat) (me : Nat) (o : Nat) (I : Nat → Nat → Int) (A : Nat → Int → Int) (hI : cSI I) (hA : cSA A) (k_me : me < 472) (k5me : ck me = 5) (k_o : o < 472) (k5o : ck o = 5) (hne : me ≠ o) (f0 : jF) (sz : Nat)   : ∀ (n9 : Nat) (p : Int) (J : Nat → Nat → Int) (B : Nat → Int → Int), cPx [] [me + 1] I A J B → (0 ≤ p ∧ p ≤ 13) → (∀ z, 0 ≤ z → z < p → jRl (A (me + 1) z + A (o + 1) z) → B (me + 1) z = A (me + 1) z + A (o + 1) z) → (∀ z, p ≤ z → B (me + 1) z = A (me + 1) z) → 13 - p < (n9 : Int) → jt (jm G Y_FO_add (gR d) (cQ b f0 sz (fun (rv : Option Value) (I2 : Nat → Nat → Int) (A2 : Nat → Int → Int) => rv = none ∧ cPx [] [me + 1] I A I2 A2 ∧ ∀ z, 0 ≤ z → z < 13 → jRl (A (me + 1) z + A (o + 1) z) → A2 (me + 1) z = A (me + 1) z + A (o + 1) z))) 2 [(0, .ref (b + me)), (1, .ref (b + o)), (2, .int (jI p))] [] (cmf b f0 J B) sz 0 0 := by
  have fpme := form_parts me k_me k5me
  have glme := eLong k_me k5me
  have fpo := form_parts o k_o k5o
  have glo := eLong k_o k5o
  intro n9
  induction n9 with
  | zero =>
    intro p J B hJ p0 hv hr hmeas
    have fo : B (o + 1) = A (o + 1) := hJ.2.2.2 (o + 1) (ctn1 (by omega)) trivial
    exfalso
    omega
  | succ n9 ih =>
    intro p J B hJ p0 hv hr hmeas
    have fo : B (o + 1) = A (o + 1) := hJ.2.2.2 (o + 1) (ctn1 (by omega)) trivial
    refine jt_iload_n d_FO_add_2 rfl ?_
    refine jt_bipush d_FO_add_3 (by omega) ?_
    refine jt_icmp_ge (t := 29) d_FO_add_5 rfl (by unfold jRi; omega) (by unfold jRi; omega) (fun c101 => ?_) (fun c101 => ?_)
    · skip
      exact cm_vret d_FO_add_29 rfl (⟨rfl, hJ, fun z a c d => hv z a (by omega) d⟩)
    · skip
      refine jt_aload_n d_FO_add_8 rfl ?_
      refine cm_get (k := me) (v := .ref (b + (me + 1))) d_FO_add_9 FO_f11 k_me (cc_5 k5me) rfl ?_
      refine jt_iload_n d_FO_add_12 rfl ?_
      refine jt_dup2 d_FO_add_13 rfl rfl ?_
      refine cm_ld1 (k := me + 1) (n := 13) (v := (B ((me + 1))) p) d_FO_add_14 fpme.2.2 fpme.1 fpme.2.1 (by omega) (by omega) (by omega) rfl ?_
      refine jt_topl (fun v102 ev102 => ?_)
      have bv102 : -9223372036854775808 ≤ v102 ∧ v102 ≤ 9223372036854775807 := by have q9 := hJ.2.1 (me + 1) p; rw [glme.1, glme.2] at q9; rw [ev102]; exact q9
      rw [hr p (by omega)] at ev102
      refine jt_aload_n d_FO_add_15 rfl ?_
      refine cm_get (k := o) (v := .ref (b + (o + 1))) d_FO_add_16 FO_f11 k_o (cc_5 k5o) rfl ?_
      refine jt_iload_n d_FO_add_19 rfl ?_
      refine cm_ld1 (k := o + 1) (n := 13) (v := (B ((o + 1))) p) d_FO_add_20 fpo.2.2 fpo.1 fpo.2.1 (by omega) (by omega) (by omega) rfl ?_
      refine jt_topl (fun v103 ev103 => ?_)
      have bv103 : -9223372036854775808 ≤ v103 ∧ v103 ≤ 9223372036854775807 := by have q9 := hJ.2.1 (o + 1) p; rw [glo.1, glo.2] at q9; rw [ev103]; exact q9
      rw [fo] at ev103
      refine jt_ladd d_FO_add_21 ?_
      refine jt_topln (fun v104 bv104 ev104 => ?_)
      refine cm_st1 (k := me + 1) (n := 13) (v := v104) d_FO_add_22 fpme.2.2 fpme.1 fpme.2.1 (by omega) (by omega) (by omega) ?_
      refine cm_nmA (fun B105 eB105 => ?_)
      have p106 : cPx [] [me + 1] I A (J) B105 := by rw [eB105]; exact cPx.A (me + 1) _ hJ (Or.inl ctn1s) (by rw [glme.1, glme.2]; exact gju (fun z9 => by have q9 := hJ.2.1 (me + 1) z9; rw [glme.1, glme.2] at q9; exact q9) (show -9223372036854775808 ≤ v104 ∧ v104 ≤ 9223372036854775807 by omega))
      refine jt_iinc (L' := [(0, .ref (b + me)), (1, .ref (b + o)), (2, .int (jI (p + 1)))]) d_FO_add_23 rfl (Nat.le_of_ble_eq_true rfl) rfl ?_
      refine jt_goto (t := 2) d_FO_add_26 rfl ?_
      exact ih (p + 1) J B105 p106 (by omega) (fun z a c d9 => by rcases Classical.em (z = p) with e9 | e9; exact (by rw [e9, (fo_st eB105).1]; rw [e9] at d9; unfold jRl at d9; omega); exact (by rw [(fo_st eB105).2 z e9]; exact hv z a (by omega) d9)) (fun z c => by rw [(fo_st eB105).2 z (by omega)]; exact hr z (by omega)) (by omega)
set_option maxRecDepth 100000 in
set_option maxHeartbeats 4000000 in
theorem v_FO_add_x (G : jG) (d b : Nat) (me : Nat) (o : Nat) (I : Nat → Nat → Int) (A : Nat → Int → Int) (hI : cSI I) (hA : cSA A) (k_me : me < 472) (k5me : ck me = 5) (k_o : o < 472) (k5o : ck o = 5) (hne : me ≠ o) : cct G Y_FO_add d b [.ref (b + me), .ref (b + o)] I A (fun (rv : Option Value) (I2 : Nat → Nat → Int) (A2 : Nat → Int → Int) => rv = none ∧ cPx [] [me + 1] I A I2 A2 ∧ ∀ z, 0 ≤ z → z < 13 → jRl (A (me + 1) z + A (o + 1) z) → A2 (me + 1) z = A (me + 1) z + A (o + 1) z) := by
  refine cct_of (by decide) (Nat.le_of_ble_eq_true rfl) (fun f0 sz => ?_)
  show jt _ 0 [(0, .ref (b + me)), (1, .ref (b + o))] [] _ _ _ _
  have fpme := form_parts me k_me k5me
  have glme := eLong k_me k5me
  have fpo := form_parts o k_o k5o
  have glo := eLong k_o k5o
  have hz0 : cPx [] [me + 1] I A I A := cPx.refl hI hA
  refine jt_iconst d_FO_add_0 ?_
  refine jt_istore_n (L' := [(0, .ref (b + me)), (1, .ref (b + o)), (2, .int (jI 0))]) d_FO_add_1 (Nat.le_of_ble_eq_true rfl) rfl ?_
  exact l2_FO_add_xv G d b me o I A hI hA k_me k5me k_o k5o hne f0 sz  14 0 I A hz0 (by omega) (fun z a c _ => by omega) (fun z _ => rfl) (by omega)
set_option maxRecDepth 100000 in
set_option maxHeartbeats 4000000 in
theorem l2_FO_subtract_xv (G : jG) (d b : Nat) (me : Nat) (o : Nat) (I : Nat → Nat → Int) (A : Nat → Int → Int) (hI : cSI I) (hA : cSA A) (k_me : me < 472) (k5me : ck me = 5) (k_o : o < 472) (k5o : ck o = 5) (hne : me ≠ o) (f0 : jF) (sz : Nat)   : ∀ (n9 : Nat) (p : Int) (J : Nat → Nat → Int) (B : Nat → Int → Int), cPx [] [me + 1] I A J B → (0 ≤ p ∧ p ≤ 13) → (∀ z, 0 ≤ z → z < p → jRl (A (me + 1) z - A (o + 1) z) → B (me + 1) z = A (me + 1) z - A (o + 1) z) → (∀ z, p ≤ z → B (me + 1) z = A (me + 1) z) → 13 - p < (n9 : Int) → jt (jm G Y_FO_subtract (gR d) (cQ b f0 sz (fun (rv : Option Value) (I2 : Nat → Nat → Int) (A2 : Nat → Int → Int) => rv = none ∧ cPx [] [me + 1] I A I2 A2 ∧ ∀ z, 0 ≤ z → z < 13 → jRl (A (me + 1) z - A (o + 1) z) → A2 (me + 1) z = A (me + 1) z - A (o + 1) z))) 2 [(0, .ref (b + me)), (1, .ref (b + o)), (2, .int (jI p))] [] (cmf b f0 J B) sz 0 0 := by
  have fpme := form_parts me k_me k5me
  have glme := eLong k_me k5me
  have fpo := form_parts o k_o k5o
  have glo := eLong k_o k5o
  intro n9
  induction n9 with
  | zero =>
    intro p J B hJ p0 hv hr hmeas
    have fo : B (o + 1) = A (o + 1) := hJ.2.2.2 (o + 1) (ctn1 (by omega)) trivial
    exfalso
    omega
  | succ n9 ih =>
    intro p J B hJ p0 hv hr hmeas
    have fo : B (o + 1) = A (o + 1) := hJ.2.2.2 (o + 1) (ctn1 (by omega)) trivial
    refine jt_iload_n d_FO_subtract_2 rfl ?_
    refine jt_bipush d_FO_subtract_3 (by omega) ?_
    refine jt_icmp_ge (t := 29) d_FO_subtract_5 rfl (by unfold jRi; omega) (by unfold jRi; omega) (fun c101 => ?_) (fun c101 => ?_)
    · skip
      exact cm_vret d_FO_subtract_29 rfl (⟨rfl, hJ, fun z a c d => hv z a (by omega) d⟩)
    · skip
      refine jt_aload_n d_FO_subtract_8 rfl ?_
      refine cm_get (k := me) (v := .ref (b + (me + 1))) d_FO_subtract_9 FO_f11 k_me (cc_5 k5me) rfl ?_
      refine jt_iload_n d_FO_subtract_12 rfl ?_
      refine jt_dup2 d_FO_subtract_13 rfl rfl ?_
      refine cm_ld1 (k := me + 1) (n := 13) (v := (B ((me + 1))) p) d_FO_subtract_14 fpme.2.2 fpme.1 fpme.2.1 (by omega) (by omega) (by omega) rfl ?_
      refine jt_topl (fun v102 ev102 => ?_)
      have bv102 : -9223372036854775808 ≤ v102 ∧ v102 ≤ 9223372036854775807 := by have q9 := hJ.2.1 (me + 1) p; rw [glme.1, glme.2] at q9; rw [ev102]; exact q9
      rw [hr p (by omega)] at ev102
      refine jt_aload_n d_FO_subtract_15 rfl ?_
      refine cm_get (k := o) (v := .ref (b + (o + 1))) d_FO_subtract_16 FO_f11 k_o (cc_5 k5o) rfl ?_
      refine jt_iload_n d_FO_subtract_19 rfl ?_
      refine cm_ld1 (k := o + 1) (n := 13) (v := (B ((o + 1))) p) d_FO_subtract_20 fpo.2.2 fpo.1 fpo.2.1 (by omega) (by omega) (by omega) rfl ?_
      refine jt_topl (fun v103 ev103 => ?_)
      have bv103 : -9223372036854775808 ≤ v103 ∧ v103 ≤ 9223372036854775807 := by have q9 := hJ.2.1 (o + 1) p; rw [glo.1, glo.2] at q9; rw [ev103]; exact q9
      rw [fo] at ev103
      refine jt_lsub d_FO_subtract_21 ?_
      refine jt_topln (fun v104 bv104 ev104 => ?_)
      refine cm_st1 (k := me + 1) (n := 13) (v := v104) d_FO_subtract_22 fpme.2.2 fpme.1 fpme.2.1 (by omega) (by omega) (by omega) ?_
      refine cm_nmA (fun B105 eB105 => ?_)
      have p106 : cPx [] [me + 1] I A (J) B105 := by rw [eB105]; exact cPx.A (me + 1) _ hJ (Or.inl ctn1s) (by rw [glme.1, glme.2]; exact gju (fun z9 => by have q9 := hJ.2.1 (me + 1) z9; rw [glme.1, glme.2] at q9; exact q9) (show -9223372036854775808 ≤ v104 ∧ v104 ≤ 9223372036854775807 by omega))
      refine jt_iinc (L' := [(0, .ref (b + me)), (1, .ref (b + o)), (2, .int (jI (p + 1)))]) d_FO_subtract_23 rfl (Nat.le_of_ble_eq_true rfl) rfl ?_
      refine jt_goto (t := 2) d_FO_subtract_26 rfl ?_
      exact ih (p + 1) J B105 p106 (by omega) (fun z a c d9 => by rcases Classical.em (z = p) with e9 | e9; exact (by rw [e9, (fo_st eB105).1]; rw [e9] at d9; unfold jRl at d9; omega); exact (by rw [(fo_st eB105).2 z e9]; exact hv z a (by omega) d9)) (fun z c => by rw [(fo_st eB105).2 z (by omega)]; exact hr z (by omega)) (by omega)
set_option maxRecDepth 100000 in
set_option maxHeartbeats 4000000 in
theorem v_FO_subtract_x (G : jG) (d b : Nat) (me : Nat) (o : Nat) (I : Nat → Nat → Int) (A : Nat → Int → Int) (hI : cSI I) (hA : cSA A) (k_me : me < 472) (k5me : ck me = 5) (k_o : o < 472) (k5o : ck o = 5) (hne : me ≠ o) : cct G Y_FO_subtract d b [.ref (b + me), .ref (b + o)] I A (fun (rv : Option Value) (I2 : Nat → Nat → Int) (A2 : Nat → Int → Int) => rv = none ∧ cPx [] [me + 1] I A I2 A2 ∧ ∀ z, 0 ≤ z → z < 13 → jRl (A (me + 1) z - A (o + 1) z) → A2 (me + 1) z = A (me + 1) z - A (o + 1) z) := by
  refine cct_of (by decide) (Nat.le_of_ble_eq_true rfl) (fun f0 sz => ?_)
  show jt _ 0 [(0, .ref (b + me)), (1, .ref (b + o))] [] _ _ _ _
  have fpme := form_parts me k_me k5me
  have glme := eLong k_me k5me
  have fpo := form_parts o k_o k5o
  have glo := eLong k_o k5o
  have hz0 : cPx [] [me + 1] I A I A := cPx.refl hI hA
  refine jt_iconst d_FO_subtract_0 ?_
  refine jt_istore_n (L' := [(0, .ref (b + me)), (1, .ref (b + o)), (2, .int (jI 0))]) d_FO_subtract_1 (Nat.le_of_ble_eq_true rfl) rfl ?_
  exact l2_FO_subtract_xv G d b me o I A hI hA k_me k5me k_o k5o hne f0 sz  14 0 I A hz0 (by omega) (fun z a c _ => by omega) (fun z _ => rfl) (by omega)

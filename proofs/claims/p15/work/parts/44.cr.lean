set_option maxRecDepth 100000 in
set_option maxHeartbeats 4000000 in
theorem v_TR_isKind (G : jG) (d b : Nat) (q : Int) (k : Int) (I : Nat → Nat → Int) (A : Nat → Int → Int) (hI : cSI I) (hA : cSA A) (hq : -2147483648 ≤ q ∧ q ≤ 2147483647) (hk : -2147483648 ≤ k ∧ k ≤ 2147483647) : cct G Y_TR_isKind d b [.ref (b + 39), .int (jI q), .int (jI k)] I A (fun (rv : Option Value) (I2 : Nat → Nat → Int) (A2 : Nat → Int → Int) => ∃ y : Int, rv = some (.int (jI y)) ∧ (0 ≤ y ∧ y ≤ 1) ∧ cPo [] [] I A I2 A2 ∧ (y = 1 → 0 ≤ q ∧ q < I 39 3 ∧ A 40 q = k)) := by
  refine cct_of (by decide) (Nat.le_of_ble_eq_true rfl) (fun f0 sz => ?_)
  show jt _ 0 [(0, .ref (b + 39)), (1, .int (jI q)), (2, .int (jI k))] [] _ _ _ _
  have hz0 : cPo [] [] I A I A := cPo.refl hI hA
  refine jt_iload_n d_TR_isKind_0 rfl ?_
  refine jt_if_lt (t := 26) d_TR_isKind_1 rfl (by unfold jRi; omega) (fun c1 => ?_) (fun c1 => ?_)
  · skip
    refine jt_iconst d_TR_isKind_26 ?_
    exact cm_ret d_TR_isKind_27 rfl (jnz (by omega)) (⟨0, rfl, by omega, hz0, fun z => by omega⟩)
  · skip
    refine jt_iload_n d_TR_isKind_4 rfl ?_
    refine jt_aload_n d_TR_isKind_5 rfl ?_
    refine cm_get (k := 39) (v := .int (jI (I 39 3))) d_TR_isKind_6 TR_f21 (by decide) (cc_1 rfl) rfl ?_
    have rb2 : 0 ≤ I 39 3 ∧ I 39 3 ≤ 300 := hz0.1 39 3
    refine jt_icmp_ge (t := 26) d_TR_isKind_9 rfl (by unfold jRi; omega) (by unfold jRi; omega) (fun c3 => ?_) (fun c3 => ?_)
    · skip
      refine jt_iconst d_TR_isKind_26 ?_
      exact cm_ret d_TR_isKind_27 rfl (jnz (by omega)) (⟨0, rfl, by omega, hz0, fun z => by omega⟩)
    · skip
      refine jt_aload_n d_TR_isKind_12 rfl ?_
      refine cm_get (k := 39) (v := .ref (b + 40)) d_TR_isKind_13 TR_f9 (by decide) (cc_1 rfl) rfl ?_
      refine jt_iload_n d_TR_isKind_16 rfl ?_
      refine cm_ld0 (k := 40) (n := 300) (v := (A 40) q) d_TR_isKind_17 (by decide) rfl rfl (by omega) (by omega) (by omega) rfl ?_
      refine jt_topi (fun v4 ev4 => ?_)
      have bv4 : -2147483648 ≤ v4 ∧ v4 ≤ 2147483647 := by rw [ev4]; exact hz0.2.1 40 q
      refine jt_iload_n d_TR_isKind_18 rfl ?_
      refine jt_icmp_ne (t := 26) d_TR_isKind_19 rfl (by unfold jRi; omega) (by unfold jRi; omega) (fun c5 => ?_) (fun c5 => ?_)
      · skip
        refine jt_iconst d_TR_isKind_26 ?_
        exact cm_ret d_TR_isKind_27 rfl (jnz (by omega)) (⟨0, rfl, by omega, hz0, fun z => by omega⟩)
      · skip
        refine jt_iconst d_TR_isKind_22 ?_
        refine jt_goto (t := 27) d_TR_isKind_23 rfl ?_
        exact cm_ret d_TR_isKind_27 rfl (jnz (by omega)) (⟨1, rfl, by omega, hz0, fun z => by omega⟩)
set_option maxRecDepth 100000 in
set_option maxHeartbeats 4000000 in
theorem v_TR_isWord (G : jG) (d b : Nat) (q : Int) (k : Int) (I : Nat → Nat → Int) (A : Nat → Int → Int) (hI : cSI I) (hA : cSA A) (hq : -2147483648 ≤ q ∧ q ≤ 2147483647) (hk : -2147483648 ≤ k ∧ k ≤ 2147483647) : cct G Y_TR_isWord d b [.ref (b + 39), .int (jI q), .int (jI k)] I A (fun (rv : Option Value) (I2 : Nat → Nat → Int) (A2 : Nat → Int → Int) => ∃ y : Int, rv = some (.int (jI y)) ∧ (0 ≤ y ∧ y ≤ 1) ∧ cPo [] [] I A I2 A2 ∧ (y = 1 → 0 ≤ q ∧ q < I 39 3)) := by
  refine cct_of (by decide) (Nat.le_of_ble_eq_true rfl) (fun f0 sz => ?_)
  show jt _ 0 [(0, .ref (b + 39)), (1, .int (jI q)), (2, .int (jI k))] [] _ _ _ _
  have hz0 : cPo [] [] I A I A := cPo.refl hI hA
  refine jt_iload_n d_TR_isWord_0 rfl ?_
  refine jt_if_lt (t := 36) d_TR_isWord_1 rfl (by unfold jRi; omega) (fun c1 => ?_) (fun c1 => ?_)
  · skip
    refine jt_iconst d_TR_isWord_36 ?_
    exact cm_ret d_TR_isWord_37 rfl (jnz (by omega)) (⟨0, rfl, by omega, hz0, fun z => by omega⟩)
  · skip
    refine jt_iload_n d_TR_isWord_4 rfl ?_
    refine jt_aload_n d_TR_isWord_5 rfl ?_
    refine cm_get (k := 39) (v := .int (jI (I 39 3))) d_TR_isWord_6 TR_f21 (by decide) (cc_1 rfl) rfl ?_
    have rb2 : 0 ≤ I 39 3 ∧ I 39 3 ≤ 300 := hz0.1 39 3
    refine jt_icmp_ge (t := 36) d_TR_isWord_9 rfl (by unfold jRi; omega) (by unfold jRi; omega) (fun c3 => ?_) (fun c3 => ?_)
    · skip
      refine jt_iconst d_TR_isWord_36 ?_
      exact cm_ret d_TR_isWord_37 rfl (jnz (by omega)) (⟨0, rfl, by omega, hz0, fun z => by omega⟩)
    · skip
      refine jt_aload_n d_TR_isWord_12 rfl ?_
      refine cm_get (k := 39) (v := .ref (b + 40)) d_TR_isWord_13 TR_f9 (by decide) (cc_1 rfl) rfl ?_
      refine jt_iload_n d_TR_isWord_16 rfl ?_
      refine cm_ld0 (k := 40) (n := 300) (v := (A 40) q) d_TR_isWord_17 (by decide) rfl rfl (by omega) (by omega) (by omega) rfl ?_
      refine jt_topi (fun v4 ev4 => ?_)
      have bv4 : -2147483648 ≤ v4 ∧ v4 ≤ 2147483647 := by rw [ev4]; exact hz0.2.1 40 q
      refine jt_iconst d_TR_isWord_18 ?_
      refine jt_icmp_ne (t := 36) d_TR_isWord_19 rfl (by unfold jRi; omega) (by unfold jRi; omega) (fun c5 => ?_) (fun c5 => ?_)
      · skip
        refine jt_iconst d_TR_isWord_36 ?_
        exact cm_ret d_TR_isWord_37 rfl (jnz (by omega)) (⟨0, rfl, by omega, hz0, fun z => by omega⟩)
      · skip
        refine jt_aload_n d_TR_isWord_22 rfl ?_
        refine cm_get (k := 39) (v := .ref (b + 41)) d_TR_isWord_23 TR_f15 (by decide) (cc_1 rfl) rfl ?_
        refine jt_iload_n d_TR_isWord_26 rfl ?_
        refine cm_ld0 (k := 41) (n := 300) (v := (A 41) q) d_TR_isWord_27 (by decide) rfl rfl (by omega) (by omega) (by omega) rfl ?_
        refine jt_topi (fun v6 ev6 => ?_)
        have bv6 : -2147483648 ≤ v6 ∧ v6 ≤ 2147483647 := by rw [ev6]; exact hz0.2.1 41 q
        refine jt_iload_n d_TR_isWord_28 rfl ?_
        refine jt_icmp_ne (t := 36) d_TR_isWord_29 rfl (by unfold jRi; omega) (by unfold jRi; omega) (fun c7 => ?_) (fun c7 => ?_)
        · skip
          refine jt_iconst d_TR_isWord_36 ?_
          exact cm_ret d_TR_isWord_37 rfl (jnz (by omega)) (⟨0, rfl, by omega, hz0, fun z => by omega⟩)
        · skip
          refine jt_iconst d_TR_isWord_32 ?_
          refine jt_goto (t := 37) d_TR_isWord_33 rfl ?_
          exact cm_ret d_TR_isWord_37 rfl (jnz (by omega)) (⟨1, rfl, by omega, hz0, fun z => by omega⟩)
set_option maxRecDepth 100000 in
set_option maxHeartbeats 4000000 in
theorem v_TR_add_1 (G : jG) (d b : Nat) (k : Int) (v : Int) (e : Int) (I : Nat → Nat → Int) (A : Nat → Int → Int) (hI : cSI I) (hA : cSA A) (hk : -2147483648 ≤ k ∧ k ≤ 2147483647) (hv : -2147483648 ≤ v ∧ v ≤ 2147483647) (he : -2147483648 ≤ e ∧ e ≤ 2147483647) : cct G Y_TR_add d b [.ref (b + 1), .int (jI k), .int (jI v), .int (jI e)] I A (fun (rv : Option Value) (I2 : Nat → Nat → Int) (A2 : Nat → Int → Int) => rv = none ∧ cPo [19] [2, 3, 4] I A I2 A2 ∧ (cTok A → gtok k v → cTok A2) ∧ (I 1 3 < 120 → I2 1 3 = I 1 3 + 1 ∧ A2 2 = ju (A 2) (I 1 3) k ∧ A2 3 = ju (A 3) (I 1 3) v)) := by
  refine cct_of (by decide) (Nat.le_of_ble_eq_true rfl) (fun f0 sz => ?_)
  show jt _ 0 [(0, .ref (b + 1)), (1, .int (jI k)), (2, .int (jI v)), (3, .int (jI e))] [] _ _ _ _
  have hz0 : cPo [19] [2, 3, 4] I A I A := cPo.refl hI hA
  refine jt_aload_n d_TR_add_0 rfl ?_
  refine cm_get (k := 1) (v := .int (jI (I 1 3))) d_TR_add_1 TR_f21 (by decide) (cc_1 rfl) rfl ?_
  have rb1 : 0 ≤ I 1 3 ∧ I 1 3 ≤ 120 := hz0.1 1 3
  refine jt_aload_n d_TR_add_4 rfl ?_
  refine cm_get (k := 1) (v := .ref (b + 2)) d_TR_add_5 TR_f9 (by decide) (cc_1 rfl) rfl ?_
  refine cm_len (k := 2) (n := 120) d_TR_add_8 jTy_0 (by decide) (cc_8 rfl rfl) ?_
  refine jt_icmp_ge (t := 52) d_TR_add_9 rfl (by unfold jRi; omega) (by unfold jRi; omega) (fun c2 => ?_) (fun c2 => ?_)
  · skip
    exact cm_vret d_TR_add_52 rfl (⟨rfl, hz0, fun z _ => z, fun z => by omega⟩)
  · skip
    refine jt_aload_n d_TR_add_12 rfl ?_
    refine cm_get (k := 1) (v := .ref (b + 2)) d_TR_add_13 TR_f9 (by decide) (cc_1 rfl) rfl ?_
    refine jt_aload_n d_TR_add_16 rfl ?_
    refine cm_get (k := 1) (v := .int (jI (I 1 3))) d_TR_add_17 TR_f21 (by decide) (cc_1 rfl) rfl ?_
    refine jt_iload_n d_TR_add_20 rfl ?_
    refine cm_st0 (k := 2) (n := 120) (v := k) d_TR_add_21 (by decide) rfl rfl (by omega) (by omega) (by omega) ?_
    have p3 := cPo.A 2 (ju (A 2) (I 1 3) k) hz0 (Or.inl rfl) (gju (hz0.2.1 2) (show -2147483648 ≤ k ∧ k ≤ 2147483647 by omega))
    refine jt_aload_n d_TR_add_22 rfl ?_
    refine cm_get (k := 1) (v := .ref (b + 3)) d_TR_add_23 TR_f15 (by decide) (cc_1 rfl) rfl ?_
    refine jt_aload_n d_TR_add_26 rfl ?_
    refine cm_get (k := 1) (v := .int (jI (I 1 3))) d_TR_add_27 TR_f21 (by decide) (cc_1 rfl) rfl ?_
    refine jt_iload_n d_TR_add_30 rfl ?_
    refine cm_st0 (k := 3) (n := 120) (v := v) d_TR_add_31 (by decide) rfl rfl (by omega) (by omega) (by omega) ?_
    have p4 := cPo.A 3 (ju (A 3) (I 1 3) v) p3 (Or.inl rfl) (gju (p3.2.1 3) (show -2147483648 ≤ v ∧ v ≤ 2147483647 by omega))
    refine jt_aload_n d_TR_add_32 rfl ?_
    refine cm_get (k := 1) (v := .ref (b + 4)) d_TR_add_33 TR_f18 (by decide) (cc_1 rfl) rfl ?_
    refine jt_aload_n d_TR_add_36 rfl ?_
    refine cm_get (k := 1) (v := .int (jI (I 1 3))) d_TR_add_37 TR_f21 (by decide) (cc_1 rfl) rfl ?_
    refine jt_iload_n d_TR_add_40 rfl ?_
    refine cm_st0 (k := 4) (n := 120) (v := e) d_TR_add_41 (by decide) rfl rfl (by omega) (by omega) (by omega) ?_
    have p5 := cPo.A 4 (ju (A 4) (I 1 3) e) p4 (Or.inl rfl) (gju (p4.2.1 4) (show -2147483648 ≤ e ∧ e ≤ 2147483647 by omega))
    refine jt_aload_n d_TR_add_42 rfl ?_
    refine jt_dup d_TR_add_43 rfl ?_
    refine cm_get (k := 1) (v := .int (jI (I 1 3))) d_TR_add_44 TR_f21 (by decide) (cc_1 rfl) rfl ?_
    refine jt_iconst d_TR_add_47 ?_
    refine jt_iadd d_TR_add_48 ?_
    refine jt_topi (fun v6 ev6 => ?_)
    refine cm_put (k := 1) (j := 3) (v := v6) d_TR_add_49 (TR_w21 _ rfl) (by decide) (cc_1 rfl) rfl rfl (Nat.le_of_ble_eq_true rfl) rfl ?_
    have p7 := cPo.I 1 3 v6 p5 rfl (show 0 ≤ v6 ∧ v6 ≤ 120 by omega)
    exact cm_vret d_TR_add_52 rfl (⟨rfl, p7, fun z1 z2 => cTok_n 4 _ (cTok_w 1 _ _ z1 (ju_tok z2 (z1 1 rfl)) rfl) rfl, fun _ => ⟨show v6 = I 1 3 + 1 by omega, rfl, rfl⟩⟩)
set_option maxRecDepth 100000 in
set_option maxHeartbeats 4000000 in
theorem v_TR_add_8 (G : jG) (d b : Nat) (k : Int) (v : Int) (e : Int) (I : Nat → Nat → Int) (A : Nat → Int → Int) (hI : cSI I) (hA : cSA A) (hk : -2147483648 ≤ k ∧ k ≤ 2147483647) (hv : -2147483648 ≤ v ∧ v ≤ 2147483647) (he : -2147483648 ≤ e ∧ e ≤ 2147483647) : cct G Y_TR_add d b [.ref (b + 8), .int (jI k), .int (jI v), .int (jI e)] I A (fun (rv : Option Value) (I2 : Nat → Nat → Int) (A2 : Nat → Int → Int) => rv = none ∧ cPo [131] [9, 10, 11] I A I2 A2 ∧ (cTok A → gtok k v → cTok A2) ∧ (I 8 3 < 300 → I2 8 3 = I 8 3 + 1 ∧ A2 9 = ju (A 9) (I 8 3) k ∧ A2 10 = ju (A 10) (I 8 3) v)) := by
  refine cct_of (by decide) (Nat.le_of_ble_eq_true rfl) (fun f0 sz => ?_)
  show jt _ 0 [(0, .ref (b + 8)), (1, .int (jI k)), (2, .int (jI v)), (3, .int (jI e))] [] _ _ _ _
  have hz0 : cPo [131] [9, 10, 11] I A I A := cPo.refl hI hA
  refine jt_aload_n d_TR_add_0 rfl ?_
  refine cm_get (k := 8) (v := .int (jI (I 8 3))) d_TR_add_1 TR_f21 (by decide) (cc_1 rfl) rfl ?_
  have rb1 : 0 ≤ I 8 3 ∧ I 8 3 ≤ 300 := hz0.1 8 3
  refine jt_aload_n d_TR_add_4 rfl ?_
  refine cm_get (k := 8) (v := .ref (b + 9)) d_TR_add_5 TR_f9 (by decide) (cc_1 rfl) rfl ?_
  refine cm_len (k := 9) (n := 300) d_TR_add_8 jTy_0 (by decide) (cc_8 rfl rfl) ?_
  refine jt_icmp_ge (t := 52) d_TR_add_9 rfl (by unfold jRi; omega) (by unfold jRi; omega) (fun c2 => ?_) (fun c2 => ?_)
  · skip
    exact cm_vret d_TR_add_52 rfl (⟨rfl, hz0, fun z _ => z, fun z => by omega⟩)
  · skip
    refine jt_aload_n d_TR_add_12 rfl ?_
    refine cm_get (k := 8) (v := .ref (b + 9)) d_TR_add_13 TR_f9 (by decide) (cc_1 rfl) rfl ?_
    refine jt_aload_n d_TR_add_16 rfl ?_
    refine cm_get (k := 8) (v := .int (jI (I 8 3))) d_TR_add_17 TR_f21 (by decide) (cc_1 rfl) rfl ?_
    refine jt_iload_n d_TR_add_20 rfl ?_
    refine cm_st0 (k := 9) (n := 300) (v := k) d_TR_add_21 (by decide) rfl rfl (by omega) (by omega) (by omega) ?_
    have p3 := cPo.A 9 (ju (A 9) (I 8 3) k) hz0 (Or.inl rfl) (gju (hz0.2.1 9) (show -2147483648 ≤ k ∧ k ≤ 2147483647 by omega))
    refine jt_aload_n d_TR_add_22 rfl ?_
    refine cm_get (k := 8) (v := .ref (b + 10)) d_TR_add_23 TR_f15 (by decide) (cc_1 rfl) rfl ?_
    refine jt_aload_n d_TR_add_26 rfl ?_
    refine cm_get (k := 8) (v := .int (jI (I 8 3))) d_TR_add_27 TR_f21 (by decide) (cc_1 rfl) rfl ?_
    refine jt_iload_n d_TR_add_30 rfl ?_
    refine cm_st0 (k := 10) (n := 300) (v := v) d_TR_add_31 (by decide) rfl rfl (by omega) (by omega) (by omega) ?_
    have p4 := cPo.A 10 (ju (A 10) (I 8 3) v) p3 (Or.inl rfl) (gju (p3.2.1 10) (show -2147483648 ≤ v ∧ v ≤ 2147483647 by omega))
    refine jt_aload_n d_TR_add_32 rfl ?_
    refine cm_get (k := 8) (v := .ref (b + 11)) d_TR_add_33 TR_f18 (by decide) (cc_1 rfl) rfl ?_
    refine jt_aload_n d_TR_add_36 rfl ?_
    refine cm_get (k := 8) (v := .int (jI (I 8 3))) d_TR_add_37 TR_f21 (by decide) (cc_1 rfl) rfl ?_
    refine jt_iload_n d_TR_add_40 rfl ?_
    refine cm_st0 (k := 11) (n := 300) (v := e) d_TR_add_41 (by decide) rfl rfl (by omega) (by omega) (by omega) ?_
    have p5 := cPo.A 11 (ju (A 11) (I 8 3) e) p4 (Or.inl rfl) (gju (p4.2.1 11) (show -2147483648 ≤ e ∧ e ≤ 2147483647 by omega))
    refine jt_aload_n d_TR_add_42 rfl ?_
    refine jt_dup d_TR_add_43 rfl ?_
    refine cm_get (k := 8) (v := .int (jI (I 8 3))) d_TR_add_44 TR_f21 (by decide) (cc_1 rfl) rfl ?_
    refine jt_iconst d_TR_add_47 ?_
    refine jt_iadd d_TR_add_48 ?_
    refine jt_topi (fun v6 ev6 => ?_)
    refine cm_put (k := 8) (j := 3) (v := v6) d_TR_add_49 (TR_w21 _ rfl) (by decide) (cc_1 rfl) rfl rfl (Nat.le_of_ble_eq_true rfl) rfl ?_
    have p7 := cPo.I 8 3 v6 p5 rfl (show 0 ≤ v6 ∧ v6 ≤ 300 by omega)
    exact cm_vret d_TR_add_52 rfl (⟨rfl, p7, fun z1 z2 => cTok_n 11 _ (cTok_w 8 _ _ z1 (ju_tok z2 (z1 8 rfl)) rfl) rfl, fun _ => ⟨show v6 = I 8 3 + 1 by omega, rfl, rfl⟩⟩)
set_option maxRecDepth 100000 in
set_option maxHeartbeats 4000000 in
theorem v_TR_addAll_39_1 (G : jG) (d b : Nat) (p : Int) (q : Int) (I : Nat → Nat → Int) (A : Nat → Int → Int) (hI : cSI I) (hA : cSA A) (hp : 0 ≤ p ∧ p ≤ 100000) (hq : 0 ≤ q ∧ q ≤ 120) : cct G Y_TR_addAll (d + 1) b [.ref (b + 39), .ref (b + 1), .int (jI p), .int (jI q)] I A (fun (rv : Option Value) (I2 : Nat → Nat → Int) (A2 : Nat → Int → Int) => rv = none ∧ cPo [627] [40, 41, 42] I A I2 A2 ∧ (cTok A → cTok A2)) := by
  refine cct_of (by decide) (Nat.le_of_ble_eq_true rfl) (fun f0 sz => ?_)
  show jt _ 0 [(0, .ref (b + 39)), (1, .ref (b + 1)), (2, .int (jI p)), (3, .int (jI q))] [] _ _ _ _
  have hz0 : cPo [627] [40, 41, 42] I A I A := cPo.refl hI hA
  refine jt_iload_n d_TR_addAll_0 rfl ?_
  refine jt_iload_n d_TR_addAll_1 rfl ?_
  refine jt_isub d_TR_addAll_2 ?_
  refine jt_aload_n d_TR_addAll_3 rfl ?_
  refine cm_get (k := 39) (v := .ref (b + 40)) d_TR_addAll_4 TR_f9 (by decide) (cc_1 rfl) rfl ?_
  refine cm_len (k := 40) (n := 300) d_TR_addAll_7 jTy_0 (by decide) (cc_8 rfl rfl) ?_
  refine jt_aload_n d_TR_addAll_8 rfl ?_
  refine cm_get (k := 39) (v := .int (jI (I 39 3))) d_TR_addAll_9 TR_f21 (by decide) (cc_1 rfl) rfl ?_
  have rb1 : 0 ≤ I 39 3 ∧ I 39 3 ≤ 300 := hz0.1 39 3
  refine jt_isub d_TR_addAll_12 ?_
  refine jt_mmin d_TR_addAll_13 mw_min (by unfold jRi; omega) (by unfold jRi; omega) (show 1 ≤ d + 1 by omega) (show 0 + 13 ≤ (d + 1) * 40 by omega) (Nat.le_refl _) (Nat.le_refl _) ?_
  refine jt_topi (fun v2 ev2 => ?_)
  have mv2 : v2 ≤ q - p ∧ v2 ≤ 300 - (I 39 3) ∧ (v2 = q - p ∨ v2 = 300 - (I 39 3)) := by omega
  refine jt_istore (L' := [(0, .ref (b + 39)), (1, .ref (b + 1)), (2, .int (jI p)), (3, .int (jI q)), (4, .int (jI v2))]) d_TR_addAll_16 (Nat.le_of_ble_eq_true rfl) rfl ?_
  refine jt_iload_n d_TR_addAll_18 rfl ?_
  refine jt_if_lt (t := 92) d_TR_addAll_19 rfl (by unfold jRi; omega) (fun c3 => ?_) (fun c3 => ?_)
  · skip
    exact cm_vret d_TR_addAll_92 rfl (⟨rfl, hz0, fun z => z⟩)
  · skip
    refine jt_iload d_TR_addAll_22 rfl ?_
    refine jt_if_le (t := 92) d_TR_addAll_24 rfl (by unfold jRi; omega) (fun c4 => ?_) (fun c4 => ?_)
    · skip
      exact cm_vret d_TR_addAll_92 rfl (⟨rfl, hz0, fun z => z⟩)
    · skip
      refine jt_aload_n d_TR_addAll_27 rfl ?_
      refine cm_get (k := 1) (v := .ref (b + 2)) d_TR_addAll_28 TR_f9 (by decide) (cc_1 rfl) rfl ?_
      refine jt_iload_n d_TR_addAll_31 rfl ?_
      refine jt_aload_n d_TR_addAll_32 rfl ?_
      refine cm_get (k := 39) (v := .ref (b + 40)) d_TR_addAll_33 TR_f9 (by decide) (cc_1 rfl) rfl ?_
      refine jt_aload_n d_TR_addAll_36 rfl ?_
      refine cm_get (k := 39) (v := .int (jI (I 39 3))) d_TR_addAll_37 TR_f21 (by decide) (cc_1 rfl) rfl ?_
      refine jt_iload d_TR_addAll_40 rfl ?_
      refine cm_cpy (k0 := 2) (k1 := 40) (n0 := 120) (n1 := 300) (sp := p) (dp := (I 39 3)) (n := v2) d_TR_addAll_42 TR_ac34 (by decide) (by decide) rfl rfl rfl rfl (by omega) (by omega) (by omega) (by omega) (by omega) (by omega) (by omega) (show 1 ≤ d + 1 by omega) (by have e9 : nativeFrameWords "java/lang/System" "arraycopy" 5 = 7 := (by decide); rw [e9]; show 0 + (7 + 11) ≤ (d + 1) * 40; omega) ?_
      have p5 := cPo.A 40 (jcp (A 2) (A 40) p (I 39 3) v2) hz0 (Or.inl rfl) (jcp_r (hz0.2.1 2) (hz0.2.1 40))
      refine jt_aload_n d_TR_addAll_45 rfl ?_
      refine cm_get (k := 1) (v := .ref (b + 3)) d_TR_addAll_46 TR_f15 (by decide) (cc_1 rfl) rfl ?_
      refine jt_iload_n d_TR_addAll_49 rfl ?_
      refine jt_aload_n d_TR_addAll_50 rfl ?_
      refine cm_get (k := 39) (v := .ref (b + 41)) d_TR_addAll_51 TR_f15 (by decide) (cc_1 rfl) rfl ?_
      refine jt_aload_n d_TR_addAll_54 rfl ?_
      refine cm_get (k := 39) (v := .int (jI (I 39 3))) d_TR_addAll_55 TR_f21 (by decide) (cc_1 rfl) rfl ?_
      refine jt_iload d_TR_addAll_58 rfl ?_
      refine cm_cpy (k0 := 3) (k1 := 41) (n0 := 120) (n1 := 300) (sp := p) (dp := (I 39 3)) (n := v2) d_TR_addAll_60 TR_ac34 (by decide) (by decide) rfl rfl rfl rfl (by omega) (by omega) (by omega) (by omega) (by omega) (by omega) (by omega) (show 1 ≤ d + 1 by omega) (by have e9 : nativeFrameWords "java/lang/System" "arraycopy" 5 = 7 := (by decide); rw [e9]; show 0 + (7 + 11) ≤ (d + 1) * 40; omega) ?_
      have p6 := cPo.A 41 (jcp (A 3) (A 41) p (I 39 3) v2) p5 (Or.inl rfl) (jcp_r (p5.2.1 3) (p5.2.1 41))
      refine jt_aload_n d_TR_addAll_63 rfl ?_
      refine cm_get (k := 1) (v := .ref (b + 4)) d_TR_addAll_64 TR_f18 (by decide) (cc_1 rfl) rfl ?_
      refine jt_iload_n d_TR_addAll_67 rfl ?_
      refine jt_aload_n d_TR_addAll_68 rfl ?_
      refine cm_get (k := 39) (v := .ref (b + 42)) d_TR_addAll_69 TR_f18 (by decide) (cc_1 rfl) rfl ?_
      refine jt_aload_n d_TR_addAll_72 rfl ?_
      refine cm_get (k := 39) (v := .int (jI (I 39 3))) d_TR_addAll_73 TR_f21 (by decide) (cc_1 rfl) rfl ?_
      refine jt_iload d_TR_addAll_76 rfl ?_
      refine cm_cpy (k0 := 4) (k1 := 42) (n0 := 120) (n1 := 300) (sp := p) (dp := (I 39 3)) (n := v2) d_TR_addAll_78 TR_ac34 (by decide) (by decide) rfl rfl rfl rfl (by omega) (by omega) (by omega) (by omega) (by omega) (by omega) (by omega) (show 1 ≤ d + 1 by omega) (by have e9 : nativeFrameWords "java/lang/System" "arraycopy" 5 = 7 := (by decide); rw [e9]; show 0 + (7 + 11) ≤ (d + 1) * 40; omega) ?_
      have p7 := cPo.A 42 (jcp (A 4) (A 42) p (I 39 3) v2) p6 (Or.inl rfl) (jcp_r (p6.2.1 4) (p6.2.1 42))
      refine jt_aload_n d_TR_addAll_81 rfl ?_
      refine jt_dup d_TR_addAll_82 rfl ?_
      refine cm_get (k := 39) (v := .int (jI (I 39 3))) d_TR_addAll_83 TR_f21 (by decide) (cc_1 rfl) rfl ?_
      refine jt_iload d_TR_addAll_86 rfl ?_
      refine jt_iadd d_TR_addAll_88 ?_
      refine jt_topi (fun v8 ev8 => ?_)
      refine cm_put (k := 39) (j := 3) (v := v8) d_TR_addAll_89 (TR_w21 _ rfl) (by decide) (cc_1 rfl) rfl rfl (Nat.le_of_ble_eq_true rfl) rfl ?_
      have p9 := cPo.I 39 3 v8 p7 rfl (show 0 ≤ v8 ∧ v8 ≤ 300 by omega)
      exact cm_vret d_TR_addAll_92 rfl (⟨rfl, p9, fun z1 => cTok_n 42 _ (cTok_w 39 _ _ z1 (jcp_tok (z1 1 rfl) (z1 39 rfl)) rfl) rfl⟩)
set_option maxRecDepth 100000 in
set_option maxHeartbeats 4000000 in
theorem v_TR_addAll_8_39 (G : jG) (d b : Nat) (p : Int) (q : Int) (I : Nat → Nat → Int) (A : Nat → Int → Int) (hI : cSI I) (hA : cSA A) (hp : 0 ≤ p ∧ p ≤ 100000) (hq : 0 ≤ q ∧ q ≤ 300) : cct G Y_TR_addAll (d + 1) b [.ref (b + 8), .ref (b + 39), .int (jI p), .int (jI q)] I A (fun (rv : Option Value) (I2 : Nat → Nat → Int) (A2 : Nat → Int → Int) => rv = none ∧ cPo [131] [9, 10, 11] I A I2 A2 ∧ (cTok A → cTok A2)) := by
  refine cct_of (by decide) (Nat.le_of_ble_eq_true rfl) (fun f0 sz => ?_)
  show jt _ 0 [(0, .ref (b + 8)), (1, .ref (b + 39)), (2, .int (jI p)), (3, .int (jI q))] [] _ _ _ _
  have hz0 : cPo [131] [9, 10, 11] I A I A := cPo.refl hI hA
  refine jt_iload_n d_TR_addAll_0 rfl ?_
  refine jt_iload_n d_TR_addAll_1 rfl ?_
  refine jt_isub d_TR_addAll_2 ?_
  refine jt_aload_n d_TR_addAll_3 rfl ?_
  refine cm_get (k := 8) (v := .ref (b + 9)) d_TR_addAll_4 TR_f9 (by decide) (cc_1 rfl) rfl ?_
  refine cm_len (k := 9) (n := 300) d_TR_addAll_7 jTy_0 (by decide) (cc_8 rfl rfl) ?_
  refine jt_aload_n d_TR_addAll_8 rfl ?_
  refine cm_get (k := 8) (v := .int (jI (I 8 3))) d_TR_addAll_9 TR_f21 (by decide) (cc_1 rfl) rfl ?_
  have rb1 : 0 ≤ I 8 3 ∧ I 8 3 ≤ 300 := hz0.1 8 3
  refine jt_isub d_TR_addAll_12 ?_
  refine jt_mmin d_TR_addAll_13 mw_min (by unfold jRi; omega) (by unfold jRi; omega) (show 1 ≤ d + 1 by omega) (show 0 + 13 ≤ (d + 1) * 40 by omega) (Nat.le_refl _) (Nat.le_refl _) ?_
  refine jt_topi (fun v2 ev2 => ?_)
  have mv2 : v2 ≤ q - p ∧ v2 ≤ 300 - (I 8 3) ∧ (v2 = q - p ∨ v2 = 300 - (I 8 3)) := by omega
  refine jt_istore (L' := [(0, .ref (b + 8)), (1, .ref (b + 39)), (2, .int (jI p)), (3, .int (jI q)), (4, .int (jI v2))]) d_TR_addAll_16 (Nat.le_of_ble_eq_true rfl) rfl ?_
  refine jt_iload_n d_TR_addAll_18 rfl ?_
  refine jt_if_lt (t := 92) d_TR_addAll_19 rfl (by unfold jRi; omega) (fun c3 => ?_) (fun c3 => ?_)
  · skip
    exact cm_vret d_TR_addAll_92 rfl (⟨rfl, hz0, fun z => z⟩)
  · skip
    refine jt_iload d_TR_addAll_22 rfl ?_
    refine jt_if_le (t := 92) d_TR_addAll_24 rfl (by unfold jRi; omega) (fun c4 => ?_) (fun c4 => ?_)
    · skip
      exact cm_vret d_TR_addAll_92 rfl (⟨rfl, hz0, fun z => z⟩)
    · skip
      refine jt_aload_n d_TR_addAll_27 rfl ?_
      refine cm_get (k := 39) (v := .ref (b + 40)) d_TR_addAll_28 TR_f9 (by decide) (cc_1 rfl) rfl ?_
      refine jt_iload_n d_TR_addAll_31 rfl ?_
      refine jt_aload_n d_TR_addAll_32 rfl ?_
      refine cm_get (k := 8) (v := .ref (b + 9)) d_TR_addAll_33 TR_f9 (by decide) (cc_1 rfl) rfl ?_
      refine jt_aload_n d_TR_addAll_36 rfl ?_
      refine cm_get (k := 8) (v := .int (jI (I 8 3))) d_TR_addAll_37 TR_f21 (by decide) (cc_1 rfl) rfl ?_
      refine jt_iload d_TR_addAll_40 rfl ?_
      refine cm_cpy (k0 := 40) (k1 := 9) (n0 := 300) (n1 := 300) (sp := p) (dp := (I 8 3)) (n := v2) d_TR_addAll_42 TR_ac34 (by decide) (by decide) rfl rfl rfl rfl (by omega) (by omega) (by omega) (by omega) (by omega) (by omega) (by omega) (show 1 ≤ d + 1 by omega) (by have e9 : nativeFrameWords "java/lang/System" "arraycopy" 5 = 7 := (by decide); rw [e9]; show 0 + (7 + 11) ≤ (d + 1) * 40; omega) ?_
      have p5 := cPo.A 9 (jcp (A 40) (A 9) p (I 8 3) v2) hz0 (Or.inl rfl) (jcp_r (hz0.2.1 40) (hz0.2.1 9))
      refine jt_aload_n d_TR_addAll_45 rfl ?_
      refine cm_get (k := 39) (v := .ref (b + 41)) d_TR_addAll_46 TR_f15 (by decide) (cc_1 rfl) rfl ?_
      refine jt_iload_n d_TR_addAll_49 rfl ?_
      refine jt_aload_n d_TR_addAll_50 rfl ?_
      refine cm_get (k := 8) (v := .ref (b + 10)) d_TR_addAll_51 TR_f15 (by decide) (cc_1 rfl) rfl ?_
      refine jt_aload_n d_TR_addAll_54 rfl ?_
      refine cm_get (k := 8) (v := .int (jI (I 8 3))) d_TR_addAll_55 TR_f21 (by decide) (cc_1 rfl) rfl ?_
      refine jt_iload d_TR_addAll_58 rfl ?_
      refine cm_cpy (k0 := 41) (k1 := 10) (n0 := 300) (n1 := 300) (sp := p) (dp := (I 8 3)) (n := v2) d_TR_addAll_60 TR_ac34 (by decide) (by decide) rfl rfl rfl rfl (by omega) (by omega) (by omega) (by omega) (by omega) (by omega) (by omega) (show 1 ≤ d + 1 by omega) (by have e9 : nativeFrameWords "java/lang/System" "arraycopy" 5 = 7 := (by decide); rw [e9]; show 0 + (7 + 11) ≤ (d + 1) * 40; omega) ?_
      have p6 := cPo.A 10 (jcp (A 41) (A 10) p (I 8 3) v2) p5 (Or.inl rfl) (jcp_r (p5.2.1 41) (p5.2.1 10))
      refine jt_aload_n d_TR_addAll_63 rfl ?_
      refine cm_get (k := 39) (v := .ref (b + 42)) d_TR_addAll_64 TR_f18 (by decide) (cc_1 rfl) rfl ?_
      refine jt_iload_n d_TR_addAll_67 rfl ?_
      refine jt_aload_n d_TR_addAll_68 rfl ?_
      refine cm_get (k := 8) (v := .ref (b + 11)) d_TR_addAll_69 TR_f18 (by decide) (cc_1 rfl) rfl ?_
      refine jt_aload_n d_TR_addAll_72 rfl ?_
      refine cm_get (k := 8) (v := .int (jI (I 8 3))) d_TR_addAll_73 TR_f21 (by decide) (cc_1 rfl) rfl ?_
      refine jt_iload d_TR_addAll_76 rfl ?_
      refine cm_cpy (k0 := 42) (k1 := 11) (n0 := 300) (n1 := 300) (sp := p) (dp := (I 8 3)) (n := v2) d_TR_addAll_78 TR_ac34 (by decide) (by decide) rfl rfl rfl rfl (by omega) (by omega) (by omega) (by omega) (by omega) (by omega) (by omega) (show 1 ≤ d + 1 by omega) (by have e9 : nativeFrameWords "java/lang/System" "arraycopy" 5 = 7 := (by decide); rw [e9]; show 0 + (7 + 11) ≤ (d + 1) * 40; omega) ?_
      have p7 := cPo.A 11 (jcp (A 42) (A 11) p (I 8 3) v2) p6 (Or.inl rfl) (jcp_r (p6.2.1 42) (p6.2.1 11))
      refine jt_aload_n d_TR_addAll_81 rfl ?_
      refine jt_dup d_TR_addAll_82 rfl ?_
      refine cm_get (k := 8) (v := .int (jI (I 8 3))) d_TR_addAll_83 TR_f21 (by decide) (cc_1 rfl) rfl ?_
      refine jt_iload d_TR_addAll_86 rfl ?_
      refine jt_iadd d_TR_addAll_88 ?_
      refine jt_topi (fun v8 ev8 => ?_)
      refine cm_put (k := 8) (j := 3) (v := v8) d_TR_addAll_89 (TR_w21 _ rfl) (by decide) (cc_1 rfl) rfl rfl (Nat.le_of_ble_eq_true rfl) rfl ?_
      have p9 := cPo.I 8 3 v8 p7 rfl (show 0 ≤ v8 ∧ v8 ≤ 300 by omega)
      exact cm_vret d_TR_addAll_92 rfl (⟨rfl, p9, fun z1 => cTok_n 11 _ (cTok_w 8 _ _ z1 (jcp_tok (z1 39 rfl) (z1 8 rfl)) rfl) rfl⟩)
set_option maxRecDepth 100000 in
set_option maxHeartbeats 4000000 in
theorem v_TR_addAll_39_8 (G : jG) (d b : Nat) (p : Int) (q : Int) (I : Nat → Nat → Int) (A : Nat → Int → Int) (hI : cSI I) (hA : cSA A) (hp : 0 ≤ p ∧ p ≤ 100000) (hq : 0 ≤ q ∧ q ≤ 300) : cct G Y_TR_addAll (d + 1) b [.ref (b + 39), .ref (b + 8), .int (jI p), .int (jI q)] I A (fun (rv : Option Value) (I2 : Nat → Nat → Int) (A2 : Nat → Int → Int) => rv = none ∧ cPo [627] [40, 41, 42] I A I2 A2 ∧ (cTok A → cTok A2)) := by
  refine cct_of (by decide) (Nat.le_of_ble_eq_true rfl) (fun f0 sz => ?_)
  show jt _ 0 [(0, .ref (b + 39)), (1, .ref (b + 8)), (2, .int (jI p)), (3, .int (jI q))] [] _ _ _ _
  have hz0 : cPo [627] [40, 41, 42] I A I A := cPo.refl hI hA
  refine jt_iload_n d_TR_addAll_0 rfl ?_
  refine jt_iload_n d_TR_addAll_1 rfl ?_
  refine jt_isub d_TR_addAll_2 ?_
  refine jt_aload_n d_TR_addAll_3 rfl ?_
  refine cm_get (k := 39) (v := .ref (b + 40)) d_TR_addAll_4 TR_f9 (by decide) (cc_1 rfl) rfl ?_
  refine cm_len (k := 40) (n := 300) d_TR_addAll_7 jTy_0 (by decide) (cc_8 rfl rfl) ?_
  refine jt_aload_n d_TR_addAll_8 rfl ?_
  refine cm_get (k := 39) (v := .int (jI (I 39 3))) d_TR_addAll_9 TR_f21 (by decide) (cc_1 rfl) rfl ?_
  have rb1 : 0 ≤ I 39 3 ∧ I 39 3 ≤ 300 := hz0.1 39 3
  refine jt_isub d_TR_addAll_12 ?_
  refine jt_mmin d_TR_addAll_13 mw_min (by unfold jRi; omega) (by unfold jRi; omega) (show 1 ≤ d + 1 by omega) (show 0 + 13 ≤ (d + 1) * 40 by omega) (Nat.le_refl _) (Nat.le_refl _) ?_
  refine jt_topi (fun v2 ev2 => ?_)
  have mv2 : v2 ≤ q - p ∧ v2 ≤ 300 - (I 39 3) ∧ (v2 = q - p ∨ v2 = 300 - (I 39 3)) := by omega
  refine jt_istore (L' := [(0, .ref (b + 39)), (1, .ref (b + 8)), (2, .int (jI p)), (3, .int (jI q)), (4, .int (jI v2))]) d_TR_addAll_16 (Nat.le_of_ble_eq_true rfl) rfl ?_
  refine jt_iload_n d_TR_addAll_18 rfl ?_
  refine jt_if_lt (t := 92) d_TR_addAll_19 rfl (by unfold jRi; omega) (fun c3 => ?_) (fun c3 => ?_)
  · skip
    exact cm_vret d_TR_addAll_92 rfl (⟨rfl, hz0, fun z => z⟩)
  · skip
    refine jt_iload d_TR_addAll_22 rfl ?_
    refine jt_if_le (t := 92) d_TR_addAll_24 rfl (by unfold jRi; omega) (fun c4 => ?_) (fun c4 => ?_)
    · skip
      exact cm_vret d_TR_addAll_92 rfl (⟨rfl, hz0, fun z => z⟩)
    · skip
      refine jt_aload_n d_TR_addAll_27 rfl ?_
      refine cm_get (k := 8) (v := .ref (b + 9)) d_TR_addAll_28 TR_f9 (by decide) (cc_1 rfl) rfl ?_
      refine jt_iload_n d_TR_addAll_31 rfl ?_
      refine jt_aload_n d_TR_addAll_32 rfl ?_
      refine cm_get (k := 39) (v := .ref (b + 40)) d_TR_addAll_33 TR_f9 (by decide) (cc_1 rfl) rfl ?_
      refine jt_aload_n d_TR_addAll_36 rfl ?_
      refine cm_get (k := 39) (v := .int (jI (I 39 3))) d_TR_addAll_37 TR_f21 (by decide) (cc_1 rfl) rfl ?_
      refine jt_iload d_TR_addAll_40 rfl ?_
      refine cm_cpy (k0 := 9) (k1 := 40) (n0 := 300) (n1 := 300) (sp := p) (dp := (I 39 3)) (n := v2) d_TR_addAll_42 TR_ac34 (by decide) (by decide) rfl rfl rfl rfl (by omega) (by omega) (by omega) (by omega) (by omega) (by omega) (by omega) (show 1 ≤ d + 1 by omega) (by have e9 : nativeFrameWords "java/lang/System" "arraycopy" 5 = 7 := (by decide); rw [e9]; show 0 + (7 + 11) ≤ (d + 1) * 40; omega) ?_
      have p5 := cPo.A 40 (jcp (A 9) (A 40) p (I 39 3) v2) hz0 (Or.inl rfl) (jcp_r (hz0.2.1 9) (hz0.2.1 40))
      refine jt_aload_n d_TR_addAll_45 rfl ?_
      refine cm_get (k := 8) (v := .ref (b + 10)) d_TR_addAll_46 TR_f15 (by decide) (cc_1 rfl) rfl ?_
      refine jt_iload_n d_TR_addAll_49 rfl ?_
      refine jt_aload_n d_TR_addAll_50 rfl ?_
      refine cm_get (k := 39) (v := .ref (b + 41)) d_TR_addAll_51 TR_f15 (by decide) (cc_1 rfl) rfl ?_
      refine jt_aload_n d_TR_addAll_54 rfl ?_
      refine cm_get (k := 39) (v := .int (jI (I 39 3))) d_TR_addAll_55 TR_f21 (by decide) (cc_1 rfl) rfl ?_
      refine jt_iload d_TR_addAll_58 rfl ?_
      refine cm_cpy (k0 := 10) (k1 := 41) (n0 := 300) (n1 := 300) (sp := p) (dp := (I 39 3)) (n := v2) d_TR_addAll_60 TR_ac34 (by decide) (by decide) rfl rfl rfl rfl (by omega) (by omega) (by omega) (by omega) (by omega) (by omega) (by omega) (show 1 ≤ d + 1 by omega) (by have e9 : nativeFrameWords "java/lang/System" "arraycopy" 5 = 7 := (by decide); rw [e9]; show 0 + (7 + 11) ≤ (d + 1) * 40; omega) ?_
      have p6 := cPo.A 41 (jcp (A 10) (A 41) p (I 39 3) v2) p5 (Or.inl rfl) (jcp_r (p5.2.1 10) (p5.2.1 41))
      refine jt_aload_n d_TR_addAll_63 rfl ?_
      refine cm_get (k := 8) (v := .ref (b + 11)) d_TR_addAll_64 TR_f18 (by decide) (cc_1 rfl) rfl ?_
      refine jt_iload_n d_TR_addAll_67 rfl ?_
      refine jt_aload_n d_TR_addAll_68 rfl ?_
      refine cm_get (k := 39) (v := .ref (b + 42)) d_TR_addAll_69 TR_f18 (by decide) (cc_1 rfl) rfl ?_
      refine jt_aload_n d_TR_addAll_72 rfl ?_
      refine cm_get (k := 39) (v := .int (jI (I 39 3))) d_TR_addAll_73 TR_f21 (by decide) (cc_1 rfl) rfl ?_
      refine jt_iload d_TR_addAll_76 rfl ?_
      refine cm_cpy (k0 := 11) (k1 := 42) (n0 := 300) (n1 := 300) (sp := p) (dp := (I 39 3)) (n := v2) d_TR_addAll_78 TR_ac34 (by decide) (by decide) rfl rfl rfl rfl (by omega) (by omega) (by omega) (by omega) (by omega) (by omega) (by omega) (show 1 ≤ d + 1 by omega) (by have e9 : nativeFrameWords "java/lang/System" "arraycopy" 5 = 7 := (by decide); rw [e9]; show 0 + (7 + 11) ≤ (d + 1) * 40; omega) ?_
      have p7 := cPo.A 42 (jcp (A 11) (A 42) p (I 39 3) v2) p6 (Or.inl rfl) (jcp_r (p6.2.1 11) (p6.2.1 42))
      refine jt_aload_n d_TR_addAll_81 rfl ?_
      refine jt_dup d_TR_addAll_82 rfl ?_
      refine cm_get (k := 39) (v := .int (jI (I 39 3))) d_TR_addAll_83 TR_f21 (by decide) (cc_1 rfl) rfl ?_
      refine jt_iload d_TR_addAll_86 rfl ?_
      refine jt_iadd d_TR_addAll_88 ?_
      refine jt_topi (fun v8 ev8 => ?_)
      refine cm_put (k := 39) (j := 3) (v := v8) d_TR_addAll_89 (TR_w21 _ rfl) (by decide) (cc_1 rfl) rfl rfl (Nat.le_of_ble_eq_true rfl) rfl ?_
      have p9 := cPo.I 39 3 v8 p7 rfl (show 0 ≤ v8 ∧ v8 ≤ 300 by omega)
      exact cm_vret d_TR_addAll_92 rfl (⟨rfl, p9, fun z1 => cTok_n 42 _ (cTok_w 39 _ _ z1 (jcp_tok (z1 8 rfl) (z1 39 rfl)) rfl) rfl⟩)
set_option maxRecDepth 100000 in
set_option maxHeartbeats 4000000 in
theorem v_TR_addAll_14_1 (G : jG) (d b : Nat) (p : Int) (q : Int) (I : Nat → Nat → Int) (A : Nat → Int → Int) (hI : cSI I) (hA : cSA A) (hp : 0 ≤ p ∧ p ≤ 100000) (hq : 0 ≤ q ∧ q ≤ 120) : cct G Y_TR_addAll (d + 1) b [.ref (b + 14), .ref (b + 1), .int (jI p), .int (jI q)] I A (fun (rv : Option Value) (I2 : Nat → Nat → Int) (A2 : Nat → Int → Int) => rv = none ∧ cPo [227] [15, 16, 17] I A I2 A2 ∧ (cTok A → cTok A2)) := by
  refine cct_of (by decide) (Nat.le_of_ble_eq_true rfl) (fun f0 sz => ?_)
  show jt _ 0 [(0, .ref (b + 14)), (1, .ref (b + 1)), (2, .int (jI p)), (3, .int (jI q))] [] _ _ _ _
  have hz0 : cPo [227] [15, 16, 17] I A I A := cPo.refl hI hA
  refine jt_iload_n d_TR_addAll_0 rfl ?_
  refine jt_iload_n d_TR_addAll_1 rfl ?_
  refine jt_isub d_TR_addAll_2 ?_
  refine jt_aload_n d_TR_addAll_3 rfl ?_
  refine cm_get (k := 14) (v := .ref (b + 15)) d_TR_addAll_4 TR_f9 (by decide) (cc_1 rfl) rfl ?_
  refine cm_len (k := 15) (n := 40) d_TR_addAll_7 jTy_0 (by decide) (cc_8 rfl rfl) ?_
  refine jt_aload_n d_TR_addAll_8 rfl ?_
  refine cm_get (k := 14) (v := .int (jI (I 14 3))) d_TR_addAll_9 TR_f21 (by decide) (cc_1 rfl) rfl ?_
  have rb1 : 0 ≤ I 14 3 ∧ I 14 3 ≤ 40 := hz0.1 14 3
  refine jt_isub d_TR_addAll_12 ?_
  refine jt_mmin d_TR_addAll_13 mw_min (by unfold jRi; omega) (by unfold jRi; omega) (show 1 ≤ d + 1 by omega) (show 0 + 13 ≤ (d + 1) * 40 by omega) (Nat.le_refl _) (Nat.le_refl _) ?_
  refine jt_topi (fun v2 ev2 => ?_)
  have mv2 : v2 ≤ q - p ∧ v2 ≤ 40 - (I 14 3) ∧ (v2 = q - p ∨ v2 = 40 - (I 14 3)) := by omega
  refine jt_istore (L' := [(0, .ref (b + 14)), (1, .ref (b + 1)), (2, .int (jI p)), (3, .int (jI q)), (4, .int (jI v2))]) d_TR_addAll_16 (Nat.le_of_ble_eq_true rfl) rfl ?_
  refine jt_iload_n d_TR_addAll_18 rfl ?_
  refine jt_if_lt (t := 92) d_TR_addAll_19 rfl (by unfold jRi; omega) (fun c3 => ?_) (fun c3 => ?_)
  · skip
    exact cm_vret d_TR_addAll_92 rfl (⟨rfl, hz0, fun z => z⟩)
  · skip
    refine jt_iload d_TR_addAll_22 rfl ?_
    refine jt_if_le (t := 92) d_TR_addAll_24 rfl (by unfold jRi; omega) (fun c4 => ?_) (fun c4 => ?_)
    · skip
      exact cm_vret d_TR_addAll_92 rfl (⟨rfl, hz0, fun z => z⟩)
    · skip
      refine jt_aload_n d_TR_addAll_27 rfl ?_
      refine cm_get (k := 1) (v := .ref (b + 2)) d_TR_addAll_28 TR_f9 (by decide) (cc_1 rfl) rfl ?_
      refine jt_iload_n d_TR_addAll_31 rfl ?_
      refine jt_aload_n d_TR_addAll_32 rfl ?_
      refine cm_get (k := 14) (v := .ref (b + 15)) d_TR_addAll_33 TR_f9 (by decide) (cc_1 rfl) rfl ?_
      refine jt_aload_n d_TR_addAll_36 rfl ?_
      refine cm_get (k := 14) (v := .int (jI (I 14 3))) d_TR_addAll_37 TR_f21 (by decide) (cc_1 rfl) rfl ?_
      refine jt_iload d_TR_addAll_40 rfl ?_
      refine cm_cpy (k0 := 2) (k1 := 15) (n0 := 120) (n1 := 40) (sp := p) (dp := (I 14 3)) (n := v2) d_TR_addAll_42 TR_ac34 (by decide) (by decide) rfl rfl rfl rfl (by omega) (by omega) (by omega) (by omega) (by omega) (by omega) (by omega) (show 1 ≤ d + 1 by omega) (by have e9 : nativeFrameWords "java/lang/System" "arraycopy" 5 = 7 := (by decide); rw [e9]; show 0 + (7 + 11) ≤ (d + 1) * 40; omega) ?_
      have p5 := cPo.A 15 (jcp (A 2) (A 15) p (I 14 3) v2) hz0 (Or.inl rfl) (jcp_r (hz0.2.1 2) (hz0.2.1 15))
      refine jt_aload_n d_TR_addAll_45 rfl ?_
      refine cm_get (k := 1) (v := .ref (b + 3)) d_TR_addAll_46 TR_f15 (by decide) (cc_1 rfl) rfl ?_
      refine jt_iload_n d_TR_addAll_49 rfl ?_
      refine jt_aload_n d_TR_addAll_50 rfl ?_
      refine cm_get (k := 14) (v := .ref (b + 16)) d_TR_addAll_51 TR_f15 (by decide) (cc_1 rfl) rfl ?_
      refine jt_aload_n d_TR_addAll_54 rfl ?_
      refine cm_get (k := 14) (v := .int (jI (I 14 3))) d_TR_addAll_55 TR_f21 (by decide) (cc_1 rfl) rfl ?_
      refine jt_iload d_TR_addAll_58 rfl ?_
      refine cm_cpy (k0 := 3) (k1 := 16) (n0 := 120) (n1 := 40) (sp := p) (dp := (I 14 3)) (n := v2) d_TR_addAll_60 TR_ac34 (by decide) (by decide) rfl rfl rfl rfl (by omega) (by omega) (by omega) (by omega) (by omega) (by omega) (by omega) (show 1 ≤ d + 1 by omega) (by have e9 : nativeFrameWords "java/lang/System" "arraycopy" 5 = 7 := (by decide); rw [e9]; show 0 + (7 + 11) ≤ (d + 1) * 40; omega) ?_
      have p6 := cPo.A 16 (jcp (A 3) (A 16) p (I 14 3) v2) p5 (Or.inl rfl) (jcp_r (p5.2.1 3) (p5.2.1 16))
      refine jt_aload_n d_TR_addAll_63 rfl ?_
      refine cm_get (k := 1) (v := .ref (b + 4)) d_TR_addAll_64 TR_f18 (by decide) (cc_1 rfl) rfl ?_
      refine jt_iload_n d_TR_addAll_67 rfl ?_
      refine jt_aload_n d_TR_addAll_68 rfl ?_
      refine cm_get (k := 14) (v := .ref (b + 17)) d_TR_addAll_69 TR_f18 (by decide) (cc_1 rfl) rfl ?_
      refine jt_aload_n d_TR_addAll_72 rfl ?_
      refine cm_get (k := 14) (v := .int (jI (I 14 3))) d_TR_addAll_73 TR_f21 (by decide) (cc_1 rfl) rfl ?_
      refine jt_iload d_TR_addAll_76 rfl ?_
      refine cm_cpy (k0 := 4) (k1 := 17) (n0 := 120) (n1 := 40) (sp := p) (dp := (I 14 3)) (n := v2) d_TR_addAll_78 TR_ac34 (by decide) (by decide) rfl rfl rfl rfl (by omega) (by omega) (by omega) (by omega) (by omega) (by omega) (by omega) (show 1 ≤ d + 1 by omega) (by have e9 : nativeFrameWords "java/lang/System" "arraycopy" 5 = 7 := (by decide); rw [e9]; show 0 + (7 + 11) ≤ (d + 1) * 40; omega) ?_
      have p7 := cPo.A 17 (jcp (A 4) (A 17) p (I 14 3) v2) p6 (Or.inl rfl) (jcp_r (p6.2.1 4) (p6.2.1 17))
      refine jt_aload_n d_TR_addAll_81 rfl ?_
      refine jt_dup d_TR_addAll_82 rfl ?_
      refine cm_get (k := 14) (v := .int (jI (I 14 3))) d_TR_addAll_83 TR_f21 (by decide) (cc_1 rfl) rfl ?_
      refine jt_iload d_TR_addAll_86 rfl ?_
      refine jt_iadd d_TR_addAll_88 ?_
      refine jt_topi (fun v8 ev8 => ?_)
      refine cm_put (k := 14) (j := 3) (v := v8) d_TR_addAll_89 (TR_w21 _ rfl) (by decide) (cc_1 rfl) rfl rfl (Nat.le_of_ble_eq_true rfl) rfl ?_
      have p9 := cPo.I 14 3 v8 p7 rfl (show 0 ≤ v8 ∧ v8 ≤ 40 by omega)
      exact cm_vret d_TR_addAll_92 rfl (⟨rfl, p9, fun z1 => cTok_n 17 _ (cTok_w 14 _ _ z1 (jcp_tok (z1 1 rfl) (z1 14 rfl)) rfl) rfl⟩)
set_option maxRecDepth 100000 in
set_option maxHeartbeats 4000000 in
theorem v_TR_addAll_18_1 (G : jG) (d b : Nat) (p : Int) (q : Int) (I : Nat → Nat → Int) (A : Nat → Int → Int) (hI : cSI I) (hA : cSA A) (hp : 0 ≤ p ∧ p ≤ 100000) (hq : 0 ≤ q ∧ q ≤ 120) : cct G Y_TR_addAll (d + 1) b [.ref (b + 18), .ref (b + 1), .int (jI p), .int (jI q)] I A (fun (rv : Option Value) (I2 : Nat → Nat → Int) (A2 : Nat → Int → Int) => rv = none ∧ cPo [291] [19, 20, 21] I A I2 A2 ∧ (cTok A → cTok A2)) := by
  refine cct_of (by decide) (Nat.le_of_ble_eq_true rfl) (fun f0 sz => ?_)
  show jt _ 0 [(0, .ref (b + 18)), (1, .ref (b + 1)), (2, .int (jI p)), (3, .int (jI q))] [] _ _ _ _
  have hz0 : cPo [291] [19, 20, 21] I A I A := cPo.refl hI hA
  refine jt_iload_n d_TR_addAll_0 rfl ?_
  refine jt_iload_n d_TR_addAll_1 rfl ?_
  refine jt_isub d_TR_addAll_2 ?_
  refine jt_aload_n d_TR_addAll_3 rfl ?_
  refine cm_get (k := 18) (v := .ref (b + 19)) d_TR_addAll_4 TR_f9 (by decide) (cc_1 rfl) rfl ?_
  refine cm_len (k := 19) (n := 40) d_TR_addAll_7 jTy_0 (by decide) (cc_8 rfl rfl) ?_
  refine jt_aload_n d_TR_addAll_8 rfl ?_
  refine cm_get (k := 18) (v := .int (jI (I 18 3))) d_TR_addAll_9 TR_f21 (by decide) (cc_1 rfl) rfl ?_
  have rb1 : 0 ≤ I 18 3 ∧ I 18 3 ≤ 40 := hz0.1 18 3
  refine jt_isub d_TR_addAll_12 ?_
  refine jt_mmin d_TR_addAll_13 mw_min (by unfold jRi; omega) (by unfold jRi; omega) (show 1 ≤ d + 1 by omega) (show 0 + 13 ≤ (d + 1) * 40 by omega) (Nat.le_refl _) (Nat.le_refl _) ?_
  refine jt_topi (fun v2 ev2 => ?_)
  have mv2 : v2 ≤ q - p ∧ v2 ≤ 40 - (I 18 3) ∧ (v2 = q - p ∨ v2 = 40 - (I 18 3)) := by omega
  refine jt_istore (L' := [(0, .ref (b + 18)), (1, .ref (b + 1)), (2, .int (jI p)), (3, .int (jI q)), (4, .int (jI v2))]) d_TR_addAll_16 (Nat.le_of_ble_eq_true rfl) rfl ?_
  refine jt_iload_n d_TR_addAll_18 rfl ?_
  refine jt_if_lt (t := 92) d_TR_addAll_19 rfl (by unfold jRi; omega) (fun c3 => ?_) (fun c3 => ?_)
  · skip
    exact cm_vret d_TR_addAll_92 rfl (⟨rfl, hz0, fun z => z⟩)
  · skip
    refine jt_iload d_TR_addAll_22 rfl ?_
    refine jt_if_le (t := 92) d_TR_addAll_24 rfl (by unfold jRi; omega) (fun c4 => ?_) (fun c4 => ?_)
    · skip
      exact cm_vret d_TR_addAll_92 rfl (⟨rfl, hz0, fun z => z⟩)
    · skip
      refine jt_aload_n d_TR_addAll_27 rfl ?_
      refine cm_get (k := 1) (v := .ref (b + 2)) d_TR_addAll_28 TR_f9 (by decide) (cc_1 rfl) rfl ?_
      refine jt_iload_n d_TR_addAll_31 rfl ?_
      refine jt_aload_n d_TR_addAll_32 rfl ?_
      refine cm_get (k := 18) (v := .ref (b + 19)) d_TR_addAll_33 TR_f9 (by decide) (cc_1 rfl) rfl ?_
      refine jt_aload_n d_TR_addAll_36 rfl ?_
      refine cm_get (k := 18) (v := .int (jI (I 18 3))) d_TR_addAll_37 TR_f21 (by decide) (cc_1 rfl) rfl ?_
      refine jt_iload d_TR_addAll_40 rfl ?_
      refine cm_cpy (k0 := 2) (k1 := 19) (n0 := 120) (n1 := 40) (sp := p) (dp := (I 18 3)) (n := v2) d_TR_addAll_42 TR_ac34 (by decide) (by decide) rfl rfl rfl rfl (by omega) (by omega) (by omega) (by omega) (by omega) (by omega) (by omega) (show 1 ≤ d + 1 by omega) (by have e9 : nativeFrameWords "java/lang/System" "arraycopy" 5 = 7 := (by decide); rw [e9]; show 0 + (7 + 11) ≤ (d + 1) * 40; omega) ?_
      have p5 := cPo.A 19 (jcp (A 2) (A 19) p (I 18 3) v2) hz0 (Or.inl rfl) (jcp_r (hz0.2.1 2) (hz0.2.1 19))
      refine jt_aload_n d_TR_addAll_45 rfl ?_
      refine cm_get (k := 1) (v := .ref (b + 3)) d_TR_addAll_46 TR_f15 (by decide) (cc_1 rfl) rfl ?_
      refine jt_iload_n d_TR_addAll_49 rfl ?_
      refine jt_aload_n d_TR_addAll_50 rfl ?_
      refine cm_get (k := 18) (v := .ref (b + 20)) d_TR_addAll_51 TR_f15 (by decide) (cc_1 rfl) rfl ?_
      refine jt_aload_n d_TR_addAll_54 rfl ?_
      refine cm_get (k := 18) (v := .int (jI (I 18 3))) d_TR_addAll_55 TR_f21 (by decide) (cc_1 rfl) rfl ?_
      refine jt_iload d_TR_addAll_58 rfl ?_
      refine cm_cpy (k0 := 3) (k1 := 20) (n0 := 120) (n1 := 40) (sp := p) (dp := (I 18 3)) (n := v2) d_TR_addAll_60 TR_ac34 (by decide) (by decide) rfl rfl rfl rfl (by omega) (by omega) (by omega) (by omega) (by omega) (by omega) (by omega) (show 1 ≤ d + 1 by omega) (by have e9 : nativeFrameWords "java/lang/System" "arraycopy" 5 = 7 := (by decide); rw [e9]; show 0 + (7 + 11) ≤ (d + 1) * 40; omega) ?_
      have p6 := cPo.A 20 (jcp (A 3) (A 20) p (I 18 3) v2) p5 (Or.inl rfl) (jcp_r (p5.2.1 3) (p5.2.1 20))
      refine jt_aload_n d_TR_addAll_63 rfl ?_
      refine cm_get (k := 1) (v := .ref (b + 4)) d_TR_addAll_64 TR_f18 (by decide) (cc_1 rfl) rfl ?_
      refine jt_iload_n d_TR_addAll_67 rfl ?_
      refine jt_aload_n d_TR_addAll_68 rfl ?_
      refine cm_get (k := 18) (v := .ref (b + 21)) d_TR_addAll_69 TR_f18 (by decide) (cc_1 rfl) rfl ?_
      refine jt_aload_n d_TR_addAll_72 rfl ?_
      refine cm_get (k := 18) (v := .int (jI (I 18 3))) d_TR_addAll_73 TR_f21 (by decide) (cc_1 rfl) rfl ?_
      refine jt_iload d_TR_addAll_76 rfl ?_
      refine cm_cpy (k0 := 4) (k1 := 21) (n0 := 120) (n1 := 40) (sp := p) (dp := (I 18 3)) (n := v2) d_TR_addAll_78 TR_ac34 (by decide) (by decide) rfl rfl rfl rfl (by omega) (by omega) (by omega) (by omega) (by omega) (by omega) (by omega) (show 1 ≤ d + 1 by omega) (by have e9 : nativeFrameWords "java/lang/System" "arraycopy" 5 = 7 := (by decide); rw [e9]; show 0 + (7 + 11) ≤ (d + 1) * 40; omega) ?_
      have p7 := cPo.A 21 (jcp (A 4) (A 21) p (I 18 3) v2) p6 (Or.inl rfl) (jcp_r (p6.2.1 4) (p6.2.1 21))
      refine jt_aload_n d_TR_addAll_81 rfl ?_
      refine jt_dup d_TR_addAll_82 rfl ?_
      refine cm_get (k := 18) (v := .int (jI (I 18 3))) d_TR_addAll_83 TR_f21 (by decide) (cc_1 rfl) rfl ?_
      refine jt_iload d_TR_addAll_86 rfl ?_
      refine jt_iadd d_TR_addAll_88 ?_
      refine jt_topi (fun v8 ev8 => ?_)
      refine cm_put (k := 18) (j := 3) (v := v8) d_TR_addAll_89 (TR_w21 _ rfl) (by decide) (cc_1 rfl) rfl rfl (Nat.le_of_ble_eq_true rfl) rfl ?_
      have p9 := cPo.I 18 3 v8 p7 rfl (show 0 ≤ v8 ∧ v8 ≤ 40 by omega)
      exact cm_vret d_TR_addAll_92 rfl (⟨rfl, p9, fun z1 => cTok_n 21 _ (cTok_w 18 _ _ z1 (jcp_tok (z1 1 rfl) (z1 18 rfl)) rfl) rfl⟩)
set_option maxRecDepth 100000 in
set_option maxHeartbeats 4000000 in
theorem v_TR_addAll_22_1 (G : jG) (d b : Nat) (p : Int) (q : Int) (I : Nat → Nat → Int) (A : Nat → Int → Int) (hI : cSI I) (hA : cSA A) (hp : 0 ≤ p ∧ p ≤ 100000) (hq : 0 ≤ q ∧ q ≤ 120) : cct G Y_TR_addAll (d + 1) b [.ref (b + 22), .ref (b + 1), .int (jI p), .int (jI q)] I A (fun (rv : Option Value) (I2 : Nat → Nat → Int) (A2 : Nat → Int → Int) => rv = none ∧ cPo [355] [23, 24, 25] I A I2 A2 ∧ (cTok A → cTok A2)) := by
  refine cct_of (by decide) (Nat.le_of_ble_eq_true rfl) (fun f0 sz => ?_)
  show jt _ 0 [(0, .ref (b + 22)), (1, .ref (b + 1)), (2, .int (jI p)), (3, .int (jI q))] [] _ _ _ _
  have hz0 : cPo [355] [23, 24, 25] I A I A := cPo.refl hI hA
  refine jt_iload_n d_TR_addAll_0 rfl ?_
  refine jt_iload_n d_TR_addAll_1 rfl ?_
  refine jt_isub d_TR_addAll_2 ?_
  refine jt_aload_n d_TR_addAll_3 rfl ?_
  refine cm_get (k := 22) (v := .ref (b + 23)) d_TR_addAll_4 TR_f9 (by decide) (cc_1 rfl) rfl ?_
  refine cm_len (k := 23) (n := 40) d_TR_addAll_7 jTy_0 (by decide) (cc_8 rfl rfl) ?_
  refine jt_aload_n d_TR_addAll_8 rfl ?_
  refine cm_get (k := 22) (v := .int (jI (I 22 3))) d_TR_addAll_9 TR_f21 (by decide) (cc_1 rfl) rfl ?_
  have rb1 : 0 ≤ I 22 3 ∧ I 22 3 ≤ 40 := hz0.1 22 3
  refine jt_isub d_TR_addAll_12 ?_
  refine jt_mmin d_TR_addAll_13 mw_min (by unfold jRi; omega) (by unfold jRi; omega) (show 1 ≤ d + 1 by omega) (show 0 + 13 ≤ (d + 1) * 40 by omega) (Nat.le_refl _) (Nat.le_refl _) ?_
  refine jt_topi (fun v2 ev2 => ?_)
  have mv2 : v2 ≤ q - p ∧ v2 ≤ 40 - (I 22 3) ∧ (v2 = q - p ∨ v2 = 40 - (I 22 3)) := by omega
  refine jt_istore (L' := [(0, .ref (b + 22)), (1, .ref (b + 1)), (2, .int (jI p)), (3, .int (jI q)), (4, .int (jI v2))]) d_TR_addAll_16 (Nat.le_of_ble_eq_true rfl) rfl ?_
  refine jt_iload_n d_TR_addAll_18 rfl ?_
  refine jt_if_lt (t := 92) d_TR_addAll_19 rfl (by unfold jRi; omega) (fun c3 => ?_) (fun c3 => ?_)
  · skip
    exact cm_vret d_TR_addAll_92 rfl (⟨rfl, hz0, fun z => z⟩)
  · skip
    refine jt_iload d_TR_addAll_22 rfl ?_
    refine jt_if_le (t := 92) d_TR_addAll_24 rfl (by unfold jRi; omega) (fun c4 => ?_) (fun c4 => ?_)
    · skip
      exact cm_vret d_TR_addAll_92 rfl (⟨rfl, hz0, fun z => z⟩)
    · skip
      refine jt_aload_n d_TR_addAll_27 rfl ?_
      refine cm_get (k := 1) (v := .ref (b + 2)) d_TR_addAll_28 TR_f9 (by decide) (cc_1 rfl) rfl ?_
      refine jt_iload_n d_TR_addAll_31 rfl ?_
      refine jt_aload_n d_TR_addAll_32 rfl ?_
      refine cm_get (k := 22) (v := .ref (b + 23)) d_TR_addAll_33 TR_f9 (by decide) (cc_1 rfl) rfl ?_
      refine jt_aload_n d_TR_addAll_36 rfl ?_
      refine cm_get (k := 22) (v := .int (jI (I 22 3))) d_TR_addAll_37 TR_f21 (by decide) (cc_1 rfl) rfl ?_
      refine jt_iload d_TR_addAll_40 rfl ?_
      refine cm_cpy (k0 := 2) (k1 := 23) (n0 := 120) (n1 := 40) (sp := p) (dp := (I 22 3)) (n := v2) d_TR_addAll_42 TR_ac34 (by decide) (by decide) rfl rfl rfl rfl (by omega) (by omega) (by omega) (by omega) (by omega) (by omega) (by omega) (show 1 ≤ d + 1 by omega) (by have e9 : nativeFrameWords "java/lang/System" "arraycopy" 5 = 7 := (by decide); rw [e9]; show 0 + (7 + 11) ≤ (d + 1) * 40; omega) ?_
      have p5 := cPo.A 23 (jcp (A 2) (A 23) p (I 22 3) v2) hz0 (Or.inl rfl) (jcp_r (hz0.2.1 2) (hz0.2.1 23))
      refine jt_aload_n d_TR_addAll_45 rfl ?_
      refine cm_get (k := 1) (v := .ref (b + 3)) d_TR_addAll_46 TR_f15 (by decide) (cc_1 rfl) rfl ?_
      refine jt_iload_n d_TR_addAll_49 rfl ?_
      refine jt_aload_n d_TR_addAll_50 rfl ?_
      refine cm_get (k := 22) (v := .ref (b + 24)) d_TR_addAll_51 TR_f15 (by decide) (cc_1 rfl) rfl ?_
      refine jt_aload_n d_TR_addAll_54 rfl ?_
      refine cm_get (k := 22) (v := .int (jI (I 22 3))) d_TR_addAll_55 TR_f21 (by decide) (cc_1 rfl) rfl ?_
      refine jt_iload d_TR_addAll_58 rfl ?_
      refine cm_cpy (k0 := 3) (k1 := 24) (n0 := 120) (n1 := 40) (sp := p) (dp := (I 22 3)) (n := v2) d_TR_addAll_60 TR_ac34 (by decide) (by decide) rfl rfl rfl rfl (by omega) (by omega) (by omega) (by omega) (by omega) (by omega) (by omega) (show 1 ≤ d + 1 by omega) (by have e9 : nativeFrameWords "java/lang/System" "arraycopy" 5 = 7 := (by decide); rw [e9]; show 0 + (7 + 11) ≤ (d + 1) * 40; omega) ?_
      have p6 := cPo.A 24 (jcp (A 3) (A 24) p (I 22 3) v2) p5 (Or.inl rfl) (jcp_r (p5.2.1 3) (p5.2.1 24))
      refine jt_aload_n d_TR_addAll_63 rfl ?_
      refine cm_get (k := 1) (v := .ref (b + 4)) d_TR_addAll_64 TR_f18 (by decide) (cc_1 rfl) rfl ?_
      refine jt_iload_n d_TR_addAll_67 rfl ?_
      refine jt_aload_n d_TR_addAll_68 rfl ?_
      refine cm_get (k := 22) (v := .ref (b + 25)) d_TR_addAll_69 TR_f18 (by decide) (cc_1 rfl) rfl ?_
      refine jt_aload_n d_TR_addAll_72 rfl ?_
      refine cm_get (k := 22) (v := .int (jI (I 22 3))) d_TR_addAll_73 TR_f21 (by decide) (cc_1 rfl) rfl ?_
      refine jt_iload d_TR_addAll_76 rfl ?_
      refine cm_cpy (k0 := 4) (k1 := 25) (n0 := 120) (n1 := 40) (sp := p) (dp := (I 22 3)) (n := v2) d_TR_addAll_78 TR_ac34 (by decide) (by decide) rfl rfl rfl rfl (by omega) (by omega) (by omega) (by omega) (by omega) (by omega) (by omega) (show 1 ≤ d + 1 by omega) (by have e9 : nativeFrameWords "java/lang/System" "arraycopy" 5 = 7 := (by decide); rw [e9]; show 0 + (7 + 11) ≤ (d + 1) * 40; omega) ?_
      have p7 := cPo.A 25 (jcp (A 4) (A 25) p (I 22 3) v2) p6 (Or.inl rfl) (jcp_r (p6.2.1 4) (p6.2.1 25))
      refine jt_aload_n d_TR_addAll_81 rfl ?_
      refine jt_dup d_TR_addAll_82 rfl ?_
      refine cm_get (k := 22) (v := .int (jI (I 22 3))) d_TR_addAll_83 TR_f21 (by decide) (cc_1 rfl) rfl ?_
      refine jt_iload d_TR_addAll_86 rfl ?_
      refine jt_iadd d_TR_addAll_88 ?_
      refine jt_topi (fun v8 ev8 => ?_)
      refine cm_put (k := 22) (j := 3) (v := v8) d_TR_addAll_89 (TR_w21 _ rfl) (by decide) (cc_1 rfl) rfl rfl (Nat.le_of_ble_eq_true rfl) rfl ?_
      have p9 := cPo.I 22 3 v8 p7 rfl (show 0 ≤ v8 ∧ v8 ≤ 40 by omega)
      exact cm_vret d_TR_addAll_92 rfl (⟨rfl, p9, fun z1 => cTok_n 25 _ (cTok_w 22 _ _ z1 (jcp_tok (z1 1 rfl) (z1 22 rfl)) rfl) rfl⟩)
set_option maxRecDepth 100000 in
set_option maxHeartbeats 4000000 in
theorem v_TR_addAll_26_1 (G : jG) (d b : Nat) (p : Int) (q : Int) (I : Nat → Nat → Int) (A : Nat → Int → Int) (hI : cSI I) (hA : cSA A) (hp : 0 ≤ p ∧ p ≤ 100000) (hq : 0 ≤ q ∧ q ≤ 120) : cct G Y_TR_addAll (d + 1) b [.ref (b + 26), .ref (b + 1), .int (jI p), .int (jI q)] I A (fun (rv : Option Value) (I2 : Nat → Nat → Int) (A2 : Nat → Int → Int) => rv = none ∧ cPo [419] [27, 28, 29] I A I2 A2 ∧ (cTok A → cTok A2)) := by
  refine cct_of (by decide) (Nat.le_of_ble_eq_true rfl) (fun f0 sz => ?_)
  show jt _ 0 [(0, .ref (b + 26)), (1, .ref (b + 1)), (2, .int (jI p)), (3, .int (jI q))] [] _ _ _ _
  have hz0 : cPo [419] [27, 28, 29] I A I A := cPo.refl hI hA
  refine jt_iload_n d_TR_addAll_0 rfl ?_
  refine jt_iload_n d_TR_addAll_1 rfl ?_
  refine jt_isub d_TR_addAll_2 ?_
  refine jt_aload_n d_TR_addAll_3 rfl ?_
  refine cm_get (k := 26) (v := .ref (b + 27)) d_TR_addAll_4 TR_f9 (by decide) (cc_1 rfl) rfl ?_
  refine cm_len (k := 27) (n := 40) d_TR_addAll_7 jTy_0 (by decide) (cc_8 rfl rfl) ?_
  refine jt_aload_n d_TR_addAll_8 rfl ?_
  refine cm_get (k := 26) (v := .int (jI (I 26 3))) d_TR_addAll_9 TR_f21 (by decide) (cc_1 rfl) rfl ?_
  have rb1 : 0 ≤ I 26 3 ∧ I 26 3 ≤ 40 := hz0.1 26 3
  refine jt_isub d_TR_addAll_12 ?_
  refine jt_mmin d_TR_addAll_13 mw_min (by unfold jRi; omega) (by unfold jRi; omega) (show 1 ≤ d + 1 by omega) (show 0 + 13 ≤ (d + 1) * 40 by omega) (Nat.le_refl _) (Nat.le_refl _) ?_
  refine jt_topi (fun v2 ev2 => ?_)
  have mv2 : v2 ≤ q - p ∧ v2 ≤ 40 - (I 26 3) ∧ (v2 = q - p ∨ v2 = 40 - (I 26 3)) := by omega
  refine jt_istore (L' := [(0, .ref (b + 26)), (1, .ref (b + 1)), (2, .int (jI p)), (3, .int (jI q)), (4, .int (jI v2))]) d_TR_addAll_16 (Nat.le_of_ble_eq_true rfl) rfl ?_
  refine jt_iload_n d_TR_addAll_18 rfl ?_
  refine jt_if_lt (t := 92) d_TR_addAll_19 rfl (by unfold jRi; omega) (fun c3 => ?_) (fun c3 => ?_)
  · skip
    exact cm_vret d_TR_addAll_92 rfl (⟨rfl, hz0, fun z => z⟩)
  · skip
    refine jt_iload d_TR_addAll_22 rfl ?_
    refine jt_if_le (t := 92) d_TR_addAll_24 rfl (by unfold jRi; omega) (fun c4 => ?_) (fun c4 => ?_)
    · skip
      exact cm_vret d_TR_addAll_92 rfl (⟨rfl, hz0, fun z => z⟩)
    · skip
      refine jt_aload_n d_TR_addAll_27 rfl ?_
      refine cm_get (k := 1) (v := .ref (b + 2)) d_TR_addAll_28 TR_f9 (by decide) (cc_1 rfl) rfl ?_
      refine jt_iload_n d_TR_addAll_31 rfl ?_
      refine jt_aload_n d_TR_addAll_32 rfl ?_
      refine cm_get (k := 26) (v := .ref (b + 27)) d_TR_addAll_33 TR_f9 (by decide) (cc_1 rfl) rfl ?_
      refine jt_aload_n d_TR_addAll_36 rfl ?_
      refine cm_get (k := 26) (v := .int (jI (I 26 3))) d_TR_addAll_37 TR_f21 (by decide) (cc_1 rfl) rfl ?_
      refine jt_iload d_TR_addAll_40 rfl ?_
      refine cm_cpy (k0 := 2) (k1 := 27) (n0 := 120) (n1 := 40) (sp := p) (dp := (I 26 3)) (n := v2) d_TR_addAll_42 TR_ac34 (by decide) (by decide) rfl rfl rfl rfl (by omega) (by omega) (by omega) (by omega) (by omega) (by omega) (by omega) (show 1 ≤ d + 1 by omega) (by have e9 : nativeFrameWords "java/lang/System" "arraycopy" 5 = 7 := (by decide); rw [e9]; show 0 + (7 + 11) ≤ (d + 1) * 40; omega) ?_
      have p5 := cPo.A 27 (jcp (A 2) (A 27) p (I 26 3) v2) hz0 (Or.inl rfl) (jcp_r (hz0.2.1 2) (hz0.2.1 27))
      refine jt_aload_n d_TR_addAll_45 rfl ?_
      refine cm_get (k := 1) (v := .ref (b + 3)) d_TR_addAll_46 TR_f15 (by decide) (cc_1 rfl) rfl ?_
      refine jt_iload_n d_TR_addAll_49 rfl ?_
      refine jt_aload_n d_TR_addAll_50 rfl ?_
      refine cm_get (k := 26) (v := .ref (b + 28)) d_TR_addAll_51 TR_f15 (by decide) (cc_1 rfl) rfl ?_
      refine jt_aload_n d_TR_addAll_54 rfl ?_
      refine cm_get (k := 26) (v := .int (jI (I 26 3))) d_TR_addAll_55 TR_f21 (by decide) (cc_1 rfl) rfl ?_
      refine jt_iload d_TR_addAll_58 rfl ?_
      refine cm_cpy (k0 := 3) (k1 := 28) (n0 := 120) (n1 := 40) (sp := p) (dp := (I 26 3)) (n := v2) d_TR_addAll_60 TR_ac34 (by decide) (by decide) rfl rfl rfl rfl (by omega) (by omega) (by omega) (by omega) (by omega) (by omega) (by omega) (show 1 ≤ d + 1 by omega) (by have e9 : nativeFrameWords "java/lang/System" "arraycopy" 5 = 7 := (by decide); rw [e9]; show 0 + (7 + 11) ≤ (d + 1) * 40; omega) ?_
      have p6 := cPo.A 28 (jcp (A 3) (A 28) p (I 26 3) v2) p5 (Or.inl rfl) (jcp_r (p5.2.1 3) (p5.2.1 28))
      refine jt_aload_n d_TR_addAll_63 rfl ?_
      refine cm_get (k := 1) (v := .ref (b + 4)) d_TR_addAll_64 TR_f18 (by decide) (cc_1 rfl) rfl ?_
      refine jt_iload_n d_TR_addAll_67 rfl ?_
      refine jt_aload_n d_TR_addAll_68 rfl ?_
      refine cm_get (k := 26) (v := .ref (b + 29)) d_TR_addAll_69 TR_f18 (by decide) (cc_1 rfl) rfl ?_
      refine jt_aload_n d_TR_addAll_72 rfl ?_
      refine cm_get (k := 26) (v := .int (jI (I 26 3))) d_TR_addAll_73 TR_f21 (by decide) (cc_1 rfl) rfl ?_
      refine jt_iload d_TR_addAll_76 rfl ?_
      refine cm_cpy (k0 := 4) (k1 := 29) (n0 := 120) (n1 := 40) (sp := p) (dp := (I 26 3)) (n := v2) d_TR_addAll_78 TR_ac34 (by decide) (by decide) rfl rfl rfl rfl (by omega) (by omega) (by omega) (by omega) (by omega) (by omega) (by omega) (show 1 ≤ d + 1 by omega) (by have e9 : nativeFrameWords "java/lang/System" "arraycopy" 5 = 7 := (by decide); rw [e9]; show 0 + (7 + 11) ≤ (d + 1) * 40; omega) ?_
      have p7 := cPo.A 29 (jcp (A 4) (A 29) p (I 26 3) v2) p6 (Or.inl rfl) (jcp_r (p6.2.1 4) (p6.2.1 29))
      refine jt_aload_n d_TR_addAll_81 rfl ?_
      refine jt_dup d_TR_addAll_82 rfl ?_
      refine cm_get (k := 26) (v := .int (jI (I 26 3))) d_TR_addAll_83 TR_f21 (by decide) (cc_1 rfl) rfl ?_
      refine jt_iload d_TR_addAll_86 rfl ?_
      refine jt_iadd d_TR_addAll_88 ?_
      refine jt_topi (fun v8 ev8 => ?_)
      refine cm_put (k := 26) (j := 3) (v := v8) d_TR_addAll_89 (TR_w21 _ rfl) (by decide) (cc_1 rfl) rfl rfl (Nat.le_of_ble_eq_true rfl) rfl ?_
      have p9 := cPo.I 26 3 v8 p7 rfl (show 0 ≤ v8 ∧ v8 ≤ 40 by omega)
      exact cm_vret d_TR_addAll_92 rfl (⟨rfl, p9, fun z1 => cTok_n 29 _ (cTok_w 26 _ _ z1 (jcp_tok (z1 1 rfl) (z1 26 rfl)) rfl) rfl⟩)
set_option maxRecDepth 100000 in
set_option maxHeartbeats 4000000 in
theorem v_TR_addAll_30_1 (G : jG) (d b : Nat) (p : Int) (q : Int) (I : Nat → Nat → Int) (A : Nat → Int → Int) (hI : cSI I) (hA : cSA A) (hp : 0 ≤ p ∧ p ≤ 100000) (hq : 0 ≤ q ∧ q ≤ 120) : cct G Y_TR_addAll (d + 1) b [.ref (b + 30), .ref (b + 1), .int (jI p), .int (jI q)] I A (fun (rv : Option Value) (I2 : Nat → Nat → Int) (A2 : Nat → Int → Int) => rv = none ∧ cPo [483] [31, 32, 33] I A I2 A2 ∧ (cTok A → cTok A2)) := by
  refine cct_of (by decide) (Nat.le_of_ble_eq_true rfl) (fun f0 sz => ?_)
  show jt _ 0 [(0, .ref (b + 30)), (1, .ref (b + 1)), (2, .int (jI p)), (3, .int (jI q))] [] _ _ _ _
  have hz0 : cPo [483] [31, 32, 33] I A I A := cPo.refl hI hA
  refine jt_iload_n d_TR_addAll_0 rfl ?_
  refine jt_iload_n d_TR_addAll_1 rfl ?_
  refine jt_isub d_TR_addAll_2 ?_
  refine jt_aload_n d_TR_addAll_3 rfl ?_
  refine cm_get (k := 30) (v := .ref (b + 31)) d_TR_addAll_4 TR_f9 (by decide) (cc_1 rfl) rfl ?_
  refine cm_len (k := 31) (n := 40) d_TR_addAll_7 jTy_0 (by decide) (cc_8 rfl rfl) ?_
  refine jt_aload_n d_TR_addAll_8 rfl ?_
  refine cm_get (k := 30) (v := .int (jI (I 30 3))) d_TR_addAll_9 TR_f21 (by decide) (cc_1 rfl) rfl ?_
  have rb1 : 0 ≤ I 30 3 ∧ I 30 3 ≤ 40 := hz0.1 30 3
  refine jt_isub d_TR_addAll_12 ?_
  refine jt_mmin d_TR_addAll_13 mw_min (by unfold jRi; omega) (by unfold jRi; omega) (show 1 ≤ d + 1 by omega) (show 0 + 13 ≤ (d + 1) * 40 by omega) (Nat.le_refl _) (Nat.le_refl _) ?_
  refine jt_topi (fun v2 ev2 => ?_)
  have mv2 : v2 ≤ q - p ∧ v2 ≤ 40 - (I 30 3) ∧ (v2 = q - p ∨ v2 = 40 - (I 30 3)) := by omega
  refine jt_istore (L' := [(0, .ref (b + 30)), (1, .ref (b + 1)), (2, .int (jI p)), (3, .int (jI q)), (4, .int (jI v2))]) d_TR_addAll_16 (Nat.le_of_ble_eq_true rfl) rfl ?_
  refine jt_iload_n d_TR_addAll_18 rfl ?_
  refine jt_if_lt (t := 92) d_TR_addAll_19 rfl (by unfold jRi; omega) (fun c3 => ?_) (fun c3 => ?_)
  · skip
    exact cm_vret d_TR_addAll_92 rfl (⟨rfl, hz0, fun z => z⟩)
  · skip
    refine jt_iload d_TR_addAll_22 rfl ?_
    refine jt_if_le (t := 92) d_TR_addAll_24 rfl (by unfold jRi; omega) (fun c4 => ?_) (fun c4 => ?_)
    · skip
      exact cm_vret d_TR_addAll_92 rfl (⟨rfl, hz0, fun z => z⟩)
    · skip
      refine jt_aload_n d_TR_addAll_27 rfl ?_
      refine cm_get (k := 1) (v := .ref (b + 2)) d_TR_addAll_28 TR_f9 (by decide) (cc_1 rfl) rfl ?_
      refine jt_iload_n d_TR_addAll_31 rfl ?_
      refine jt_aload_n d_TR_addAll_32 rfl ?_
      refine cm_get (k := 30) (v := .ref (b + 31)) d_TR_addAll_33 TR_f9 (by decide) (cc_1 rfl) rfl ?_
      refine jt_aload_n d_TR_addAll_36 rfl ?_
      refine cm_get (k := 30) (v := .int (jI (I 30 3))) d_TR_addAll_37 TR_f21 (by decide) (cc_1 rfl) rfl ?_
      refine jt_iload d_TR_addAll_40 rfl ?_
      refine cm_cpy (k0 := 2) (k1 := 31) (n0 := 120) (n1 := 40) (sp := p) (dp := (I 30 3)) (n := v2) d_TR_addAll_42 TR_ac34 (by decide) (by decide) rfl rfl rfl rfl (by omega) (by omega) (by omega) (by omega) (by omega) (by omega) (by omega) (show 1 ≤ d + 1 by omega) (by have e9 : nativeFrameWords "java/lang/System" "arraycopy" 5 = 7 := (by decide); rw [e9]; show 0 + (7 + 11) ≤ (d + 1) * 40; omega) ?_
      have p5 := cPo.A 31 (jcp (A 2) (A 31) p (I 30 3) v2) hz0 (Or.inl rfl) (jcp_r (hz0.2.1 2) (hz0.2.1 31))
      refine jt_aload_n d_TR_addAll_45 rfl ?_
      refine cm_get (k := 1) (v := .ref (b + 3)) d_TR_addAll_46 TR_f15 (by decide) (cc_1 rfl) rfl ?_
      refine jt_iload_n d_TR_addAll_49 rfl ?_
      refine jt_aload_n d_TR_addAll_50 rfl ?_
      refine cm_get (k := 30) (v := .ref (b + 32)) d_TR_addAll_51 TR_f15 (by decide) (cc_1 rfl) rfl ?_
      refine jt_aload_n d_TR_addAll_54 rfl ?_
      refine cm_get (k := 30) (v := .int (jI (I 30 3))) d_TR_addAll_55 TR_f21 (by decide) (cc_1 rfl) rfl ?_
      refine jt_iload d_TR_addAll_58 rfl ?_
      refine cm_cpy (k0 := 3) (k1 := 32) (n0 := 120) (n1 := 40) (sp := p) (dp := (I 30 3)) (n := v2) d_TR_addAll_60 TR_ac34 (by decide) (by decide) rfl rfl rfl rfl (by omega) (by omega) (by omega) (by omega) (by omega) (by omega) (by omega) (show 1 ≤ d + 1 by omega) (by have e9 : nativeFrameWords "java/lang/System" "arraycopy" 5 = 7 := (by decide); rw [e9]; show 0 + (7 + 11) ≤ (d + 1) * 40; omega) ?_
      have p6 := cPo.A 32 (jcp (A 3) (A 32) p (I 30 3) v2) p5 (Or.inl rfl) (jcp_r (p5.2.1 3) (p5.2.1 32))
      refine jt_aload_n d_TR_addAll_63 rfl ?_
      refine cm_get (k := 1) (v := .ref (b + 4)) d_TR_addAll_64 TR_f18 (by decide) (cc_1 rfl) rfl ?_
      refine jt_iload_n d_TR_addAll_67 rfl ?_
      refine jt_aload_n d_TR_addAll_68 rfl ?_
      refine cm_get (k := 30) (v := .ref (b + 33)) d_TR_addAll_69 TR_f18 (by decide) (cc_1 rfl) rfl ?_
      refine jt_aload_n d_TR_addAll_72 rfl ?_
      refine cm_get (k := 30) (v := .int (jI (I 30 3))) d_TR_addAll_73 TR_f21 (by decide) (cc_1 rfl) rfl ?_
      refine jt_iload d_TR_addAll_76 rfl ?_
      refine cm_cpy (k0 := 4) (k1 := 33) (n0 := 120) (n1 := 40) (sp := p) (dp := (I 30 3)) (n := v2) d_TR_addAll_78 TR_ac34 (by decide) (by decide) rfl rfl rfl rfl (by omega) (by omega) (by omega) (by omega) (by omega) (by omega) (by omega) (show 1 ≤ d + 1 by omega) (by have e9 : nativeFrameWords "java/lang/System" "arraycopy" 5 = 7 := (by decide); rw [e9]; show 0 + (7 + 11) ≤ (d + 1) * 40; omega) ?_
      have p7 := cPo.A 33 (jcp (A 4) (A 33) p (I 30 3) v2) p6 (Or.inl rfl) (jcp_r (p6.2.1 4) (p6.2.1 33))
      refine jt_aload_n d_TR_addAll_81 rfl ?_
      refine jt_dup d_TR_addAll_82 rfl ?_
      refine cm_get (k := 30) (v := .int (jI (I 30 3))) d_TR_addAll_83 TR_f21 (by decide) (cc_1 rfl) rfl ?_
      refine jt_iload d_TR_addAll_86 rfl ?_
      refine jt_iadd d_TR_addAll_88 ?_
      refine jt_topi (fun v8 ev8 => ?_)
      refine cm_put (k := 30) (j := 3) (v := v8) d_TR_addAll_89 (TR_w21 _ rfl) (by decide) (cc_1 rfl) rfl rfl (Nat.le_of_ble_eq_true rfl) rfl ?_
      have p9 := cPo.I 30 3 v8 p7 rfl (show 0 ≤ v8 ∧ v8 ≤ 40 by omega)
      exact cm_vret d_TR_addAll_92 rfl (⟨rfl, p9, fun z1 => cTok_n 33 _ (cTok_w 30 _ _ z1 (jcp_tok (z1 1 rfl) (z1 30 rfl)) rfl) rfl⟩)
set_option maxRecDepth 100000 in
set_option maxHeartbeats 4000000 in
theorem v_TR_addAll_34_1 (G : jG) (d b : Nat) (p : Int) (q : Int) (I : Nat → Nat → Int) (A : Nat → Int → Int) (hI : cSI I) (hA : cSA A) (hp : 0 ≤ p ∧ p ≤ 100000) (hq : 0 ≤ q ∧ q ≤ 120) : cct G Y_TR_addAll (d + 1) b [.ref (b + 34), .ref (b + 1), .int (jI p), .int (jI q)] I A (fun (rv : Option Value) (I2 : Nat → Nat → Int) (A2 : Nat → Int → Int) => rv = none ∧ cPo [547] [35, 36, 37] I A I2 A2 ∧ (cTok A → cTok A2)) := by
  refine cct_of (by decide) (Nat.le_of_ble_eq_true rfl) (fun f0 sz => ?_)
  show jt _ 0 [(0, .ref (b + 34)), (1, .ref (b + 1)), (2, .int (jI p)), (3, .int (jI q))] [] _ _ _ _
  have hz0 : cPo [547] [35, 36, 37] I A I A := cPo.refl hI hA
  refine jt_iload_n d_TR_addAll_0 rfl ?_
  refine jt_iload_n d_TR_addAll_1 rfl ?_
  refine jt_isub d_TR_addAll_2 ?_
  refine jt_aload_n d_TR_addAll_3 rfl ?_
  refine cm_get (k := 34) (v := .ref (b + 35)) d_TR_addAll_4 TR_f9 (by decide) (cc_1 rfl) rfl ?_
  refine cm_len (k := 35) (n := 40) d_TR_addAll_7 jTy_0 (by decide) (cc_8 rfl rfl) ?_
  refine jt_aload_n d_TR_addAll_8 rfl ?_
  refine cm_get (k := 34) (v := .int (jI (I 34 3))) d_TR_addAll_9 TR_f21 (by decide) (cc_1 rfl) rfl ?_
  have rb1 : 0 ≤ I 34 3 ∧ I 34 3 ≤ 40 := hz0.1 34 3
  refine jt_isub d_TR_addAll_12 ?_
  refine jt_mmin d_TR_addAll_13 mw_min (by unfold jRi; omega) (by unfold jRi; omega) (show 1 ≤ d + 1 by omega) (show 0 + 13 ≤ (d + 1) * 40 by omega) (Nat.le_refl _) (Nat.le_refl _) ?_
  refine jt_topi (fun v2 ev2 => ?_)
  have mv2 : v2 ≤ q - p ∧ v2 ≤ 40 - (I 34 3) ∧ (v2 = q - p ∨ v2 = 40 - (I 34 3)) := by omega
  refine jt_istore (L' := [(0, .ref (b + 34)), (1, .ref (b + 1)), (2, .int (jI p)), (3, .int (jI q)), (4, .int (jI v2))]) d_TR_addAll_16 (Nat.le_of_ble_eq_true rfl) rfl ?_
  refine jt_iload_n d_TR_addAll_18 rfl ?_
  refine jt_if_lt (t := 92) d_TR_addAll_19 rfl (by unfold jRi; omega) (fun c3 => ?_) (fun c3 => ?_)
  · skip
    exact cm_vret d_TR_addAll_92 rfl (⟨rfl, hz0, fun z => z⟩)
  · skip
    refine jt_iload d_TR_addAll_22 rfl ?_
    refine jt_if_le (t := 92) d_TR_addAll_24 rfl (by unfold jRi; omega) (fun c4 => ?_) (fun c4 => ?_)
    · skip
      exact cm_vret d_TR_addAll_92 rfl (⟨rfl, hz0, fun z => z⟩)
    · skip
      refine jt_aload_n d_TR_addAll_27 rfl ?_
      refine cm_get (k := 1) (v := .ref (b + 2)) d_TR_addAll_28 TR_f9 (by decide) (cc_1 rfl) rfl ?_
      refine jt_iload_n d_TR_addAll_31 rfl ?_
      refine jt_aload_n d_TR_addAll_32 rfl ?_
      refine cm_get (k := 34) (v := .ref (b + 35)) d_TR_addAll_33 TR_f9 (by decide) (cc_1 rfl) rfl ?_
      refine jt_aload_n d_TR_addAll_36 rfl ?_
      refine cm_get (k := 34) (v := .int (jI (I 34 3))) d_TR_addAll_37 TR_f21 (by decide) (cc_1 rfl) rfl ?_
      refine jt_iload d_TR_addAll_40 rfl ?_
      refine cm_cpy (k0 := 2) (k1 := 35) (n0 := 120) (n1 := 40) (sp := p) (dp := (I 34 3)) (n := v2) d_TR_addAll_42 TR_ac34 (by decide) (by decide) rfl rfl rfl rfl (by omega) (by omega) (by omega) (by omega) (by omega) (by omega) (by omega) (show 1 ≤ d + 1 by omega) (by have e9 : nativeFrameWords "java/lang/System" "arraycopy" 5 = 7 := (by decide); rw [e9]; show 0 + (7 + 11) ≤ (d + 1) * 40; omega) ?_
      have p5 := cPo.A 35 (jcp (A 2) (A 35) p (I 34 3) v2) hz0 (Or.inl rfl) (jcp_r (hz0.2.1 2) (hz0.2.1 35))
      refine jt_aload_n d_TR_addAll_45 rfl ?_
      refine cm_get (k := 1) (v := .ref (b + 3)) d_TR_addAll_46 TR_f15 (by decide) (cc_1 rfl) rfl ?_
      refine jt_iload_n d_TR_addAll_49 rfl ?_
      refine jt_aload_n d_TR_addAll_50 rfl ?_
      refine cm_get (k := 34) (v := .ref (b + 36)) d_TR_addAll_51 TR_f15 (by decide) (cc_1 rfl) rfl ?_
      refine jt_aload_n d_TR_addAll_54 rfl ?_
      refine cm_get (k := 34) (v := .int (jI (I 34 3))) d_TR_addAll_55 TR_f21 (by decide) (cc_1 rfl) rfl ?_
      refine jt_iload d_TR_addAll_58 rfl ?_
      refine cm_cpy (k0 := 3) (k1 := 36) (n0 := 120) (n1 := 40) (sp := p) (dp := (I 34 3)) (n := v2) d_TR_addAll_60 TR_ac34 (by decide) (by decide) rfl rfl rfl rfl (by omega) (by omega) (by omega) (by omega) (by omega) (by omega) (by omega) (show 1 ≤ d + 1 by omega) (by have e9 : nativeFrameWords "java/lang/System" "arraycopy" 5 = 7 := (by decide); rw [e9]; show 0 + (7 + 11) ≤ (d + 1) * 40; omega) ?_
      have p6 := cPo.A 36 (jcp (A 3) (A 36) p (I 34 3) v2) p5 (Or.inl rfl) (jcp_r (p5.2.1 3) (p5.2.1 36))
      refine jt_aload_n d_TR_addAll_63 rfl ?_
      refine cm_get (k := 1) (v := .ref (b + 4)) d_TR_addAll_64 TR_f18 (by decide) (cc_1 rfl) rfl ?_
      refine jt_iload_n d_TR_addAll_67 rfl ?_
      refine jt_aload_n d_TR_addAll_68 rfl ?_
      refine cm_get (k := 34) (v := .ref (b + 37)) d_TR_addAll_69 TR_f18 (by decide) (cc_1 rfl) rfl ?_
      refine jt_aload_n d_TR_addAll_72 rfl ?_
      refine cm_get (k := 34) (v := .int (jI (I 34 3))) d_TR_addAll_73 TR_f21 (by decide) (cc_1 rfl) rfl ?_
      refine jt_iload d_TR_addAll_76 rfl ?_
      refine cm_cpy (k0 := 4) (k1 := 37) (n0 := 120) (n1 := 40) (sp := p) (dp := (I 34 3)) (n := v2) d_TR_addAll_78 TR_ac34 (by decide) (by decide) rfl rfl rfl rfl (by omega) (by omega) (by omega) (by omega) (by omega) (by omega) (by omega) (show 1 ≤ d + 1 by omega) (by have e9 : nativeFrameWords "java/lang/System" "arraycopy" 5 = 7 := (by decide); rw [e9]; show 0 + (7 + 11) ≤ (d + 1) * 40; omega) ?_
      have p7 := cPo.A 37 (jcp (A 4) (A 37) p (I 34 3) v2) p6 (Or.inl rfl) (jcp_r (p6.2.1 4) (p6.2.1 37))
      refine jt_aload_n d_TR_addAll_81 rfl ?_
      refine jt_dup d_TR_addAll_82 rfl ?_
      refine cm_get (k := 34) (v := .int (jI (I 34 3))) d_TR_addAll_83 TR_f21 (by decide) (cc_1 rfl) rfl ?_
      refine jt_iload d_TR_addAll_86 rfl ?_
      refine jt_iadd d_TR_addAll_88 ?_
      refine jt_topi (fun v8 ev8 => ?_)
      refine cm_put (k := 34) (j := 3) (v := v8) d_TR_addAll_89 (TR_w21 _ rfl) (by decide) (cc_1 rfl) rfl rfl (Nat.le_of_ble_eq_true rfl) rfl ?_
      have p9 := cPo.I 34 3 v8 p7 rfl (show 0 ≤ v8 ∧ v8 ≤ 40 by omega)
      exact cm_vret d_TR_addAll_92 rfl (⟨rfl, p9, fun z1 => cTok_n 37 _ (cTok_w 34 _ _ z1 (jcp_tok (z1 1 rfl) (z1 34 rfl)) rfl) rfl⟩)
set_option maxRecDepth 100000 in
set_option maxHeartbeats 4000000 in
theorem v_TR_copy_39 (G : jG) (d b : Nat)  (I : Nat → Nat → Int) (A : Nat → Int → Int) (hI : cSI I) (hA : cSA A) : cct G Y_TR_copy (d + 2) b [.ref (b + 39), .ref (b + 1)] I A (fun (rv : Option Value) (I2 : Nat → Nat → Int) (A2 : Nat → Int → Int) => rv = none ∧ cPo [627] [40, 41, 42] I A I2 A2 ∧ (cTok A → cTok A2)) := by
  refine cct_of (by decide) (Nat.le_of_ble_eq_true rfl) (fun f0 sz => ?_)
  show jt _ 0 [(0, .ref (b + 39)), (1, .ref (b + 1))] [] _ _ _ _
  have hz0 : cPo [627] [40, 41, 42] I A I A := cPo.refl hI hA
  refine jt_aload_n d_TR_copy_0 rfl ?_
  refine jt_iconst d_TR_copy_1 ?_
  refine cm_put (k := 39) (j := 3) (v := 0) d_TR_copy_2 (TR_w21 _ rfl) (by decide) (cc_1 rfl) rfl rfl (Nat.le_of_ble_eq_true rfl) rfl ?_
  have p1 := cPo.I 39 3 0 hz0 rfl (show 0 ≤ 0 ∧ 0 ≤ 300 by omega)
  refine jt_aload_n d_TR_copy_5 rfl ?_
  refine jt_aload_n d_TR_copy_6 rfl ?_
  refine jt_iconst d_TR_copy_7 ?_
  refine jt_aload_n d_TR_copy_8 rfl ?_
  refine cm_get (k := 1) (v := .int (jI (I 1 3))) d_TR_copy_9 TR_f21 (by decide) (cc_1 rfl) rfl ?_
  have rb2 : 0 ≤ I 1 3 ∧ I 1 3 ≤ 120 := p1.1 1 3
  refine cct_callV (Y := Y_TR_addAll) (ci := 0) (k := 39) (As := [.ref (b + 1), .int (jI 0), .int (jI (I 1 3))]) (rest := []) d_TR_copy_12 TR_c40 yk_TR_addAll yv_TR_addAll rfl (Nat.le_of_ble_eq_true rfl) (by decide) (cc_1 rfl) rfl rfl (Nat.le_of_ble_eq_true rfl) (v_TR_addAll_39_1 G _ b 0 (I 1 3) (cu I 39 3 0) A p1.1 p1.2.1 (by omega) (by omega)) (fun rvq3 Iq3 Aq3 hq3 => ?_)
  obtain ⟨rfl, hqq3, hxq3⟩ := hq3
  have hpq3 := cPo.trans p1 hqq3 rfl rfl
  show jt _ 15 [(0, .ref (b + 39)), (1, .ref (b + 1))] [] (cmf b f0 Iq3 Aq3) _ _ _
  exact cm_vret d_TR_copy_15 rfl (⟨rfl, hpq3, hxq3⟩)
set_option maxRecDepth 100000 in
set_option maxHeartbeats 4000000 in
theorem v_TR_copy_14 (G : jG) (d b : Nat)  (I : Nat → Nat → Int) (A : Nat → Int → Int) (hI : cSI I) (hA : cSA A) : cct G Y_TR_copy (d + 2) b [.ref (b + 14), .ref (b + 1)] I A (fun (rv : Option Value) (I2 : Nat → Nat → Int) (A2 : Nat → Int → Int) => rv = none ∧ cPo [227] [15, 16, 17] I A I2 A2 ∧ (cTok A → cTok A2)) := by
  refine cct_of (by decide) (Nat.le_of_ble_eq_true rfl) (fun f0 sz => ?_)
  show jt _ 0 [(0, .ref (b + 14)), (1, .ref (b + 1))] [] _ _ _ _
  have hz0 : cPo [227] [15, 16, 17] I A I A := cPo.refl hI hA
  refine jt_aload_n d_TR_copy_0 rfl ?_
  refine jt_iconst d_TR_copy_1 ?_
  refine cm_put (k := 14) (j := 3) (v := 0) d_TR_copy_2 (TR_w21 _ rfl) (by decide) (cc_1 rfl) rfl rfl (Nat.le_of_ble_eq_true rfl) rfl ?_
  have p1 := cPo.I 14 3 0 hz0 rfl (show 0 ≤ 0 ∧ 0 ≤ 40 by omega)
  refine jt_aload_n d_TR_copy_5 rfl ?_
  refine jt_aload_n d_TR_copy_6 rfl ?_
  refine jt_iconst d_TR_copy_7 ?_
  refine jt_aload_n d_TR_copy_8 rfl ?_
  refine cm_get (k := 1) (v := .int (jI (I 1 3))) d_TR_copy_9 TR_f21 (by decide) (cc_1 rfl) rfl ?_
  have rb2 : 0 ≤ I 1 3 ∧ I 1 3 ≤ 120 := p1.1 1 3
  refine cct_callV (Y := Y_TR_addAll) (ci := 0) (k := 14) (As := [.ref (b + 1), .int (jI 0), .int (jI (I 1 3))]) (rest := []) d_TR_copy_12 TR_c40 yk_TR_addAll yv_TR_addAll rfl (Nat.le_of_ble_eq_true rfl) (by decide) (cc_1 rfl) rfl rfl (Nat.le_of_ble_eq_true rfl) (v_TR_addAll_14_1 G _ b 0 (I 1 3) (cu I 14 3 0) A p1.1 p1.2.1 (by omega) (by omega)) (fun rvq3 Iq3 Aq3 hq3 => ?_)
  obtain ⟨rfl, hqq3, hxq3⟩ := hq3
  have hpq3 := cPo.trans p1 hqq3 rfl rfl
  show jt _ 15 [(0, .ref (b + 14)), (1, .ref (b + 1))] [] (cmf b f0 Iq3 Aq3) _ _ _
  exact cm_vret d_TR_copy_15 rfl (⟨rfl, hpq3, hxq3⟩)
set_option maxRecDepth 100000 in
set_option maxHeartbeats 4000000 in
theorem v_TR_copy_18 (G : jG) (d b : Nat)  (I : Nat → Nat → Int) (A : Nat → Int → Int) (hI : cSI I) (hA : cSA A) : cct G Y_TR_copy (d + 2) b [.ref (b + 18), .ref (b + 1)] I A (fun (rv : Option Value) (I2 : Nat → Nat → Int) (A2 : Nat → Int → Int) => rv = none ∧ cPo [291] [19, 20, 21] I A I2 A2 ∧ (cTok A → cTok A2)) := by
  refine cct_of (by decide) (Nat.le_of_ble_eq_true rfl) (fun f0 sz => ?_)
  show jt _ 0 [(0, .ref (b + 18)), (1, .ref (b + 1))] [] _ _ _ _
  have hz0 : cPo [291] [19, 20, 21] I A I A := cPo.refl hI hA
  refine jt_aload_n d_TR_copy_0 rfl ?_
  refine jt_iconst d_TR_copy_1 ?_
  refine cm_put (k := 18) (j := 3) (v := 0) d_TR_copy_2 (TR_w21 _ rfl) (by decide) (cc_1 rfl) rfl rfl (Nat.le_of_ble_eq_true rfl) rfl ?_
  have p1 := cPo.I 18 3 0 hz0 rfl (show 0 ≤ 0 ∧ 0 ≤ 40 by omega)
  refine jt_aload_n d_TR_copy_5 rfl ?_
  refine jt_aload_n d_TR_copy_6 rfl ?_
  refine jt_iconst d_TR_copy_7 ?_
  refine jt_aload_n d_TR_copy_8 rfl ?_
  refine cm_get (k := 1) (v := .int (jI (I 1 3))) d_TR_copy_9 TR_f21 (by decide) (cc_1 rfl) rfl ?_
  have rb2 : 0 ≤ I 1 3 ∧ I 1 3 ≤ 120 := p1.1 1 3
  refine cct_callV (Y := Y_TR_addAll) (ci := 0) (k := 18) (As := [.ref (b + 1), .int (jI 0), .int (jI (I 1 3))]) (rest := []) d_TR_copy_12 TR_c40 yk_TR_addAll yv_TR_addAll rfl (Nat.le_of_ble_eq_true rfl) (by decide) (cc_1 rfl) rfl rfl (Nat.le_of_ble_eq_true rfl) (v_TR_addAll_18_1 G _ b 0 (I 1 3) (cu I 18 3 0) A p1.1 p1.2.1 (by omega) (by omega)) (fun rvq3 Iq3 Aq3 hq3 => ?_)
  obtain ⟨rfl, hqq3, hxq3⟩ := hq3
  have hpq3 := cPo.trans p1 hqq3 rfl rfl
  show jt _ 15 [(0, .ref (b + 18)), (1, .ref (b + 1))] [] (cmf b f0 Iq3 Aq3) _ _ _
  exact cm_vret d_TR_copy_15 rfl (⟨rfl, hpq3, hxq3⟩)
set_option maxRecDepth 100000 in
set_option maxHeartbeats 4000000 in
theorem v_TR_copy_22 (G : jG) (d b : Nat)  (I : Nat → Nat → Int) (A : Nat → Int → Int) (hI : cSI I) (hA : cSA A) : cct G Y_TR_copy (d + 2) b [.ref (b + 22), .ref (b + 1)] I A (fun (rv : Option Value) (I2 : Nat → Nat → Int) (A2 : Nat → Int → Int) => rv = none ∧ cPo [355] [23, 24, 25] I A I2 A2 ∧ (cTok A → cTok A2)) := by
  refine cct_of (by decide) (Nat.le_of_ble_eq_true rfl) (fun f0 sz => ?_)
  show jt _ 0 [(0, .ref (b + 22)), (1, .ref (b + 1))] [] _ _ _ _
  have hz0 : cPo [355] [23, 24, 25] I A I A := cPo.refl hI hA
  refine jt_aload_n d_TR_copy_0 rfl ?_
  refine jt_iconst d_TR_copy_1 ?_
  refine cm_put (k := 22) (j := 3) (v := 0) d_TR_copy_2 (TR_w21 _ rfl) (by decide) (cc_1 rfl) rfl rfl (Nat.le_of_ble_eq_true rfl) rfl ?_
  have p1 := cPo.I 22 3 0 hz0 rfl (show 0 ≤ 0 ∧ 0 ≤ 40 by omega)
  refine jt_aload_n d_TR_copy_5 rfl ?_
  refine jt_aload_n d_TR_copy_6 rfl ?_
  refine jt_iconst d_TR_copy_7 ?_
  refine jt_aload_n d_TR_copy_8 rfl ?_
  refine cm_get (k := 1) (v := .int (jI (I 1 3))) d_TR_copy_9 TR_f21 (by decide) (cc_1 rfl) rfl ?_
  have rb2 : 0 ≤ I 1 3 ∧ I 1 3 ≤ 120 := p1.1 1 3
  refine cct_callV (Y := Y_TR_addAll) (ci := 0) (k := 22) (As := [.ref (b + 1), .int (jI 0), .int (jI (I 1 3))]) (rest := []) d_TR_copy_12 TR_c40 yk_TR_addAll yv_TR_addAll rfl (Nat.le_of_ble_eq_true rfl) (by decide) (cc_1 rfl) rfl rfl (Nat.le_of_ble_eq_true rfl) (v_TR_addAll_22_1 G _ b 0 (I 1 3) (cu I 22 3 0) A p1.1 p1.2.1 (by omega) (by omega)) (fun rvq3 Iq3 Aq3 hq3 => ?_)
  obtain ⟨rfl, hqq3, hxq3⟩ := hq3
  have hpq3 := cPo.trans p1 hqq3 rfl rfl
  show jt _ 15 [(0, .ref (b + 22)), (1, .ref (b + 1))] [] (cmf b f0 Iq3 Aq3) _ _ _
  exact cm_vret d_TR_copy_15 rfl (⟨rfl, hpq3, hxq3⟩)
set_option maxRecDepth 100000 in
set_option maxHeartbeats 4000000 in
theorem v_TR_copy_26 (G : jG) (d b : Nat)  (I : Nat → Nat → Int) (A : Nat → Int → Int) (hI : cSI I) (hA : cSA A) : cct G Y_TR_copy (d + 2) b [.ref (b + 26), .ref (b + 1)] I A (fun (rv : Option Value) (I2 : Nat → Nat → Int) (A2 : Nat → Int → Int) => rv = none ∧ cPo [419] [27, 28, 29] I A I2 A2 ∧ (cTok A → cTok A2)) := by
  refine cct_of (by decide) (Nat.le_of_ble_eq_true rfl) (fun f0 sz => ?_)
  show jt _ 0 [(0, .ref (b + 26)), (1, .ref (b + 1))] [] _ _ _ _
  have hz0 : cPo [419] [27, 28, 29] I A I A := cPo.refl hI hA
  refine jt_aload_n d_TR_copy_0 rfl ?_
  refine jt_iconst d_TR_copy_1 ?_
  refine cm_put (k := 26) (j := 3) (v := 0) d_TR_copy_2 (TR_w21 _ rfl) (by decide) (cc_1 rfl) rfl rfl (Nat.le_of_ble_eq_true rfl) rfl ?_
  have p1 := cPo.I 26 3 0 hz0 rfl (show 0 ≤ 0 ∧ 0 ≤ 40 by omega)
  refine jt_aload_n d_TR_copy_5 rfl ?_
  refine jt_aload_n d_TR_copy_6 rfl ?_
  refine jt_iconst d_TR_copy_7 ?_
  refine jt_aload_n d_TR_copy_8 rfl ?_
  refine cm_get (k := 1) (v := .int (jI (I 1 3))) d_TR_copy_9 TR_f21 (by decide) (cc_1 rfl) rfl ?_
  have rb2 : 0 ≤ I 1 3 ∧ I 1 3 ≤ 120 := p1.1 1 3
  refine cct_callV (Y := Y_TR_addAll) (ci := 0) (k := 26) (As := [.ref (b + 1), .int (jI 0), .int (jI (I 1 3))]) (rest := []) d_TR_copy_12 TR_c40 yk_TR_addAll yv_TR_addAll rfl (Nat.le_of_ble_eq_true rfl) (by decide) (cc_1 rfl) rfl rfl (Nat.le_of_ble_eq_true rfl) (v_TR_addAll_26_1 G _ b 0 (I 1 3) (cu I 26 3 0) A p1.1 p1.2.1 (by omega) (by omega)) (fun rvq3 Iq3 Aq3 hq3 => ?_)
  obtain ⟨rfl, hqq3, hxq3⟩ := hq3
  have hpq3 := cPo.trans p1 hqq3 rfl rfl
  show jt _ 15 [(0, .ref (b + 26)), (1, .ref (b + 1))] [] (cmf b f0 Iq3 Aq3) _ _ _
  exact cm_vret d_TR_copy_15 rfl (⟨rfl, hpq3, hxq3⟩)
set_option maxRecDepth 100000 in
set_option maxHeartbeats 4000000 in
theorem v_TR_copy_30 (G : jG) (d b : Nat)  (I : Nat → Nat → Int) (A : Nat → Int → Int) (hI : cSI I) (hA : cSA A) : cct G Y_TR_copy (d + 2) b [.ref (b + 30), .ref (b + 1)] I A (fun (rv : Option Value) (I2 : Nat → Nat → Int) (A2 : Nat → Int → Int) => rv = none ∧ cPo [483] [31, 32, 33] I A I2 A2 ∧ (cTok A → cTok A2)) := by
  refine cct_of (by decide) (Nat.le_of_ble_eq_true rfl) (fun f0 sz => ?_)
  show jt _ 0 [(0, .ref (b + 30)), (1, .ref (b + 1))] [] _ _ _ _
  have hz0 : cPo [483] [31, 32, 33] I A I A := cPo.refl hI hA
  refine jt_aload_n d_TR_copy_0 rfl ?_
  refine jt_iconst d_TR_copy_1 ?_
  refine cm_put (k := 30) (j := 3) (v := 0) d_TR_copy_2 (TR_w21 _ rfl) (by decide) (cc_1 rfl) rfl rfl (Nat.le_of_ble_eq_true rfl) rfl ?_
  have p1 := cPo.I 30 3 0 hz0 rfl (show 0 ≤ 0 ∧ 0 ≤ 40 by omega)
  refine jt_aload_n d_TR_copy_5 rfl ?_
  refine jt_aload_n d_TR_copy_6 rfl ?_
  refine jt_iconst d_TR_copy_7 ?_
  refine jt_aload_n d_TR_copy_8 rfl ?_
  refine cm_get (k := 1) (v := .int (jI (I 1 3))) d_TR_copy_9 TR_f21 (by decide) (cc_1 rfl) rfl ?_
  have rb2 : 0 ≤ I 1 3 ∧ I 1 3 ≤ 120 := p1.1 1 3
  refine cct_callV (Y := Y_TR_addAll) (ci := 0) (k := 30) (As := [.ref (b + 1), .int (jI 0), .int (jI (I 1 3))]) (rest := []) d_TR_copy_12 TR_c40 yk_TR_addAll yv_TR_addAll rfl (Nat.le_of_ble_eq_true rfl) (by decide) (cc_1 rfl) rfl rfl (Nat.le_of_ble_eq_true rfl) (v_TR_addAll_30_1 G _ b 0 (I 1 3) (cu I 30 3 0) A p1.1 p1.2.1 (by omega) (by omega)) (fun rvq3 Iq3 Aq3 hq3 => ?_)
  obtain ⟨rfl, hqq3, hxq3⟩ := hq3
  have hpq3 := cPo.trans p1 hqq3 rfl rfl
  show jt _ 15 [(0, .ref (b + 30)), (1, .ref (b + 1))] [] (cmf b f0 Iq3 Aq3) _ _ _
  exact cm_vret d_TR_copy_15 rfl (⟨rfl, hpq3, hxq3⟩)
set_option maxRecDepth 100000 in
set_option maxHeartbeats 4000000 in
theorem v_TR_copy_34 (G : jG) (d b : Nat)  (I : Nat → Nat → Int) (A : Nat → Int → Int) (hI : cSI I) (hA : cSA A) : cct G Y_TR_copy (d + 2) b [.ref (b + 34), .ref (b + 1)] I A (fun (rv : Option Value) (I2 : Nat → Nat → Int) (A2 : Nat → Int → Int) => rv = none ∧ cPo [547] [35, 36, 37] I A I2 A2 ∧ (cTok A → cTok A2)) := by
  refine cct_of (by decide) (Nat.le_of_ble_eq_true rfl) (fun f0 sz => ?_)
  show jt _ 0 [(0, .ref (b + 34)), (1, .ref (b + 1))] [] _ _ _ _
  have hz0 : cPo [547] [35, 36, 37] I A I A := cPo.refl hI hA
  refine jt_aload_n d_TR_copy_0 rfl ?_
  refine jt_iconst d_TR_copy_1 ?_
  refine cm_put (k := 34) (j := 3) (v := 0) d_TR_copy_2 (TR_w21 _ rfl) (by decide) (cc_1 rfl) rfl rfl (Nat.le_of_ble_eq_true rfl) rfl ?_
  have p1 := cPo.I 34 3 0 hz0 rfl (show 0 ≤ 0 ∧ 0 ≤ 40 by omega)
  refine jt_aload_n d_TR_copy_5 rfl ?_
  refine jt_aload_n d_TR_copy_6 rfl ?_
  refine jt_iconst d_TR_copy_7 ?_
  refine jt_aload_n d_TR_copy_8 rfl ?_
  refine cm_get (k := 1) (v := .int (jI (I 1 3))) d_TR_copy_9 TR_f21 (by decide) (cc_1 rfl) rfl ?_
  have rb2 : 0 ≤ I 1 3 ∧ I 1 3 ≤ 120 := p1.1 1 3
  refine cct_callV (Y := Y_TR_addAll) (ci := 0) (k := 34) (As := [.ref (b + 1), .int (jI 0), .int (jI (I 1 3))]) (rest := []) d_TR_copy_12 TR_c40 yk_TR_addAll yv_TR_addAll rfl (Nat.le_of_ble_eq_true rfl) (by decide) (cc_1 rfl) rfl rfl (Nat.le_of_ble_eq_true rfl) (v_TR_addAll_34_1 G _ b 0 (I 1 3) (cu I 34 3 0) A p1.1 p1.2.1 (by omega) (by omega)) (fun rvq3 Iq3 Aq3 hq3 => ?_)
  obtain ⟨rfl, hqq3, hxq3⟩ := hq3
  have hpq3 := cPo.trans p1 hqq3 rfl rfl
  show jt _ 15 [(0, .ref (b + 34)), (1, .ref (b + 1))] [] (cmf b f0 Iq3 Aq3) _ _ _
  exact cm_vret d_TR_copy_15 rfl (⟨rfl, hpq3, hxq3⟩)

set_option maxRecDepth 100000 in
set_option maxHeartbeats 4000000 in
theorem v_GC_isBelow_x (G : jG) (d b : Nat) (v : Int) (n : Int) (I : Nat → Nat → Int) (A : Nat → Int → Int) (hI : cSI I) (hA : cSA A) (hv : -2147483648 ≤ v ∧ v ≤ 2147483647) (hn : -2147483648 ≤ n ∧ n ≤ 2147483647) : cct G Y_GC_isBelow d b [.int (jI v), .int (jI n)] I A (fun (rv : Option Value) (I2 : Nat → Nat → Int) (A2 : Nat → Int → Int) => ∃ y : Int, rv = some (.int (jI y)) ∧ (0 ≤ y ∧ y ≤ 1) ∧ I2 = I ∧ A2 = A ∧ (y = 1 → 0 ≤ v ∧ v < n) ∧ (y = 0 → ¬ (0 ≤ v ∧ v < n))) := by
  refine cct_of (by decide) (Nat.le_of_ble_eq_true rfl) (fun f0 sz => ?_)
  show jt _ 0 [(0, .int (jI v)), (1, .int (jI n))] [] _ _ _ _
  have hz0 : cPx [] [] I A I A := cPx.refl hI hA
  refine jt_iload_n d_GC_isBelow_0 rfl ?_
  refine jt_if_lt (t := 13) d_GC_isBelow_1 rfl (by unfold jRi; omega) (fun c1 => ?_) (fun c1 => ?_)
  · skip
    refine jt_iconst d_GC_isBelow_13 ?_
    exact cm_ret d_GC_isBelow_14 rfl (jnz (by omega)) (⟨0, rfl, by omega, rfl, rfl, fun z => by omega, fun z => by omega⟩)
  · skip
    refine jt_iload_n d_GC_isBelow_4 rfl ?_
    refine jt_iload_n d_GC_isBelow_5 rfl ?_
    refine jt_icmp_ge (t := 13) d_GC_isBelow_6 rfl (by unfold jRi; omega) (by unfold jRi; omega) (fun c2 => ?_) (fun c2 => ?_)
    · skip
      refine jt_iconst d_GC_isBelow_13 ?_
      exact cm_ret d_GC_isBelow_14 rfl (jnz (by omega)) (⟨0, rfl, by omega, rfl, rfl, fun z => by omega, fun z => by omega⟩)
    · skip
      refine jt_iconst d_GC_isBelow_9 ?_
      refine jt_goto (t := 14) d_GC_isBelow_10 rfl ?_
      exact cm_ret d_GC_isBelow_14 rfl (jnz (by omega)) (⟨1, rfl, by omega, rfl, rfl, fun z => by omega, fun z => by omega⟩)
set_option maxRecDepth 100000 in
set_option maxHeartbeats 4000000 in
theorem v_GC_isToken_x (G : jG) (d b : Nat) (k : Int) (v : Int) (I : Nat → Nat → Int) (A : Nat → Int → Int) (hI : cSI I) (hA : cSA A) (hk : -2147483648 ≤ k ∧ k ≤ 2147483647) (hv : -2147483648 ≤ v ∧ v ≤ 2147483647) : cct G Y_GC_isToken (d + 1) b [.int (jI k), .int (jI v)] I A (fun (rv : Option Value) (I2 : Nat → Nat → Int) (A2 : Nat → Int → Int) => ∃ y : Int, rv = some (.int (jI y)) ∧ (0 ≤ y ∧ y ≤ 1) ∧ I2 = I ∧ A2 = A ∧ (y = 1 → gtok k v) ∧ (y = 0 → ¬ gtok k v)) := by
  refine cct_of (by decide) (Nat.le_of_ble_eq_true rfl) (fun f0 sz => ?_)
  show jt _ 0 [(0, .int (jI k)), (1, .int (jI v))] [] _ _ _ _
  have hz0 : cPx [] [] I A I A := cPx.refl hI hA
  refine jt_iload_n d_GC_isToken_0 rfl ?_
  by_cases hsw : k < 0 ∨ 4 < k
  · skip
    refine jt_tableOut (t := 83) d_GC_isToken_1 (by unfold jRi; omega) hsw rfl ?_
    refine jt_iconst d_GC_isToken_83 ?_
    exact cm_ret d_GC_isToken_84 rfl (jnz (by omega)) (⟨0, rfl, by omega, rfl, rfl, fun z => by unfold gtok; omega, fun z => by unfold gtok; omega⟩)
  by_cases hs0 : k = 0
  · skip
    refine jt_tableIn (t := 36) d_GC_isToken_1 (by unfold jRi; omega) (by omega) (by omega) (by rw [hs0]; rfl) rfl ?_
    refine jt_iload_n d_GC_isToken_36 rfl ?_
    refine jt_sipush d_GC_isToken_37 (by omega) ?_
    refine jt_icmp_lt (t := 54) d_GC_isToken_40 rfl (by unfold jRi; omega) (by unfold jRi; omega) (fun c1 => ?_) (fun c1 => ?_)
    · skip
      refine jt_iconst d_GC_isToken_54 ?_
      exact cm_ret d_GC_isToken_55 rfl (jnz (by omega)) (⟨0, rfl, by omega, rfl, rfl, fun z => by unfold gtok; omega, fun z => by unfold gtok; omega⟩)
    · skip
      refine jt_iload_n d_GC_isToken_43 rfl ?_
      refine jt_sipush d_GC_isToken_44 (by omega) ?_
      refine jt_icmp_gt (t := 54) d_GC_isToken_47 rfl (by unfold jRi; omega) (by unfold jRi; omega) (fun c2 => ?_) (fun c2 => ?_)
      · skip
        refine jt_iconst d_GC_isToken_54 ?_
        exact cm_ret d_GC_isToken_55 rfl (jnz (by omega)) (⟨0, rfl, by omega, rfl, rfl, fun z => by unfold gtok; omega, fun z => by unfold gtok; omega⟩)
      · skip
        refine jt_iconst d_GC_isToken_50 ?_
        refine jt_goto (t := 55) d_GC_isToken_51 rfl ?_
        exact cm_ret d_GC_isToken_55 rfl (jnz (by omega)) (⟨1, rfl, by omega, rfl, rfl, fun z => by unfold gtok; omega, fun z => by unfold gtok; omega⟩)
  by_cases hs1 : k = 1
  · skip
    refine jt_tableIn (t := 56) d_GC_isToken_1 (by unfold jRi; omega) (by omega) (by omega) (by rw [hs1]; rfl) rfl ?_
    refine jt_iload_n d_GC_isToken_56 rfl ?_
    refine jt_bipush d_GC_isToken_57 (by omega) ?_
    refine cct_callS (Y := Y_GC_isBelow) (As := [.int (jI v), .int (jI 12)]) (rest := []) d_GC_isToken_59 GC_c72 yk_GC_isBelow ys_GC_isBelow (Nat.le_of_ble_eq_true rfl) rfl rfl (Nat.le_of_ble_eq_true rfl) (v_GC_isBelow_x G _ b v 12 I A hz0.1 hz0.2.1 (by omega) (by omega)) (fun rvq3 Iq3 Aq3 hq3 => ?_)
    obtain ⟨yq3, rfl, ryq3, hIq3, hAq3, hxq3⟩ := hq3
    rw [hIq3, hAq3]
    by_cases gbq3 : yq3 = 1
    · skip
      obtain rfl : yq3 = 1 := by omega
      have hwq3 := hxq3.1 rfl
      show jt _ 62 [(0, .int (jI k)), (1, .int (jI v))] [.int (jI 1)] (cmf b f0 I A) _ _ _
      exact cm_ret d_GC_isToken_62 rfl (jnz (by omega)) (⟨1, rfl, by omega, rfl, rfl, fun z => by unfold gtok; omega, fun z => by unfold gtok; omega⟩)
    · skip
      obtain rfl : yq3 = 0 := by omega
      have hwq3 := hxq3.2 rfl
      show jt _ 62 [(0, .int (jI k)), (1, .int (jI v))] [.int (jI 0)] (cmf b f0 I A) _ _ _
      exact cm_ret d_GC_isToken_62 rfl (jnz (by omega)) (⟨0, rfl, by omega, rfl, rfl, fun z => by unfold gtok; omega, fun z => by unfold gtok; omega⟩)
  by_cases hs2 : k = 2
  · skip
    refine jt_tableIn (t := 63) d_GC_isToken_1 (by unfold jRi; omega) (by omega) (by omega) (by rw [hs2]; rfl) rfl ?_
    refine jt_iload_n d_GC_isToken_63 rfl ?_
    refine jt_iconst d_GC_isToken_64 ?_
    refine cct_callS (Y := Y_GC_isBelow) (As := [.int (jI v), .int (jI 3)]) (rest := []) d_GC_isToken_65 GC_c72 yk_GC_isBelow ys_GC_isBelow (Nat.le_of_ble_eq_true rfl) rfl rfl (Nat.le_of_ble_eq_true rfl) (v_GC_isBelow_x G _ b v 3 I A hz0.1 hz0.2.1 (by omega) (by omega)) (fun rvq4 Iq4 Aq4 hq4 => ?_)
    obtain ⟨yq4, rfl, ryq4, hIq4, hAq4, hxq4⟩ := hq4
    rw [hIq4, hAq4]
    by_cases gbq4 : yq4 = 1
    · skip
      obtain rfl : yq4 = 1 := by omega
      have hwq4 := hxq4.1 rfl
      show jt _ 68 [(0, .int (jI k)), (1, .int (jI v))] [.int (jI 1)] (cmf b f0 I A) _ _ _
      exact cm_ret d_GC_isToken_68 rfl (jnz (by omega)) (⟨1, rfl, by omega, rfl, rfl, fun z => by unfold gtok; omega, fun z => by unfold gtok; omega⟩)
    · skip
      obtain rfl : yq4 = 0 := by omega
      have hwq4 := hxq4.2 rfl
      show jt _ 68 [(0, .int (jI k)), (1, .int (jI v))] [.int (jI 0)] (cmf b f0 I A) _ _ _
      exact cm_ret d_GC_isToken_68 rfl (jnz (by omega)) (⟨0, rfl, by omega, rfl, rfl, fun z => by unfold gtok; omega, fun z => by unfold gtok; omega⟩)
  by_cases hs3 : k = 3
  · skip
    refine jt_tableIn (t := 69) d_GC_isToken_1 (by unfold jRi; omega) (by omega) (by omega) (by rw [hs3]; rfl) rfl ?_
    refine jt_iload_n d_GC_isToken_69 rfl ?_
    refine jt_bipush d_GC_isToken_70 (by omega) ?_
    refine cct_callS (Y := Y_GC_isBelow) (As := [.int (jI v), .int (jI 6)]) (rest := []) d_GC_isToken_72 GC_c72 yk_GC_isBelow ys_GC_isBelow (Nat.le_of_ble_eq_true rfl) rfl rfl (Nat.le_of_ble_eq_true rfl) (v_GC_isBelow_x G _ b v 6 I A hz0.1 hz0.2.1 (by omega) (by omega)) (fun rvq5 Iq5 Aq5 hq5 => ?_)
    obtain ⟨yq5, rfl, ryq5, hIq5, hAq5, hxq5⟩ := hq5
    rw [hIq5, hAq5]
    by_cases gbq5 : yq5 = 1
    · skip
      obtain rfl : yq5 = 1 := by omega
      have hwq5 := hxq5.1 rfl
      show jt _ 75 [(0, .int (jI k)), (1, .int (jI v))] [.int (jI 1)] (cmf b f0 I A) _ _ _
      exact cm_ret d_GC_isToken_75 rfl (jnz (by omega)) (⟨1, rfl, by omega, rfl, rfl, fun z => by unfold gtok; omega, fun z => by unfold gtok; omega⟩)
    · skip
      obtain rfl : yq5 = 0 := by omega
      have hwq5 := hxq5.2 rfl
      show jt _ 75 [(0, .int (jI k)), (1, .int (jI v))] [.int (jI 0)] (cmf b f0 I A) _ _ _
      exact cm_ret d_GC_isToken_75 rfl (jnz (by omega)) (⟨0, rfl, by omega, rfl, rfl, fun z => by unfold gtok; omega, fun z => by unfold gtok; omega⟩)
  by_cases hs4 : k = 4
  · skip
    refine jt_tableIn (t := 76) d_GC_isToken_1 (by unfold jRi; omega) (by omega) (by omega) (by rw [hs4]; rfl) rfl ?_
    refine jt_iload_n d_GC_isToken_76 rfl ?_
    refine jt_bipush d_GC_isToken_77 (by omega) ?_
    refine cct_callS (Y := Y_GC_isBelow) (As := [.int (jI v), .int (jI 14)]) (rest := []) d_GC_isToken_79 GC_c72 yk_GC_isBelow ys_GC_isBelow (Nat.le_of_ble_eq_true rfl) rfl rfl (Nat.le_of_ble_eq_true rfl) (v_GC_isBelow_x G _ b v 14 I A hz0.1 hz0.2.1 (by omega) (by omega)) (fun rvq6 Iq6 Aq6 hq6 => ?_)
    obtain ⟨yq6, rfl, ryq6, hIq6, hAq6, hxq6⟩ := hq6
    rw [hIq6, hAq6]
    by_cases gbq6 : yq6 = 1
    · skip
      obtain rfl : yq6 = 1 := by omega
      have hwq6 := hxq6.1 rfl
      show jt _ 82 [(0, .int (jI k)), (1, .int (jI v))] [.int (jI 1)] (cmf b f0 I A) _ _ _
      exact cm_ret d_GC_isToken_82 rfl (jnz (by omega)) (⟨1, rfl, by omega, rfl, rfl, fun z => by unfold gtok; omega, fun z => by unfold gtok; omega⟩)
    · skip
      obtain rfl : yq6 = 0 := by omega
      have hwq6 := hxq6.2 rfl
      show jt _ 82 [(0, .int (jI k)), (1, .int (jI v))] [.int (jI 0)] (cmf b f0 I A) _ _ _
      exact cm_ret d_GC_isToken_82 rfl (jnz (by omega)) (⟨0, rfl, by omega, rfl, rfl, fun z => by unfold gtok; omega, fun z => by unfold gtok; omega⟩)
  exfalso
  omega
set_option maxRecDepth 100000 in
set_option maxHeartbeats 4000000 in
theorem l4_TR_greatestArgument_xv (G : jG) (d b : Nat)  (I : Nat → Nat → Int) (A : Nat → Int → Int) (hI : cSI I) (hA : cSA A) (f0 : jF) (sz : Nat)   : ∀ (n9 : Nat) (n : Int) (q : Int) (J : Nat → Nat → Int) (B : Nat → Int → Int), cPx [] [] I A J B → (0 ≤ q ∧ q ≤ I 1 3) → (-2147483648 ≤ n ∧ n ≤ 2147483647) → (gGr (A 2) (A 3) q n) → (gMx (A 2) (A 3) q n) → (J = I) → (B = A) → 120 - q < (n9 : Int) → jt (jm G Y_TR_greatestArgument (gR (d + 1)) (cQ b f0 sz (fun (rv : Option Value) (I2 : Nat → Nat → Int) (A2 : Nat → Int → Int) => ∃ y : Int, rv = some (.int (jI y)) ∧ (-2147483648 ≤ y ∧ y ≤ 2147483647) ∧ I2 = I ∧ A2 = A ∧ gGr (A 2) (A 3) (I 1 3) y ∧ gMx (A 2) (A 3) (I 1 3) y))) 4 [(0, .ref (b + 1)), (1, .int (jI n)), (2, .int (jI q))] [] (cmf b f0 J B) sz 0 0 := by
  have r13 : 0 ≤ I 1 3 ∧ I 1 3 ≤ 120 := hI 1 3
  intro n9
  induction n9 with
  | zero =>
    intro n q J B hJ q0 n0 hg hm eJ eB hmeas
    have f13 : J 1 3 = I 1 3 := by rw [eJ]
    exfalso
    omega
  | succ n9 ih =>
    intro n q J B hJ q0 n0 hg hm eJ eB hmeas
    have f13 : J 1 3 = I 1 3 := by rw [eJ]
    refine jt_iload_n d_TR_greatestArgument_4 rfl ?_
    refine jt_aload_n d_TR_greatestArgument_5 rfl ?_
    refine cm_get (k := 1) (v := .int (jI (J 1 3))) d_TR_greatestArgument_6 TR_f21 (by decide) (cc_1 rfl) rfl ?_
    have rb101 : 0 ≤ J 1 3 ∧ J 1 3 ≤ 120 := hJ.1 1 3
    refine jt_icmp_ge (t := 39) d_TR_greatestArgument_9 rfl (by unfold jRi; omega) (by unfold jRi; omega) (fun c102 => ?_) (fun c102 => ?_)
    · skip
      refine jt_iload_n d_TR_greatestArgument_39 rfl ?_
      exact cm_ret d_TR_greatestArgument_40 rfl rfl (⟨n, rfl, by omega, eJ, eB, by rw [show I 1 3 = q by omega]; exact hg, by rw [show I 1 3 = q by omega]; exact hm⟩)
    · skip
      refine jt_aload_n d_TR_greatestArgument_12 rfl ?_
      refine cm_get (k := 1) (v := .ref (b + 2)) d_TR_greatestArgument_13 TR_f9 (by decide) (cc_1 rfl) rfl ?_
      refine jt_iload_n d_TR_greatestArgument_16 rfl ?_
      refine cm_ld0 (k := 2) (n := 120) (v := (B 2) q) d_TR_greatestArgument_17 (by decide) rfl rfl (by omega) (by omega) (by omega) rfl ?_
      refine jt_topi (fun v103 ev103 => ?_)
      have bv103 : -2147483648 ≤ v103 ∧ v103 ≤ 2147483647 := by rw [ev103]; exact hJ.2.1 2 q
      rw [eB] at ev103
      refine jt_iconst d_TR_greatestArgument_18 ?_
      refine jt_icmp_ne (t := 33) d_TR_greatestArgument_19 rfl (by unfold jRi; omega) (by unfold jRi; omega) (fun c104 => ?_) (fun c104 => ?_)
      · skip
        refine jt_iinc (L' := [(0, .ref (b + 1)), (1, .int (jI n)), (2, .int (jI (q + 1)))]) d_TR_greatestArgument_33 rfl (Nat.le_of_ble_eq_true rfl) rfl ?_
        refine jt_goto (t := 4) d_TR_greatestArgument_36 rfl ?_
        exact ih n (q + 1) J B hJ (by omega) (by omega) (gGr_s hg) (gMx_s hm (by omega) (fun z => by omega)) eJ eB (by omega)
      · skip
        refine jt_iload_n d_TR_greatestArgument_22 rfl ?_
        refine jt_aload_n d_TR_greatestArgument_23 rfl ?_
        refine cm_get (k := 1) (v := .ref (b + 3)) d_TR_greatestArgument_24 TR_f15 (by decide) (cc_1 rfl) rfl ?_
        refine jt_iload_n d_TR_greatestArgument_27 rfl ?_
        refine cm_ld0 (k := 3) (n := 120) (v := (B 3) q) d_TR_greatestArgument_28 (by decide) rfl rfl (by omega) (by omega) (by omega) rfl ?_
        refine jt_topi (fun v105 ev105 => ?_)
        have bv105 : -2147483648 ≤ v105 ∧ v105 ≤ 2147483647 := by rw [ev105]; exact hJ.2.1 3 q
        rw [eB] at ev105
        refine jt_mmax d_TR_greatestArgument_29 mw_max (by unfold jRi; omega) (by unfold jRi; omega) (show 1 ≤ d + 1 by omega) (show 0 + 13 ≤ (d + 1) * 40 by omega) (Nat.le_refl _) (Nat.le_refl _) ?_
        refine jt_topi (fun v106 ev106 => ?_)
        have mv106 : n ≤ v106 ∧ v105 ≤ v106 ∧ (v106 = n ∨ v106 = v105) := by omega
        refine jt_istore_n (L' := [(0, .ref (b + 1)), (1, .int (jI v106)), (2, .int (jI q))]) d_TR_greatestArgument_32 (Nat.le_of_ble_eq_true rfl) rfl ?_
        refine jt_iinc (L' := [(0, .ref (b + 1)), (1, .int (jI v106)), (2, .int (jI (q + 1)))]) d_TR_greatestArgument_33 rfl (Nat.le_of_ble_eq_true rfl) rfl ?_
        refine jt_goto (t := 4) d_TR_greatestArgument_36 rfl ?_
        exact ih v106 (q + 1) J B hJ (by omega) (by omega) (by rcases mv106.2.2 with z | z; exact (by rw [z]; exact gGr_s hg); exact gGr_n (by omega) (by omega) (by omega)) (gMx_s hm (by omega) (fun z => by omega)) eJ eB (by omega)
set_option maxRecDepth 100000 in
set_option maxHeartbeats 4000000 in
theorem v_TR_greatestArgument_x (G : jG) (d b : Nat)  (I : Nat → Nat → Int) (A : Nat → Int → Int) (hI : cSI I) (hA : cSA A) : cct G Y_TR_greatestArgument (d + 1) b [.ref (b + 1)] I A (fun (rv : Option Value) (I2 : Nat → Nat → Int) (A2 : Nat → Int → Int) => ∃ y : Int, rv = some (.int (jI y)) ∧ (-2147483648 ≤ y ∧ y ≤ 2147483647) ∧ I2 = I ∧ A2 = A ∧ gGr (A 2) (A 3) (I 1 3) y ∧ gMx (A 2) (A 3) (I 1 3) y) := by
  refine cct_of (by decide) (Nat.le_of_ble_eq_true rfl) (fun f0 sz => ?_)
  show jt _ 0 [(0, .ref (b + 1))] [] _ _ _ _
  have r13 : 0 ≤ I 1 3 ∧ I 1 3 ≤ 120 := hI 1 3
  have hz0 : cPx [] [] I A I A := cPx.refl hI hA
  refine jt_iconst d_TR_greatestArgument_0 ?_
  refine jt_istore_n (L' := [(0, .ref (b + 1)), (1, .int (jI (-1)))]) d_TR_greatestArgument_1 (Nat.le_of_ble_eq_true rfl) rfl ?_
  refine jt_iconst d_TR_greatestArgument_2 ?_
  refine jt_istore_n (L' := [(0, .ref (b + 1)), (1, .int (jI (-1))), (2, .int (jI 0))]) d_TR_greatestArgument_3 (Nat.le_of_ble_eq_true rfl) rfl ?_
  exact l4_TR_greatestArgument_xv G d b  I A hI hA f0 sz  121 (-1) 0 I A hz0 (by omega) (by omega) (Or.inl rfl) (fun j a c _ => by omega) rfl rfl (by omega)
set_option maxRecDepth 100000 in
set_option maxHeartbeats 4000000 in
theorem v_TR_add_1_x (G : jG) (d b : Nat) (k : Int) (v : Int) (e : Int) (I : Nat → Nat → Int) (A : Nat → Int → Int) (hI : cSI I) (hA : cSA A) (hk : -2147483648 ≤ k ∧ k ≤ 2147483647) (hv : -2147483648 ≤ v ∧ v ≤ 2147483647) (he : -2147483648 ≤ e ∧ e ≤ 2147483647) : cct G Y_TR_add d b [.ref (b + 1), .int (jI k), .int (jI v), .int (jI e)] I A (fun (rv : Option Value) (I2 : Nat → Nat → Int) (A2 : Nat → Int → Int) => rv = none ∧ cPx [19] [2, 3, 4] I A I2 A2 ∧ (cTok A → gtok k v → cTok A2) ∧ (I 1 3 < 120 → I2 1 3 = I 1 3 + 1 ∧ A2 2 = ju (A 2) (I 1 3) k ∧ A2 3 = ju (A 3) (I 1 3) v ∧ A2 4 = ju (A 4) (I 1 3) e)) := by
  refine cct_of (by decide) (Nat.le_of_ble_eq_true rfl) (fun f0 sz => ?_)
  show jt _ 0 [(0, .ref (b + 1)), (1, .int (jI k)), (2, .int (jI v)), (3, .int (jI e))] [] _ _ _ _
  have hz0 : cPx [19] [2, 3, 4] I A I A := cPx.refl hI hA
  refine jt_aload_n d_TR_add_0 rfl ?_
  refine cm_get (k := 1) (v := .int (jI (I 1 3))) d_TR_add_1 TR_f21 (by decide) (cc_1 rfl) rfl ?_
  have rb1 : 0 ≤ I 1 3 ∧ I 1 3 ≤ 120 := hz0.1 1 3
  refine jt_aload_n d_TR_add_4 rfl ?_
  refine cm_get (k := 1) (v := .ref (b + 2)) d_TR_add_5 TR_f9 (by decide) (cc_1 rfl) rfl ?_
  refine cm_len (k := 2) (n := 120) d_TR_add_8 jTy_0 (by decide) (cc_8 rfl rfl) ?_
  refine jt_icmp_ge (t := 52) d_TR_add_9 rfl (by unfold jRi; omega) (by unfold jRi; omega) (fun c2 => ?_) (fun c2 => ?_)
  · skip
    exact cm_vret d_TR_add_52 rfl (⟨rfl, hz0, fun z _ => z, fun z => by omega⟩)
  · skip
    refine jt_aload_n d_TR_add_12 rfl ?_
    refine cm_get (k := 1) (v := .ref (b + 2)) d_TR_add_13 TR_f9 (by decide) (cc_1 rfl) rfl ?_
    refine jt_aload_n d_TR_add_16 rfl ?_
    refine cm_get (k := 1) (v := .int (jI (I 1 3))) d_TR_add_17 TR_f21 (by decide) (cc_1 rfl) rfl ?_
    refine jt_iload_n d_TR_add_20 rfl ?_
    refine cm_st0 (k := 2) (n := 120) (v := k) d_TR_add_21 (by decide) rfl rfl (by omega) (by omega) (by omega) ?_
    have p3 := cPx.A 2 (ju (A 2) (I 1 3) k) hz0 (Or.inl rfl) (gju (hz0.2.1 2) (show -2147483648 ≤ k ∧ k ≤ 2147483647 by omega))
    refine jt_aload_n d_TR_add_22 rfl ?_
    refine cm_get (k := 1) (v := .ref (b + 3)) d_TR_add_23 TR_f15 (by decide) (cc_1 rfl) rfl ?_
    refine jt_aload_n d_TR_add_26 rfl ?_
    refine cm_get (k := 1) (v := .int (jI (I 1 3))) d_TR_add_27 TR_f21 (by decide) (cc_1 rfl) rfl ?_
    refine jt_iload_n d_TR_add_30 rfl ?_
    refine cm_st0 (k := 3) (n := 120) (v := v) d_TR_add_31 (by decide) rfl rfl (by omega) (by omega) (by omega) ?_
    have p4 := cPx.A 3 (ju (A 3) (I 1 3) v) p3 (Or.inl rfl) (gju (p3.2.1 3) (show -2147483648 ≤ v ∧ v ≤ 2147483647 by omega))
    refine jt_aload_n d_TR_add_32 rfl ?_
    refine cm_get (k := 1) (v := .ref (b + 4)) d_TR_add_33 TR_f18 (by decide) (cc_1 rfl) rfl ?_
    refine jt_aload_n d_TR_add_36 rfl ?_
    refine cm_get (k := 1) (v := .int (jI (I 1 3))) d_TR_add_37 TR_f21 (by decide) (cc_1 rfl) rfl ?_
    refine jt_iload_n d_TR_add_40 rfl ?_
    refine cm_st0 (k := 4) (n := 120) (v := e) d_TR_add_41 (by decide) rfl rfl (by omega) (by omega) (by omega) ?_
    have p5 := cPx.A 4 (ju (A 4) (I 1 3) e) p4 (Or.inl rfl) (gju (p4.2.1 4) (show -2147483648 ≤ e ∧ e ≤ 2147483647 by omega))
    refine jt_aload_n d_TR_add_42 rfl ?_
    refine jt_dup d_TR_add_43 rfl ?_
    refine cm_get (k := 1) (v := .int (jI (I 1 3))) d_TR_add_44 TR_f21 (by decide) (cc_1 rfl) rfl ?_
    refine jt_iconst d_TR_add_47 ?_
    refine jt_iadd d_TR_add_48 ?_
    refine jt_topi (fun v6 ev6 => ?_)
    refine cm_put (k := 1) (j := 3) (v := v6) d_TR_add_49 (TR_w21 _ rfl) (by decide) (cc_1 rfl) rfl rfl (Nat.le_of_ble_eq_true rfl) rfl ?_
    have p7 := cPx.I 1 3 v6 p5 rfl (show 0 ≤ v6 ∧ v6 ≤ 120 by omega)
    exact cm_vret d_TR_add_52 rfl (⟨rfl, p7, fun z1 z2 => cTok_n 4 _ (cTok_w 1 _ _ z1 (ju_tok z2 (z1 1 rfl)) rfl) rfl, fun _ => ⟨(show v6 = I 1 3 + 1 by omega), rfl, rfl, rfl⟩⟩)
set_option maxRecDepth 100000 in
set_option maxHeartbeats 4000000 in
theorem v_GC_feed_x (G : jG) (d b : Nat) (k : Int) (v : Int) (I : Nat → Nat → Int) (A : Nat → Int → Int) (hI : cSI I) (hA : cSA A) (hK : cTok A) (hk : -2147483648 ≤ k ∧ k ≤ 2147483647) (hv : -2147483648 ≤ v ∧ v ≤ 2147483647) : cct G Y_GC_feed (d + 2) b [.ref (b + 0), .int (jI k), .int (jI v)] I A (fun (rv : Option Value) (I2 : Nat → Nat → Int) (A2 : Nat → Int → Int) => ∃ y : Int, rv = some (.int (jI y)) ∧ (-2147483648 ≤ y ∧ y ≤ 2147483647) ∧ cPx [19] [2, 3, 4] I A I2 A2 ∧ cTok A2 ∧ (¬ gtok k v → y = -1 ∧ I2 = I ∧ A2 = A) ∧ (gtok k v → I 1 3 = 120 → y = -2 ∧ I2 = I ∧ A2 = A) ∧ (gtok k v → ¬ I 1 3 = 120 → y = I 1 3 + 1 ∧ I2 1 3 = I 1 3 + 1 ∧ A2 2 = ju (A 2) (I 1 3) k ∧ A2 3 = ju (A 3) (I 1 3) v ∧ A2 4 = ju (A 4) (I 1 3) 0)) := by
  refine cct_of (by decide) (Nat.le_of_ble_eq_true rfl) (fun f0 sz => ?_)
  show jt _ 0 [(0, .ref (b + 0)), (1, .int (jI k)), (2, .int (jI v))] [] _ _ _ _
  have hz0 : cPx [19] [2, 3, 4] I A I A := cPx.refl hI hA
  refine jt_iload_n d_GC_feed_0 rfl ?_
  refine jt_iload_n d_GC_feed_1 rfl ?_
  refine cct_callS (Y := Y_GC_isToken) (As := [.int (jI k), .int (jI v)]) (rest := []) d_GC_feed_2 GC_c61 yk_GC_isToken ys_GC_isToken (Nat.le_of_ble_eq_true rfl) rfl rfl (Nat.le_of_ble_eq_true rfl) (v_GC_isToken_x G _ b k v I A hz0.1 hz0.2.1 (by omega) (by omega)) (fun rvq1 Iq1 Aq1 hq1 => ?_)
  obtain ⟨yq1, rfl, ryq1, hIq1, hAq1, hxq1⟩ := hq1
  rw [hIq1, hAq1]
  by_cases gbq1 : yq1 = 1
  · skip
    obtain rfl : yq1 = 1 := by omega
    have hwq1 := hxq1.1 rfl
    show jt _ 5 [(0, .ref (b + 0)), (1, .int (jI k)), (2, .int (jI v))] [.int (jI 1)] (cmf b f0 I A) _ _ _
    refine jt_if_ne (t := 10) d_GC_feed_5 rfl (by unfold jRi; omega) (fun c2 => ?_) (fun c2 => ?_)
    · skip
      refine jt_aload_n d_GC_feed_10 rfl ?_
      refine cm_get (k := 0) (v := .ref (b + 1)) d_GC_feed_11 GC_f14 (by decide) cc_0 rfl ?_
      refine cm_get (k := 1) (v := .int (jI (I 1 3))) d_GC_feed_14 GC_f65 (by decide) (cc_1 rfl) rfl ?_
      have rb3 : 0 ≤ I 1 3 ∧ I 1 3 ≤ 120 := hz0.1 1 3
      refine jt_bipush d_GC_feed_17 (by omega) ?_
      refine jt_icmp_ne (t := 25) d_GC_feed_19 rfl (by unfold jRi; omega) (by unfold jRi; omega) (fun c4 => ?_) (fun c4 => ?_)
      · skip
        refine jt_aload_n d_GC_feed_25 rfl ?_
        refine cm_get (k := 0) (v := .ref (b + 1)) d_GC_feed_26 GC_f14 (by decide) cc_0 rfl ?_
        refine jt_iload_n d_GC_feed_29 rfl ?_
        refine jt_iload_n d_GC_feed_30 rfl ?_
        refine jt_iconst d_GC_feed_31 ?_
        refine cct_callV (Y := Y_TR_add) (ci := 0) (k := 1) (As := [.int (jI k), .int (jI v), .int (jI 0)]) (rest := []) d_GC_feed_32 GC_c68 yk_TR_add yv_TR_add rfl (Nat.le_of_ble_eq_true rfl) (by decide) (cc_1 rfl) rfl rfl (Nat.le_of_ble_eq_true rfl) (v_TR_add_1_x G _ b k v 0 I A hz0.1 hz0.2.1 (by omega) (by omega) (by omega)) (fun rvq5 Iq5 Aq5 hq5 => ?_)
        obtain ⟨rfl, hqq5, hxq5⟩ := hq5
        have hpq5 := cPx.trans hz0 hqq5 rfl rfl
        show jt _ 35 [(0, .ref (b + 0)), (1, .int (jI k)), (2, .int (jI v))] [] (cmf b f0 Iq5 Aq5) _ _ _
        refine jt_aload_n d_GC_feed_35 rfl ?_
        refine cm_get (k := 0) (v := .ref (b + 1)) d_GC_feed_36 GC_f14 (by decide) cc_0 rfl ?_
        refine cm_get (k := 1) (v := .int (jI (Iq5 1 3))) d_GC_feed_39 GC_f65 (by decide) (cc_1 rfl) rfl ?_
        have rb6 : 0 ≤ Iq5 1 3 ∧ Iq5 1 3 ≤ 120 := hpq5.1 1 3
        exact cm_ret d_GC_feed_42 rfl rfl (by
      have q9 := hxq5.2 (by omega)
      exact ⟨Iq5 1 3, rfl, by omega, hpq5, (hxq5.1 hK hwq1), fun z => absurd hwq1 z, fun _ z => by exfalso; omega, fun _ _ => ⟨by omega, q9⟩⟩)
      · skip
        refine jt_bipush d_GC_feed_22 (by omega) ?_
        exact cm_ret d_GC_feed_24 rfl rfl (⟨-2, rfl, by omega, hz0, hK, fun z => absurd hwq1 z, fun _ _ => ⟨rfl, rfl, rfl⟩, fun _ z => absurd (by omega) z⟩)
    · skip
      exfalso
      omega
  · skip
    obtain rfl : yq1 = 0 := by omega
    have hwq1 := hxq1.2 rfl
    show jt _ 5 [(0, .ref (b + 0)), (1, .int (jI k)), (2, .int (jI v))] [.int (jI 0)] (cmf b f0 I A) _ _ _
    refine jt_if_ne (t := 10) d_GC_feed_5 rfl (by unfold jRi; omega) (fun c7 => ?_) (fun c7 => ?_)
    · skip
      exfalso
      omega
    · skip
      refine jt_iconst d_GC_feed_8 ?_
      exact cm_ret d_GC_feed_9 rfl rfl (⟨-1, rfl, by omega, hz0, hK, fun _ => ⟨rfl, rfl, rfl⟩, fun z => absurd z hwq1, fun z => absurd z hwq1⟩)
set_option maxRecDepth 100000 in
set_option maxHeartbeats 4000000 in
theorem v_GC_wipe_x (G : jG) (d b : Nat)  (I : Nat → Nat → Int) (A : Nat → Int → Int) (hI : cSI I) (hA : cSA A) : cct G Y_GC_wipe d b [.ref (b + 0)] I A (fun (rv : Option Value) (I2 : Nat → Nat → Int) (A2 : Nat → Int → Int) => ∃ y : Int, rv = some (.int (jI y)) ∧ (-2147483648 ≤ y ∧ y ≤ 2147483647) ∧ cPx [19] [] I A I2 A2 ∧ y = I 1 3 ∧ I2 1 3 = 0) := by
  refine cct_of (by decide) (Nat.le_of_ble_eq_true rfl) (fun f0 sz => ?_)
  show jt _ 0 [(0, .ref (b + 0))] [] _ _ _ _
  have hz0 : cPx [19] [] I A I A := cPx.refl hI hA
  refine jt_aload_n d_GC_wipe_0 rfl ?_
  refine cm_get (k := 0) (v := .ref (b + 1)) d_GC_wipe_1 GC_f14 (by decide) cc_0 rfl ?_
  refine cm_get (k := 1) (v := .int (jI (I 1 3))) d_GC_wipe_4 GC_f65 (by decide) (cc_1 rfl) rfl ?_
  have rb1 : 0 ≤ I 1 3 ∧ I 1 3 ≤ 120 := hz0.1 1 3
  refine jt_istore_n (L' := [(0, .ref (b + 0)), (1, .int (jI (I 1 3)))]) d_GC_wipe_7 (Nat.le_of_ble_eq_true rfl) rfl ?_
  refine jt_aload_n d_GC_wipe_8 rfl ?_
  refine cm_get (k := 0) (v := .ref (b + 1)) d_GC_wipe_9 GC_f14 (by decide) cc_0 rfl ?_
  refine jt_iconst d_GC_wipe_12 ?_
  refine cm_put (k := 1) (j := 3) (v := 0) d_GC_wipe_13 (GC_w65 _ rfl) (by decide) (cc_1 rfl) rfl rfl (Nat.le_of_ble_eq_true rfl) rfl ?_
  have p2 := cPx.I 1 3 0 hz0 rfl (show 0 ≤ 0 ∧ 0 ≤ 120 by omega)
  refine jt_iload_n d_GC_wipe_16 rfl ?_
  exact cm_ret d_GC_wipe_17 rfl rfl (⟨I 1 3, rfl, by omega, p2, rfl, rfl⟩)

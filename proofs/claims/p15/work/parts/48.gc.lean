/-- the greatest argument among the first q tokens; whether a body has an argument that is too great -/
def gGr (X Y : Int → Int) (q n : Int) : Prop := n = -1 ∨ ∃ j, 0 ≤ j ∧ j < q ∧ X j = 2 ∧ Y j = n
def gMx (X Y : Int → Int) (q n : Int) : Prop := ∀ j, 0 ≤ j → j < q → X j = 2 → Y j ≤ n
def cRef (X Y : Int → Int) (s n : Int) : Prop := ∃ k, 0 ≤ k ∧ k < s ∧ X k = 2 ∧ n ≤ Y k
theorem gGr_s {X Y : Int → Int} {q n : Int} (h : gGr X Y q n) : gGr X Y (q + 1) n := h.imp id (fun ⟨j, a, c, e, g⟩ => ⟨j, a, by omega, e, g⟩)
theorem gGr_n {X Y : Int → Int} {q n : Int} (h0 : 0 ≤ q) (h : X q = 2) (h2 : Y q = n) : gGr X Y (q + 1) n := Or.inr ⟨q, h0, by omega, h, h2⟩
theorem gMx_s {X Y : Int → Int} {q n v : Int} (h : gMx X Y q n) (hn : n ≤ v) (h2 : X q = 2 → Y q ≤ v) : gMx X Y (q + 1) v := by
  intro j j0 j1 j2
  by_cases e : j = q
  · rw [e] at j2 ⊢; exact h2 j2
  · have := h j j0 (by omega) j2
    omega
theorem cRef_y {X Y : Int → Int} {s n g : Int} (h : gGr X Y s g) (hn : 0 ≤ n) (hg : n ≤ g) : cRef X Y s n := by
  rcases h with h | ⟨j, a, c, e, f⟩
  · omega
  · exact ⟨j, a, c, e, by omega⟩
theorem cRef_n {X Y : Int → Int} {s n g : Int} (h : gMx X Y s g) (hg : g < n) : ¬ cRef X Y s n := by
  rintro ⟨j, a, c, e, f⟩
  have := h j a c e
  omega
set_option maxRecDepth 100000 in
set_option maxHeartbeats 4000000 in
theorem l4_TR_greatestArgumentv (G : jG) (d b : Nat)  (I : Nat → Nat → Int) (A : Nat → Int → Int) (hI : cSI I) (hA : cSA A) (f0 : jF) (sz : Nat)   : ∀ (n9 : Nat) (n : Int) (q : Int) (J : Nat → Nat → Int) (B : Nat → Int → Int), cPo [] [] I A J B → (0 ≤ q ∧ q ≤ I 1 3) → (-2147483648 ≤ n ∧ n ≤ 2147483647) → (gGr (A 2) (A 3) q n) → (gMx (A 2) (A 3) q n) → 120 - q < (n9 : Int) → jt (jm G Y_TR_greatestArgument (gR (d + 1)) (cQ b f0 sz (fun (rv : Option Value) (I2 : Nat → Nat → Int) (A2 : Nat → Int → Int) => ∃ y : Int, rv = some (.int (jI y)) ∧ (-2147483648 ≤ y ∧ y ≤ 2147483647) ∧ cPo [] [] I A I2 A2 ∧ gGr (A 2) (A 3) (I 1 3) y ∧ gMx (A 2) (A 3) (I 1 3) y))) 4 [(0, .ref (b + 1)), (1, .int (jI n)), (2, .int (jI q))] [] (cmf b f0 J B) sz 0 0 := by
  have r13 : 0 ≤ I 1 3 ∧ I 1 3 ≤ 120 := hI 1 3
  intro n9
  induction n9 with
  | zero =>
    intro n q J B hJ q0 n0 hg hm hmeas
    have f2 : B 2 = A 2 := hJ.2.2.2 2 rfl (by decide)
    have f3 : B 3 = A 3 := hJ.2.2.2 3 rfl (by decide)
    have f13 : J 1 3 = I 1 3 := hJ.2.2.1 1 3 rfl
    exfalso
    omega
  | succ n9 ih =>
    intro n q J B hJ q0 n0 hg hm hmeas
    have f2 : B 2 = A 2 := hJ.2.2.2 2 rfl (by decide)
    have f3 : B 3 = A 3 := hJ.2.2.2 3 rfl (by decide)
    have f13 : J 1 3 = I 1 3 := hJ.2.2.1 1 3 rfl
    refine jt_iload_n d_TR_greatestArgument_4 rfl ?_
    refine jt_aload_n d_TR_greatestArgument_5 rfl ?_
    refine cm_get (k := 1) (v := .int (jI (J 1 3))) d_TR_greatestArgument_6 TR_f21 (by decide) (cc_1 rfl) rfl ?_
    have rb101 : 0 ≤ J 1 3 ∧ J 1 3 ≤ 120 := hJ.1 1 3
    refine jt_icmp_ge (t := 39) d_TR_greatestArgument_9 rfl (by unfold jRi; omega) (by unfold jRi; omega) (fun c102 => ?_) (fun c102 => ?_)
    · skip
      refine jt_iload_n d_TR_greatestArgument_39 rfl ?_
      exact cm_ret d_TR_greatestArgument_40 rfl rfl (⟨n, rfl, by omega, hJ, by rw [show I 1 3 = q by omega]; exact hg, by rw [show I 1 3 = q by omega]; exact hm⟩)
    · skip
      refine jt_aload_n d_TR_greatestArgument_12 rfl ?_
      refine cm_get (k := 1) (v := .ref (b + 2)) d_TR_greatestArgument_13 TR_f9 (by decide) (cc_1 rfl) rfl ?_
      refine jt_iload_n d_TR_greatestArgument_16 rfl ?_
      refine cm_ld0 (k := 2) (n := 120) (v := (B 2) q) d_TR_greatestArgument_17 (by decide) rfl rfl (by omega) (by omega) (by omega) rfl ?_
      refine jt_topi (fun v103 ev103 => ?_)
      have bv103 : -2147483648 ≤ v103 ∧ v103 ≤ 2147483647 := by rw [ev103]; exact hJ.2.1 2 q
      rw [f2] at ev103
      refine jt_iconst d_TR_greatestArgument_18 ?_
      refine jt_icmp_ne (t := 33) d_TR_greatestArgument_19 rfl (by unfold jRi; omega) (by unfold jRi; omega) (fun c104 => ?_) (fun c104 => ?_)
      · skip
        refine jt_iinc (L' := [(0, .ref (b + 1)), (1, .int (jI n)), (2, .int (jI (q + 1)))]) d_TR_greatestArgument_33 rfl (Nat.le_of_ble_eq_true rfl) rfl ?_
        refine jt_goto (t := 4) d_TR_greatestArgument_36 rfl ?_
        exact ih n (q + 1) J B hJ (by omega) (by omega) (gGr_s hg) (gMx_s hm (by omega) (fun z => by omega)) (by omega)
      · skip
        refine jt_iload_n d_TR_greatestArgument_22 rfl ?_
        refine jt_aload_n d_TR_greatestArgument_23 rfl ?_
        refine cm_get (k := 1) (v := .ref (b + 3)) d_TR_greatestArgument_24 TR_f15 (by decide) (cc_1 rfl) rfl ?_
        refine jt_iload_n d_TR_greatestArgument_27 rfl ?_
        refine cm_ld0 (k := 3) (n := 120) (v := (B 3) q) d_TR_greatestArgument_28 (by decide) rfl rfl (by omega) (by omega) (by omega) rfl ?_
        refine jt_topi (fun v105 ev105 => ?_)
        have bv105 : -2147483648 ≤ v105 ∧ v105 ≤ 2147483647 := by rw [ev105]; exact hJ.2.1 3 q
        rw [f3] at ev105
        refine jt_mmax d_TR_greatestArgument_29 mw_max (by unfold jRi; omega) (by unfold jRi; omega) (show 1 ≤ d + 1 by omega) (show 0 + 13 ≤ (d + 1) * 40 by omega) (Nat.le_refl _) (Nat.le_refl _) ?_
        refine jt_topi (fun v106 ev106 => ?_)
        have mv106 : n ≤ v106 ∧ v105 ≤ v106 ∧ (v106 = n ∨ v106 = v105) := by omega
        refine jt_istore_n (L' := [(0, .ref (b + 1)), (1, .int (jI v106)), (2, .int (jI q))]) d_TR_greatestArgument_32 (Nat.le_of_ble_eq_true rfl) rfl ?_
        refine jt_iinc (L' := [(0, .ref (b + 1)), (1, .int (jI v106)), (2, .int (jI (q + 1)))]) d_TR_greatestArgument_33 rfl (Nat.le_of_ble_eq_true rfl) rfl ?_
        refine jt_goto (t := 4) d_TR_greatestArgument_36 rfl ?_
        exact ih v106 (q + 1) J B hJ (by omega) (by omega) (by rcases mv106.2.2 with z | z; exact (by rw [z]; exact gGr_s hg); exact gGr_n (by omega) (by omega) (by omega)) (gMx_s hm (by omega) (fun z => by omega)) (by omega)
set_option maxRecDepth 100000 in
set_option maxHeartbeats 4000000 in
theorem v_TR_greatestArgument (G : jG) (d b : Nat)  (I : Nat → Nat → Int) (A : Nat → Int → Int) (hI : cSI I) (hA : cSA A) : cct G Y_TR_greatestArgument (d + 1) b [.ref (b + 1)] I A (fun (rv : Option Value) (I2 : Nat → Nat → Int) (A2 : Nat → Int → Int) => ∃ y : Int, rv = some (.int (jI y)) ∧ (-2147483648 ≤ y ∧ y ≤ 2147483647) ∧ cPo [] [] I A I2 A2 ∧ gGr (A 2) (A 3) (I 1 3) y ∧ gMx (A 2) (A 3) (I 1 3) y) := by
  refine cct_of (by decide) (Nat.le_of_ble_eq_true rfl) (fun f0 sz => ?_)
  show jt _ 0 [(0, .ref (b + 1))] [] _ _ _ _
  have r13 : 0 ≤ I 1 3 ∧ I 1 3 ≤ 120 := hI 1 3
  have hz0 : cPo [] [] I A I A := cPo.refl hI hA
  refine jt_iconst d_TR_greatestArgument_0 ?_
  refine jt_istore_n (L' := [(0, .ref (b + 1)), (1, .int (jI (-1)))]) d_TR_greatestArgument_1 (Nat.le_of_ble_eq_true rfl) rfl ?_
  refine jt_iconst d_TR_greatestArgument_2 ?_
  refine jt_istore_n (L' := [(0, .ref (b + 1)), (1, .int (jI (-1))), (2, .int (jI 0))]) d_TR_greatestArgument_3 (Nat.le_of_ble_eq_true rfl) rfl ?_
  exact l4_TR_greatestArgumentv G d b  I A hI hA f0 sz  121 (-1) 0 I A hz0 (by omega) (by omega) (Or.inl rfl) (fun j a c _ => by omega) (by omega)
set_option maxRecDepth 100000 in
set_option maxHeartbeats 4000000 in
theorem v_GC_isBelow (G : jG) (d b : Nat) (v : Int) (n : Int) (I : Nat → Nat → Int) (A : Nat → Int → Int) (hI : cSI I) (hA : cSA A) (hv : -2147483648 ≤ v ∧ v ≤ 2147483647) (hn : -2147483648 ≤ n ∧ n ≤ 2147483647) : cct G Y_GC_isBelow d b [.int (jI v), .int (jI n)] I A (fun (rv : Option Value) (I2 : Nat → Nat → Int) (A2 : Nat → Int → Int) => ∃ y : Int, rv = some (.int (jI y)) ∧ (0 ≤ y ∧ y ≤ 1) ∧ cPo [] [] I A I2 A2 ∧ (y = 1 → 0 ≤ v ∧ v < n) ∧ (y = 0 → ¬ (0 ≤ v ∧ v < n))) := by
  refine cct_of (by decide) (Nat.le_of_ble_eq_true rfl) (fun f0 sz => ?_)
  show jt _ 0 [(0, .int (jI v)), (1, .int (jI n))] [] _ _ _ _
  have hz0 : cPo [] [] I A I A := cPo.refl hI hA
  refine jt_iload_n d_GC_isBelow_0 rfl ?_
  refine jt_if_lt (t := 13) d_GC_isBelow_1 rfl (by unfold jRi; omega) (fun c1 => ?_) (fun c1 => ?_)
  · skip
    refine jt_iconst d_GC_isBelow_13 ?_
    exact cm_ret d_GC_isBelow_14 rfl (jnz (by omega)) (⟨0, rfl, by omega, hz0, fun z => by omega, fun z => by omega⟩)
  · skip
    refine jt_iload_n d_GC_isBelow_4 rfl ?_
    refine jt_iload_n d_GC_isBelow_5 rfl ?_
    refine jt_icmp_ge (t := 13) d_GC_isBelow_6 rfl (by unfold jRi; omega) (by unfold jRi; omega) (fun c2 => ?_) (fun c2 => ?_)
    · skip
      refine jt_iconst d_GC_isBelow_13 ?_
      exact cm_ret d_GC_isBelow_14 rfl (jnz (by omega)) (⟨0, rfl, by omega, hz0, fun z => by omega, fun z => by omega⟩)
    · skip
      refine jt_iconst d_GC_isBelow_9 ?_
      refine jt_goto (t := 14) d_GC_isBelow_10 rfl ?_
      exact cm_ret d_GC_isBelow_14 rfl (jnz (by omega)) (⟨1, rfl, by omega, hz0, fun z => by omega, fun z => by omega⟩)
set_option maxRecDepth 100000 in
set_option maxHeartbeats 4000000 in
theorem v_GC_isToken (G : jG) (d b : Nat) (k : Int) (v : Int) (I : Nat → Nat → Int) (A : Nat → Int → Int) (hI : cSI I) (hA : cSA A) (hk : -2147483648 ≤ k ∧ k ≤ 2147483647) (hv : -2147483648 ≤ v ∧ v ≤ 2147483647) : cct G Y_GC_isToken (d + 1) b [.int (jI k), .int (jI v)] I A (fun (rv : Option Value) (I2 : Nat → Nat → Int) (A2 : Nat → Int → Int) => ∃ y : Int, rv = some (.int (jI y)) ∧ (0 ≤ y ∧ y ≤ 1) ∧ cPo [] [] I A I2 A2 ∧ (y = 1 → gtok k v) ∧ (y = 0 → ¬ gtok k v)) := by
  refine cct_of (by decide) (Nat.le_of_ble_eq_true rfl) (fun f0 sz => ?_)
  show jt _ 0 [(0, .int (jI k)), (1, .int (jI v))] [] _ _ _ _
  have hz0 : cPo [] [] I A I A := cPo.refl hI hA
  refine jt_iload_n d_GC_isToken_0 rfl ?_
  by_cases hsw : k < 0 ∨ 4 < k
  · skip
    refine jt_tableOut (t := 83) d_GC_isToken_1 (by unfold jRi; omega) hsw rfl ?_
    refine jt_iconst d_GC_isToken_83 ?_
    exact cm_ret d_GC_isToken_84 rfl (jnz (by omega)) (⟨0, rfl, by omega, hz0, fun z => by unfold gtok; omega, fun z => by unfold gtok; omega⟩)
  by_cases hs0 : k = 0
  · skip
    refine jt_tableIn (t := 36) d_GC_isToken_1 (by unfold jRi; omega) (by omega) (by omega) (by rw [hs0]; rfl) rfl ?_
    refine jt_iload_n d_GC_isToken_36 rfl ?_
    refine jt_sipush d_GC_isToken_37 (by omega) ?_
    refine jt_icmp_lt (t := 54) d_GC_isToken_40 rfl (by unfold jRi; omega) (by unfold jRi; omega) (fun c1 => ?_) (fun c1 => ?_)
    · skip
      refine jt_iconst d_GC_isToken_54 ?_
      exact cm_ret d_GC_isToken_55 rfl (jnz (by omega)) (⟨0, rfl, by omega, hz0, fun z => by unfold gtok; omega, fun z => by unfold gtok; omega⟩)
    · skip
      refine jt_iload_n d_GC_isToken_43 rfl ?_
      refine jt_sipush d_GC_isToken_44 (by omega) ?_
      refine jt_icmp_gt (t := 54) d_GC_isToken_47 rfl (by unfold jRi; omega) (by unfold jRi; omega) (fun c2 => ?_) (fun c2 => ?_)
      · skip
        refine jt_iconst d_GC_isToken_54 ?_
        exact cm_ret d_GC_isToken_55 rfl (jnz (by omega)) (⟨0, rfl, by omega, hz0, fun z => by unfold gtok; omega, fun z => by unfold gtok; omega⟩)
      · skip
        refine jt_iconst d_GC_isToken_50 ?_
        refine jt_goto (t := 55) d_GC_isToken_51 rfl ?_
        exact cm_ret d_GC_isToken_55 rfl (jnz (by omega)) (⟨1, rfl, by omega, hz0, fun z => by unfold gtok; omega, fun z => by unfold gtok; omega⟩)
  by_cases hs1 : k = 1
  · skip
    refine jt_tableIn (t := 56) d_GC_isToken_1 (by unfold jRi; omega) (by omega) (by omega) (by rw [hs1]; rfl) rfl ?_
    refine jt_iload_n d_GC_isToken_56 rfl ?_
    refine jt_bipush d_GC_isToken_57 (by omega) ?_
    refine cct_callS (Y := Y_GC_isBelow) (As := [.int (jI v), .int (jI 12)]) (rest := []) d_GC_isToken_59 GC_c72 yk_GC_isBelow ys_GC_isBelow (Nat.le_of_ble_eq_true rfl) rfl rfl (Nat.le_of_ble_eq_true rfl) (v_GC_isBelow G _ b v 12 I A hz0.1 hz0.2.1 (by omega) (by omega)) (fun rvq3 Iq3 Aq3 hq3 => ?_)
    obtain ⟨yq3, rfl, ryq3, hqq3, hxq3⟩ := hq3
    have hpq3 := cPo.trans hz0 hqq3 rfl rfl
    show jt _ 62 [(0, .int (jI k)), (1, .int (jI v))] [.int (jI yq3)] (cmf b f0 Iq3 Aq3) _ _ _
    exact cm_ret d_GC_isToken_62 rfl (jnz (by omega)) (⟨yq3, rfl, by omega, hpq3, fun z => by unfold gtok; omega, fun z => by unfold gtok; omega⟩)
  by_cases hs2 : k = 2
  · skip
    refine jt_tableIn (t := 63) d_GC_isToken_1 (by unfold jRi; omega) (by omega) (by omega) (by rw [hs2]; rfl) rfl ?_
    refine jt_iload_n d_GC_isToken_63 rfl ?_
    refine jt_iconst d_GC_isToken_64 ?_
    refine cct_callS (Y := Y_GC_isBelow) (As := [.int (jI v), .int (jI 3)]) (rest := []) d_GC_isToken_65 GC_c72 yk_GC_isBelow ys_GC_isBelow (Nat.le_of_ble_eq_true rfl) rfl rfl (Nat.le_of_ble_eq_true rfl) (v_GC_isBelow G _ b v 3 I A hz0.1 hz0.2.1 (by omega) (by omega)) (fun rvq4 Iq4 Aq4 hq4 => ?_)
    obtain ⟨yq4, rfl, ryq4, hqq4, hxq4⟩ := hq4
    have hpq4 := cPo.trans hz0 hqq4 rfl rfl
    show jt _ 68 [(0, .int (jI k)), (1, .int (jI v))] [.int (jI yq4)] (cmf b f0 Iq4 Aq4) _ _ _
    exact cm_ret d_GC_isToken_68 rfl (jnz (by omega)) (⟨yq4, rfl, by omega, hpq4, fun z => by unfold gtok; omega, fun z => by unfold gtok; omega⟩)
  by_cases hs3 : k = 3
  · skip
    refine jt_tableIn (t := 69) d_GC_isToken_1 (by unfold jRi; omega) (by omega) (by omega) (by rw [hs3]; rfl) rfl ?_
    refine jt_iload_n d_GC_isToken_69 rfl ?_
    refine jt_bipush d_GC_isToken_70 (by omega) ?_
    refine cct_callS (Y := Y_GC_isBelow) (As := [.int (jI v), .int (jI 6)]) (rest := []) d_GC_isToken_72 GC_c72 yk_GC_isBelow ys_GC_isBelow (Nat.le_of_ble_eq_true rfl) rfl rfl (Nat.le_of_ble_eq_true rfl) (v_GC_isBelow G _ b v 6 I A hz0.1 hz0.2.1 (by omega) (by omega)) (fun rvq5 Iq5 Aq5 hq5 => ?_)
    obtain ⟨yq5, rfl, ryq5, hqq5, hxq5⟩ := hq5
    have hpq5 := cPo.trans hz0 hqq5 rfl rfl
    show jt _ 75 [(0, .int (jI k)), (1, .int (jI v))] [.int (jI yq5)] (cmf b f0 Iq5 Aq5) _ _ _
    exact cm_ret d_GC_isToken_75 rfl (jnz (by omega)) (⟨yq5, rfl, by omega, hpq5, fun z => by unfold gtok; omega, fun z => by unfold gtok; omega⟩)
  by_cases hs4 : k = 4
  · skip
    refine jt_tableIn (t := 76) d_GC_isToken_1 (by unfold jRi; omega) (by omega) (by omega) (by rw [hs4]; rfl) rfl ?_
    refine jt_iload_n d_GC_isToken_76 rfl ?_
    refine jt_bipush d_GC_isToken_77 (by omega) ?_
    refine cct_callS (Y := Y_GC_isBelow) (As := [.int (jI v), .int (jI 14)]) (rest := []) d_GC_isToken_79 GC_c72 yk_GC_isBelow ys_GC_isBelow (Nat.le_of_ble_eq_true rfl) rfl rfl (Nat.le_of_ble_eq_true rfl) (v_GC_isBelow G _ b v 14 I A hz0.1 hz0.2.1 (by omega) (by omega)) (fun rvq6 Iq6 Aq6 hq6 => ?_)
    obtain ⟨yq6, rfl, ryq6, hqq6, hxq6⟩ := hq6
    have hpq6 := cPo.trans hz0 hqq6 rfl rfl
    show jt _ 82 [(0, .int (jI k)), (1, .int (jI v))] [.int (jI yq6)] (cmf b f0 Iq6 Aq6) _ _ _
    exact cm_ret d_GC_isToken_82 rfl (jnz (by omega)) (⟨yq6, rfl, by omega, hpq6, fun z => by unfold gtok; omega, fun z => by unfold gtok; omega⟩)
  exfalso
  omega
set_option maxRecDepth 100000 in
set_option maxHeartbeats 4000000 in
theorem v_GC_feed (G : jG) (d b : Nat) (k : Int) (v : Int) (I : Nat → Nat → Int) (A : Nat → Int → Int) (hI : cSI I) (hA : cSA A) (hK : cTok A) (hk : -2147483648 ≤ k ∧ k ≤ 2147483647) (hv : -2147483648 ≤ v ∧ v ≤ 2147483647) : cct G Y_GC_feed (d + 2) b [.ref (b + 0), .int (jI k), .int (jI v)] I A (fun (rv : Option Value) (I2 : Nat → Nat → Int) (A2 : Nat → Int → Int) => ∃ y : Int, rv = some (.int (jI y)) ∧ (-2147483648 ≤ y ∧ y ≤ 2147483647) ∧ cPo [19] [2, 3, 4] I A I2 A2 ∧ cTok A2 ∧ (¬ gtok k v → y = -1 ∧ I2 1 3 = I 1 3 ∧ A2 2 = A 2 ∧ A2 3 = A 3) ∧ (gtok k v → I 1 3 = 120 → y = -2 ∧ I2 1 3 = I 1 3 ∧ A2 2 = A 2 ∧ A2 3 = A 3) ∧ (gtok k v → ¬ I 1 3 = 120 → y = I 1 3 + 1 ∧ I2 1 3 = I 1 3 + 1 ∧ A2 2 = ju (A 2) (I 1 3) k ∧ A2 3 = ju (A 3) (I 1 3) v)) := by
  refine cct_of (by decide) (Nat.le_of_ble_eq_true rfl) (fun f0 sz => ?_)
  show jt _ 0 [(0, .ref (b + 0)), (1, .int (jI k)), (2, .int (jI v))] [] _ _ _ _
  have hz0 : cPo [19] [2, 3, 4] I A I A := cPo.refl hI hA
  refine jt_iload_n d_GC_feed_0 rfl ?_
  refine jt_iload_n d_GC_feed_1 rfl ?_
  refine cct_callS (Y := Y_GC_isToken) (As := [.int (jI k), .int (jI v)]) (rest := []) d_GC_feed_2 GC_c61 yk_GC_isToken ys_GC_isToken (Nat.le_of_ble_eq_true rfl) rfl rfl (Nat.le_of_ble_eq_true rfl) (v_GC_isToken G _ b k v I A hz0.1 hz0.2.1 (by omega) (by omega)) (fun rvq1 Iq1 Aq1 hq1 => ?_)
  obtain ⟨yq1, rfl, ryq1, hqq1, hxq1⟩ := hq1
  have hpq1 := cPo.trans hz0 hqq1 rfl rfl
  have m1_3q1 : Iq1 1 3 = I 1 3 := hqq1.2.2.1 1 3 rfl
  have a2q1 : Aq1 2 = A 2 := hqq1.2.2.2 2 rfl (by decide)
  have a3q1 : Aq1 3 = A 3 := hqq1.2.2.2 3 rfl (by decide)
  show jt _ 5 [(0, .ref (b + 0)), (1, .int (jI k)), (2, .int (jI v))] [.int (jI yq1)] (cmf b f0 Iq1 Aq1) _ _ _
  refine jt_if_ne (t := 10) d_GC_feed_5 rfl (by unfold jRi; omega) (fun c2 => ?_) (fun c2 => ?_)
  · skip
    refine jt_aload_n d_GC_feed_10 rfl ?_
    refine cm_get (k := 0) (v := .ref (b + 1)) d_GC_feed_11 GC_f14 (by decide) cc_0 rfl ?_
    refine cm_get (k := 1) (v := .int (jI (Iq1 1 3))) d_GC_feed_14 GC_f65 (by decide) (cc_1 rfl) rfl ?_
    have rb3 : 0 ≤ Iq1 1 3 ∧ Iq1 1 3 ≤ 120 := hpq1.1 1 3
    refine jt_bipush d_GC_feed_17 (by omega) ?_
    refine jt_icmp_ne (t := 25) d_GC_feed_19 rfl (by unfold jRi; omega) (by unfold jRi; omega) (fun c4 => ?_) (fun c4 => ?_)
    · skip
      refine jt_aload_n d_GC_feed_25 rfl ?_
      refine cm_get (k := 0) (v := .ref (b + 1)) d_GC_feed_26 GC_f14 (by decide) cc_0 rfl ?_
      refine jt_iload_n d_GC_feed_29 rfl ?_
      refine jt_iload_n d_GC_feed_30 rfl ?_
      refine jt_iconst d_GC_feed_31 ?_
      refine cct_callV (Y := Y_TR_add) (ci := 0) (k := 1) (As := [.int (jI k), .int (jI v), .int (jI 0)]) (rest := []) d_GC_feed_32 GC_c68 yk_TR_add yv_TR_add rfl (Nat.le_of_ble_eq_true rfl) (by decide) (cc_1 rfl) rfl rfl (Nat.le_of_ble_eq_true rfl) (v_TR_add_1 G _ b k v 0 Iq1 Aq1 hpq1.1 hpq1.2.1 (by omega) (by omega) (by omega)) (fun rvq5 Iq5 Aq5 hq5 => ?_)
      obtain ⟨rfl, hqq5, hxq5⟩ := hq5
      have hpq5 := cPo.trans hpq1 hqq5 rfl rfl
      show jt _ 35 [(0, .ref (b + 0)), (1, .int (jI k)), (2, .int (jI v))] [] (cmf b f0 Iq5 Aq5) _ _ _
      refine jt_aload_n d_GC_feed_35 rfl ?_
      refine cm_get (k := 0) (v := .ref (b + 1)) d_GC_feed_36 GC_f14 (by decide) cc_0 rfl ?_
      refine cm_get (k := 1) (v := .int (jI (Iq5 1 3))) d_GC_feed_39 GC_f65 (by decide) (cc_1 rfl) rfl ?_
      have rb6 : 0 ≤ Iq5 1 3 ∧ Iq5 1 3 ≤ 120 := hpq5.1 1 3
      exact cm_ret d_GC_feed_42 rfl rfl (by
      have q9 := hxq5.2 (by omega)
      have gt := hxq1.1 (by omega)
      refine ⟨Iq5 1 3, rfl, by omega, hpq5, (hxq5.1 (cTok_of hqq1 hK rfl) (hxq1.1 (by omega))), fun z => absurd gt z, fun _ z => by exfalso; omega, fun _ _ => ⟨by omega, by omega, ?_, ?_⟩⟩
      · rw [q9.2.1, a2q1, m1_3q1]
      · rw [q9.2.2, a3q1, m1_3q1])
    · skip
      refine jt_bipush d_GC_feed_22 (by omega) ?_
      exact cm_ret d_GC_feed_24 rfl rfl (⟨-2, rfl, by omega, hpq1, (cTok_of hqq1 hK rfl), fun z => absurd (hxq1.1 (by omega)) z, fun _ _ => ⟨rfl, by rw [m1_3q1], a2q1, a3q1⟩, fun _ z => absurd (by omega) z⟩)
  · skip
    refine jt_iconst d_GC_feed_8 ?_
    exact cm_ret d_GC_feed_9 rfl rfl (⟨-1, rfl, by omega, hpq1, (cTok_of hqq1 hK rfl), fun z => ⟨rfl, by rw [m1_3q1], a2q1, a3q1⟩, fun z => absurd z (hxq1.2 (by omega)), fun z => absurd z (hxq1.2 (by omega))⟩)
set_option maxRecDepth 100000 in
set_option maxHeartbeats 4000000 in
theorem v_GC_wipe (G : jG) (d b : Nat)  (I : Nat → Nat → Int) (A : Nat → Int → Int) (hI : cSI I) (hA : cSA A) : cct G Y_GC_wipe d b [.ref (b + 0)] I A (fun (rv : Option Value) (I2 : Nat → Nat → Int) (A2 : Nat → Int → Int) => ∃ y : Int, rv = some (.int (jI y)) ∧ (-2147483648 ≤ y ∧ y ≤ 2147483647) ∧ cPo [19] [] I A I2 A2 ∧ y = I 1 3 ∧ I2 1 3 = 0) := by
  refine cct_of (by decide) (Nat.le_of_ble_eq_true rfl) (fun f0 sz => ?_)
  show jt _ 0 [(0, .ref (b + 0))] [] _ _ _ _
  have hz0 : cPo [19] [] I A I A := cPo.refl hI hA
  refine jt_aload_n d_GC_wipe_0 rfl ?_
  refine cm_get (k := 0) (v := .ref (b + 1)) d_GC_wipe_1 GC_f14 (by decide) cc_0 rfl ?_
  refine cm_get (k := 1) (v := .int (jI (I 1 3))) d_GC_wipe_4 GC_f65 (by decide) (cc_1 rfl) rfl ?_
  have rb1 : 0 ≤ I 1 3 ∧ I 1 3 ≤ 120 := hz0.1 1 3
  refine jt_istore_n (L' := [(0, .ref (b + 0)), (1, .int (jI (I 1 3)))]) d_GC_wipe_7 (Nat.le_of_ble_eq_true rfl) rfl ?_
  refine jt_aload_n d_GC_wipe_8 rfl ?_
  refine cm_get (k := 0) (v := .ref (b + 1)) d_GC_wipe_9 GC_f14 (by decide) cc_0 rfl ?_
  refine jt_iconst d_GC_wipe_12 ?_
  refine cm_put (k := 1) (j := 3) (v := 0) d_GC_wipe_13 (GC_w65 _ rfl) (by decide) (cc_1 rfl) rfl rfl (Nat.le_of_ble_eq_true rfl) rfl ?_
  have p2 := cPo.I 1 3 0 hz0 rfl (show 0 ≤ 0 ∧ 0 ≤ 120 by omega)
  refine jt_iload_n d_GC_wipe_16 rfl ?_
  exact cm_ret d_GC_wipe_17 rfl rfl (⟨I 1 3, rfl, by omega, p2, rfl, rfl⟩)
set_option maxRecDepth 100000 in
set_option maxHeartbeats 4000000 in
theorem v_GC_macro (G : jG) (d b : Nat) (q : Int) (n : Int) (I : Nat → Nat → Int) (A : Nat → Int → Int) (hI : cSI I) (hA : cSA A) (hK : cTok A) (hq : -2147483648 ≤ q ∧ q ≤ 2147483647) (hn : -2147483648 ≤ n ∧ n ≤ 2147483647) : cct G Y_GC_macro (d + 4) b [.ref (b + 0), .int (jI q), .int (jI n)] I A (fun (rv : Option Value) (I2 : Nat → Nat → Int) (A2 : Nat → Int → Int) => ∃ y : Int, rv = some (.int (jI y)) ∧ (-1 ≤ y ∧ y ≤ 0) ∧ cPo [19, 227, 291, 355, 419, 483, 547] [7, 15, 16, 17, 19, 20, 21, 23, 24, 25, 27, 28, 29, 31, 32, 33, 35, 36, 37] I A I2 A2 ∧ cTok A2 ∧ (((q < 0 ∨ 5 < q ∨ n < 0 ∨ 3 < n ∨ 40 < I 1 3) ∨ cRef (A 2) (A 3) (I 1 3) n) → y = -1 ∧ I2 1 3 = I 1 3) ∧ (¬ ((q < 0 ∨ 5 < q ∨ n < 0 ∨ 3 < n ∨ 40 < I 1 3) ∨ cRef (A 2) (A 3) (I 1 3) n) → y = 0 ∧ I2 1 3 = 0)) := by
  refine cct_of (by decide) (Nat.le_of_ble_eq_true rfl) (fun f0 sz => ?_)
  show jt _ 0 [(0, .ref (b + 0)), (1, .int (jI q)), (2, .int (jI n))] [] _ _ _ _
  have r13 : 0 ≤ I 1 3 ∧ I 1 3 ≤ 120 := hI 1 3
  have hz0 : cPo [19, 227, 291, 355, 419, 483, 547] [7, 15, 16, 17, 19, 20, 21, 23, 24, 25, 27, 28, 29, 31, 32, 33, 35, 36, 37] I A I A := cPo.refl hI hA
  refine jt_iload_n d_GC_macro_0 rfl ?_
  refine jt_bipush d_GC_macro_1 (by omega) ?_
  refine cct_callS (Y := Y_GC_isBelow) (As := [.int (jI q), .int (jI 6)]) (rest := []) d_GC_macro_3 GC_c72 yk_GC_isBelow ys_GC_isBelow (Nat.le_of_ble_eq_true rfl) rfl rfl (Nat.le_of_ble_eq_true rfl) (v_GC_isBelow G _ b q 6 I A hz0.1 hz0.2.1 (by omega) (by omega)) (fun rvq1 Iq1 Aq1 hq1 => ?_)
  obtain ⟨yq1, rfl, ryq1, hqq1, hxq1⟩ := hq1
  have hpq1 := cPo.trans hz0 hqq1 rfl rfl
  have m1_3q1 : Iq1 1 3 = I 1 3 := hqq1.2.2.1 1 3 rfl
  have a2q1 : Aq1 2 = A 2 := hqq1.2.2.2 2 rfl (by decide)
  have a3q1 : Aq1 3 = A 3 := hqq1.2.2.2 3 rfl (by decide)
  have bb2 : Aq1 2 = A 2 := a2q1
  have bb3 : Aq1 3 = A 3 := a3q1
  have bb13 : Iq1 1 3 = I 1 3 := m1_3q1
  show jt _ 6 [(0, .ref (b + 0)), (1, .int (jI q)), (2, .int (jI n))] [.int (jI yq1)] (cmf b f0 Iq1 Aq1) _ _ _
  refine jt_if_eq (t := 17) d_GC_macro_6 rfl (by unfold jRi; omega) (fun c2 => ?_) (fun c2 => ?_)
  · skip
    refine jt_iconst d_GC_macro_17 ?_
    exact cm_ret d_GC_macro_18 rfl rfl (⟨-1, rfl, by omega, hpq1, (cTok_of hqq1 hK rfl), fun _ => ⟨rfl, show Iq1 1 3 = I 1 3 by omega⟩, fun z => absurd (Or.inl (by omega)) z⟩)
  · skip
    refine jt_iload_n d_GC_macro_9 rfl ?_
    refine jt_iconst d_GC_macro_10 ?_
    refine cct_callS (Y := Y_GC_isBelow) (As := [.int (jI n), .int (jI 4)]) (rest := []) d_GC_macro_11 GC_c72 yk_GC_isBelow ys_GC_isBelow (Nat.le_of_ble_eq_true rfl) rfl rfl (Nat.le_of_ble_eq_true rfl) (v_GC_isBelow G _ b n 4 Iq1 Aq1 hpq1.1 hpq1.2.1 (by omega) (by omega)) (fun rvq3 Iq3 Aq3 hq3 => ?_)
    obtain ⟨yq3, rfl, ryq3, hqq3, hxq3⟩ := hq3
    have hpq3 := cPo.trans hpq1 hqq3 rfl rfl
    have m1_3q3 : Iq3 1 3 = Iq1 1 3 := hqq3.2.2.1 1 3 rfl
    have a2q3 : Aq3 2 = Aq1 2 := hqq3.2.2.2 2 rfl (by decide)
    have a3q3 : Aq3 3 = Aq1 3 := hqq3.2.2.2 3 rfl (by decide)
    show jt _ 14 [(0, .ref (b + 0)), (1, .int (jI q)), (2, .int (jI n))] [.int (jI yq3)] (cmf b f0 Iq3 Aq3) _ _ _
    refine jt_if_ne (t := 19) d_GC_macro_14 rfl (by unfold jRi; omega) (fun c4 => ?_) (fun c4 => ?_)
    · skip
      refine jt_aload_n d_GC_macro_19 rfl ?_
      refine cm_get (k := 0) (v := .ref (b + 1)) d_GC_macro_20 GC_f14 (by decide) cc_0 rfl ?_
      refine cm_get (k := 1) (v := .int (jI (Iq3 1 3))) d_GC_macro_23 GC_f65 (by decide) (cc_1 rfl) rfl ?_
      have rb5 : 0 ≤ Iq3 1 3 ∧ Iq3 1 3 ≤ 120 := hpq3.1 1 3
      refine jt_bipush d_GC_macro_26 (by omega) ?_
      refine jt_icmp_gt (t := 42) d_GC_macro_28 rfl (by unfold jRi; omega) (by unfold jRi; omega) (fun c6 => ?_) (fun c6 => ?_)
      · skip
        refine jt_iconst d_GC_macro_42 ?_
        exact cm_ret d_GC_macro_43 rfl rfl (⟨-1, rfl, by omega, hpq3, (cTok_of hqq3 (cTok_of hqq1 hK rfl) rfl), fun _ => ⟨rfl, show Iq3 1 3 = I 1 3 by omega⟩, fun z => absurd (Or.inl (by omega)) z⟩)
      · skip
        refine jt_aload_n d_GC_macro_31 rfl ?_
        refine cm_get (k := 0) (v := .ref (b + 1)) d_GC_macro_32 GC_f14 (by decide) cc_0 rfl ?_
        refine cct_callV (Y := Y_TR_greatestArgument) (ci := 0) (k := 1) (As := []) (rest := []) d_GC_macro_35 GC_c75 yk_TR_greatestArgument yv_TR_greatestArgument rfl (Nat.le_of_ble_eq_true rfl) (by decide) (cc_1 rfl) rfl rfl (Nat.le_of_ble_eq_true rfl) (v_TR_greatestArgument G _ b  Iq3 Aq3 hpq3.1 hpq3.2.1 ) (fun rvq7 Iq7 Aq7 hq7 => ?_)
        obtain ⟨yq7, rfl, ryq7, hqq7, hxq7⟩ := hq7
        have hpq7 := cPo.trans hpq3 hqq7 rfl rfl
        have m1_3q7 : Iq7 1 3 = Iq3 1 3 := hqq7.2.2.1 1 3 rfl
        have a2q7 : Aq7 2 = Aq3 2 := hqq7.2.2.2 2 rfl (by decide)
        have a3q7 : Aq7 3 = Aq3 3 := hqq7.2.2.2 3 rfl (by decide)
        show jt _ 38 [(0, .ref (b + 0)), (1, .int (jI q)), (2, .int (jI n))] [.int (jI yq7)] (cmf b f0 Iq7 Aq7) _ _ _
        refine jt_iload_n d_GC_macro_38 rfl ?_
        refine jt_icmp_lt (t := 44) d_GC_macro_39 rfl (by unfold jRi; omega) (by unfold jRi; omega) (fun c8 => ?_) (fun c8 => ?_)
        · skip
          refine jt_aload_n d_GC_macro_44 rfl ?_
          refine cm_get (k := 0) (v := .ref (b + 5)) d_GC_macro_45 GC_f21 (by decide) cc_0 rfl ?_
          refine jt_iload_n d_GC_macro_48 rfl ?_
          refine jt_iload_n d_GC_macro_49 rfl ?_
          refine jt_aload_n d_GC_macro_50 rfl ?_
          refine cm_get (k := 0) (v := .ref (b + 1)) d_GC_macro_51 GC_f14 (by decide) cc_0 rfl ?_
          refine cct_callV (Y := Y_EX_define) (ci := 1) (k := 5) (As := [.int (jI q), .int (jI n), .ref (b + 1)]) (rest := []) d_GC_macro_54 GC_c79 yk_EX_define yv_EX_define rfl (Nat.le_of_ble_eq_true rfl) (by decide) cc_2 rfl rfl (Nat.le_of_ble_eq_true rfl) (v_EX_define G _ b q n Iq7 Aq7 hpq7.1 hpq7.2.1 (cTok_of hqq7 (cTok_of hqq3 (cTok_of hqq1 hK rfl) rfl) rfl) (by omega) (by omega)) (fun rvq9 Iq9 Aq9 hq9 => ?_)
          obtain ⟨rfl, hqq9, hxq9⟩ := hq9
          have hpq9 := cPo.trans hpq7 hqq9 rfl rfl
          have m1_3q9 : Iq9 1 3 = Iq7 1 3 := hqq9.2.2.1 1 3 rfl
          have a2q9 : Aq9 2 = Aq7 2 := hqq9.2.2.2 2 rfl (by decide)
          have a3q9 : Aq9 3 = Aq7 3 := hqq9.2.2.2 3 rfl (by decide)
          show jt _ 57 [(0, .ref (b + 0)), (1, .int (jI q)), (2, .int (jI n))] [] (cmf b f0 Iq9 Aq9) _ _ _
          refine jt_aload_n d_GC_macro_57 rfl ?_
          refine cm_get (k := 0) (v := .ref (b + 1)) d_GC_macro_58 GC_f14 (by decide) cc_0 rfl ?_
          refine jt_iconst d_GC_macro_61 ?_
          refine cm_put (k := 1) (j := 3) (v := 0) d_GC_macro_62 (GC_w65 _ rfl) (by decide) (cc_1 rfl) rfl rfl (Nat.le_of_ble_eq_true rfl) rfl ?_
          have p10 := cPo.I 1 3 0 hpq9 rfl (show 0 ≤ 0 ∧ 0 ≤ 120 by omega)
          refine jt_iconst d_GC_macro_65 ?_
          exact cm_ret d_GC_macro_66 rfl rfl (⟨0, rfl, by omega, p10, hxq9, fun z => by exfalso; rcases z with z | z; omega; exact cRef_n (by have q9 := hxq7.2; rw [a2q3, a3q3, m1_3q3, bb2, bb3, bb13] at q9; exact q9) (by omega) z, fun _ => ⟨rfl, rfl⟩⟩)
        · skip
          refine jt_iconst d_GC_macro_42 ?_
          exact cm_ret d_GC_macro_43 rfl rfl (⟨-1, rfl, by omega, hpq7, (cTok_of hqq7 (cTok_of hqq3 (cTok_of hqq1 hK rfl) rfl) rfl), fun _ => ⟨rfl, show Iq7 1 3 = I 1 3 by omega⟩, fun z => absurd (Or.inr (by have q9 := hxq7.1; rw [a2q3, a3q3, m1_3q3, bb2, bb3, bb13] at q9; exact cRef_y q9 (by omega) (by omega))) z⟩)
    · skip
      refine jt_iconst d_GC_macro_17 ?_
      exact cm_ret d_GC_macro_18 rfl rfl (⟨-1, rfl, by omega, hpq3, (cTok_of hqq3 (cTok_of hqq1 hK rfl) rfl), fun _ => ⟨rfl, show Iq3 1 3 = I 1 3 by omega⟩, fun z => absurd (Or.inl (by omega)) z⟩)
set_option maxRecDepth 100000 in
set_option maxHeartbeats 4000000 in
theorem v_GC_note (G : jG) (d b : Nat) (f : Nat) (I : Nat → Nat → Int) (A : Nat → Int → Int) (hI : cSI I) (hA : cSA A) (k_f : f < 472) (k5f : ck f = 5) (hn : I 0 7 < 2147483647) : cct G Y_GC_note (d + 1) b [.ref (b + 0), .ref (b + f)] I A (fun (rv : Option Value) (I2 : Nat → Nat → Int) (A2 : Nat → Int → Int) => ∃ y : Int, rv = some (.int (jI y)) ∧ (-13 ≤ y ∧ y ≤ 0) ∧ cPo [7] [] I A I2 A2 ∧ I2 0 7 ≤ I 0 7 + 1) := by
  refine cct_of (by decide) (Nat.le_of_ble_eq_true rfl) (fun f0 sz => ?_)
  show jt _ 0 [(0, .ref (b + 0)), (1, .ref (b + f))] [] _ _ _ _
  have fpf := form_parts f k_f k5f
  have glf := eLong k_f k5f
  have r07 : 0 ≤ I 0 7 ∧ I 0 7 ≤ 2147483647 := hI 0 7
  have hz0 : cPo [7] [] I A I A := cPo.refl hI hA
  refine jt_aload_n d_GC_note_0 rfl ?_
  refine cct_callV (Y := Y_FO_isPlain) (ci := 4) (k := f) (As := []) (rest := []) d_GC_note_1 GC_c129 yk_FO_isPlain yv_FO_isPlain rfl (Nat.le_of_ble_eq_true rfl) k_f (cc_5 k5f) rfl rfl (Nat.le_of_ble_eq_true rfl) (v_FO_isPlain G _ b f I A hz0.1 hz0.2.1 k_f k5f ) (fun rvq1 Iq1 Aq1 hq1 => ?_)
  obtain ⟨yq1, rfl, ryq1, hqq1⟩ := hq1
  have hpq1 := cPo.trans hz0 hqq1 rfl rfl
  have m0_7q1 : Iq1 0 7 = I 0 7 := hqq1.2.2.1 0 7 rfl
  show jt _ 4 [(0, .ref (b + 0)), (1, .ref (b + f))] [.int (jI yq1)] (cmf b f0 Iq1 Aq1) _ _ _
  refine jt_if_ne (t := 10) d_GC_note_4 rfl (by unfold jRi; omega) (fun c2 => ?_) (fun c2 => ?_)
  · skip
    refine jt_aload_n d_GC_note_10 rfl ?_
    refine cm_get (k := 0) (v := .ref (b + 471)) d_GC_note_11 GC_f53 (by decide) cc_0 rfl ?_
    refine jt_aload_n d_GC_note_14 rfl ?_
    refine cm_get (k := 0) (v := .int (jI (Iq1 0 7))) d_GC_note_15 GC_f134 (by decide) cc_0 rfl ?_
    have rb3 : 0 ≤ Iq1 0 7 ∧ Iq1 0 7 ≤ 2147483647 := hpq1.1 0 7
    refine jt_bipush d_GC_note_18 (by omega) ?_
    have tn := Int.tmod_nonneg 8 (show 0 ≤ Iq1 0 7 by omega)
    refine jt_irem d_GC_note_20 (by unfold jRi; omega) (by unfold jRi; omega) (by omega) ?_
    have td4 := gtd (Iq1 0 7) 8 (by omega)
    refine jt_aload_n d_GC_note_21 rfl ?_
    refine cm_get (k := f) (v := .ref (b + (f + 1))) d_GC_note_22 GC_f137 k_f (cc_5 k5f) rfl ?_
    refine jt_bipush d_GC_note_25 (by omega) ?_
    refine cm_ld1 (k := f + 1) (n := 13) (v := (Aq1 ((f + 1))) 12) d_GC_note_27 fpf.2.2 fpf.1 fpf.2.1 (by omega) (by omega) (by omega) rfl ?_
    refine jt_topl (fun v5 ev5 => ?_)
    have bv5 : -9223372036854775808 ≤ v5 ∧ v5 ≤ 9223372036854775807 := by have q9 := hpq1.2.1 (f + 1) 12; rw [glf.1, glf.2] at q9; rw [ev5]; exact q9
    refine cm_st1 (k := 471) (n := 8) (v := v5) d_GC_note_28 (by decide) rfl rfl (by omega) (by omega) (by omega) ?_
    have p6 := cPo.A 471 (ju (Aq1 471) (Int.tmod (Iq1 0 7) 8) v5) hpq1 (Or.inr rfl) (gju (hpq1.2.1 471) (show -9223372036854775808 ≤ v5 ∧ v5 ≤ 9223372036854775807 by omega))
    refine jt_aload_n d_GC_note_29 rfl ?_
    refine jt_dup d_GC_note_30 rfl ?_
    refine cm_get (k := 0) (v := .int (jI (Iq1 0 7))) d_GC_note_31 GC_f134 (by decide) cc_0 rfl ?_
    refine jt_iconst d_GC_note_34 ?_
    refine jt_iadd d_GC_note_35 ?_
    refine jt_topi (fun v7 ev7 => ?_)
    refine cm_put (k := 0) (j := 7) (v := v7) d_GC_note_36 (GC_w134 _ rfl) (by decide) cc_0 rfl rfl (Nat.le_of_ble_eq_true rfl) rfl ?_
    have p8 := cPo.I 0 7 v7 p6 rfl (show 0 ≤ v7 ∧ v7 ≤ 2147483647 by omega)
    refine jt_iconst d_GC_note_39 ?_
    exact cm_ret d_GC_note_40 rfl rfl (⟨0, rfl, by omega, p8, show v7 ≤ I 0 7 + 1 by omega⟩)
  · skip
    refine jt_bipush d_GC_note_7 (by omega) ?_
    exact cm_ret d_GC_note_9 rfl rfl (⟨-12, rfl, by omega, hpq1, show Iq1 0 7 ≤ I 0 7 + 1 by omega⟩)
set_option maxRecDepth 100000 in
set_option maxHeartbeats 4000000 in
theorem l18_GC_equateAllv (G : jG) (d b : Nat)  (I : Nat → Nat → Int) (A : Nat → Int → Int) (hI : cSI I) (hA : cSA A) (f0 : jF) (sz : Nat)   : ∀ (n9 : Nat) (e : Int) (k : Int) (J : Nat → Nat → Int) (B : Nat → Int → Int), cPo [] [44, 434] I A J B → (-2147483648 ≤ e ∧ e ≤ 2147483647) → (1 ≤ k ∧ k ≤ 150) → 151 - k < (n9 : Int) → jt (jm G Y_GC_equateAll (gR (d + 4)) (cQ b f0 sz (fun (rv : Option Value) (I2 : Nat → Nat → Int) (A2 : Nat → Int → Int) => ∃ y : Int, rv = some (.int (jI y)) ∧ (-2147483648 ≤ y ∧ y ≤ 2147483647) ∧ cPo [] [44, 434] I A I2 A2))) 18 [(0, .ref (b + 0)), (1, .int (jI e)), (2, .int (jI k))] [] (cmf b f0 J B) sz 0 0 := by
  intro n9
  induction n9 with
  | zero =>
    intro e k J B hJ e0 k0 hmeas
    have r386 : 0 ≤ J 38 6 ∧ J 38 6 ≤ 150 := hJ.1 38 6
    exfalso
    omega
  | succ n9 ih =>
    intro e k J B hJ e0 k0 hmeas
    have r386 : 0 ≤ J 38 6 ∧ J 38 6 ≤ 150 := hJ.1 38 6
    refine jt_iload_n d_GC_equateAll_18 rfl ?_
    refine jt_aload_n d_GC_equateAll_19 rfl ?_
    refine cm_get (k := 0) (v := .ref (b + 38)) d_GC_equateAll_20 GC_f28 (by decide) cc_0 rfl ?_
    refine cm_get (k := 38) (v := .int (jI (J 38 6))) d_GC_equateAll_23 GC_f147 (by decide) cc_3 rfl ?_
    have rb101 : 0 ≤ J 38 6 ∧ J 38 6 ≤ 150 := hJ.1 38 6
    refine jt_icmp_ge (t := 70) d_GC_equateAll_26 rfl (by unfold jRi; omega) (by unfold jRi; omega) (fun c102 => ?_) (fun c102 => ?_)
    · skip
      refine jt_iload_n d_GC_equateAll_70 rfl ?_
      refine jt_if_eq (t := 88) d_GC_equateAll_71 rfl (by unfold jRi; omega) (fun c103 => ?_) (fun c103 => ?_)
      · skip
        refine jt_iload_n d_GC_equateAll_88 rfl ?_
        exact cm_ret d_GC_equateAll_89 rfl rfl (⟨e, rfl, by omega, hJ⟩)
      · skip
        refine jt_aload_n d_GC_equateAll_74 rfl ?_
        refine cm_get (k := 0) (v := .ref (b + 38)) d_GC_equateAll_75 GC_f28 (by decide) cc_0 rfl ?_
        refine cm_get (k := 38) (v := .ref (b + 43)) d_GC_equateAll_78 GC_f140 (by decide) cc_3 rfl ?_
        refine jt_aload_n d_GC_equateAll_81 rfl ?_
        refine cm_get (k := 0) (v := .ref (b + 433)) d_GC_equateAll_82 GC_f35 (by decide) cc_0 rfl ?_
        refine cct_callV (Y := Y_VA_copy) (ci := 3) (k := 43) (As := [.ref (b + 433)]) (rest := []) d_GC_equateAll_85 GC_c143 yk_VA_copy yv_VA_copy rfl (Nat.le_of_ble_eq_true rfl) (by decide) (cc_4 rfl) rfl rfl (Nat.le_of_ble_eq_true rfl) (v_VA_copy_43 G _ b  J B hJ.1 hJ.2.1 ) (fun rvq104 Iq104 Aq104 hq104 => ?_)
        obtain ⟨rfl, hqq104⟩ := hq104
        have hpq104 := cPo.trans hJ hqq104 rfl rfl
        show jt _ 88 [(0, .ref (b + 0)), (1, .int (jI e)), (2, .int (jI k))] [] (cmf b f0 Iq104 Aq104) _ _ _
        refine jt_iload_n d_GC_equateAll_88 rfl ?_
        exact cm_ret d_GC_equateAll_89 rfl rfl (⟨e, rfl, by omega, hpq104⟩)
    · skip
      refine jt_iload_n d_GC_equateAll_29 rfl ?_
      refine jt_if_ne (t := 70) d_GC_equateAll_30 rfl (by unfold jRi; omega) (fun c105 => ?_) (fun c105 => ?_)
      · skip
        refine jt_iload_n d_GC_equateAll_70 rfl ?_
        refine jt_if_eq (t := 88) d_GC_equateAll_71 rfl (by unfold jRi; omega) (fun c106 => ?_) (fun c106 => ?_)
        · skip
          refine jt_iload_n d_GC_equateAll_88 rfl ?_
          exact cm_ret d_GC_equateAll_89 rfl rfl (⟨e, rfl, by omega, hJ⟩)
        · skip
          refine jt_aload_n d_GC_equateAll_74 rfl ?_
          refine cm_get (k := 0) (v := .ref (b + 38)) d_GC_equateAll_75 GC_f28 (by decide) cc_0 rfl ?_
          refine cm_get (k := 38) (v := .ref (b + 43)) d_GC_equateAll_78 GC_f140 (by decide) cc_3 rfl ?_
          refine jt_aload_n d_GC_equateAll_81 rfl ?_
          refine cm_get (k := 0) (v := .ref (b + 433)) d_GC_equateAll_82 GC_f35 (by decide) cc_0 rfl ?_
          refine cct_callV (Y := Y_VA_copy) (ci := 3) (k := 43) (As := [.ref (b + 433)]) (rest := []) d_GC_equateAll_85 GC_c143 yk_VA_copy yv_VA_copy rfl (Nat.le_of_ble_eq_true rfl) (by decide) (cc_4 rfl) rfl rfl (Nat.le_of_ble_eq_true rfl) (v_VA_copy_43 G _ b  J B hJ.1 hJ.2.1 ) (fun rvq107 Iq107 Aq107 hq107 => ?_)
          obtain ⟨rfl, hqq107⟩ := hq107
          have hpq107 := cPo.trans hJ hqq107 rfl rfl
          show jt _ 88 [(0, .ref (b + 0)), (1, .int (jI e)), (2, .int (jI k))] [] (cmf b f0 Iq107 Aq107) _ _ _
          refine jt_iload_n d_GC_equateAll_88 rfl ?_
          exact cm_ret d_GC_equateAll_89 rfl rfl (⟨e, rfl, by omega, hpq107⟩)
      · skip
        refine jt_aload_n d_GC_equateAll_33 rfl ?_
        refine cm_get (k := 0) (v := .ref (b + 38)) d_GC_equateAll_34 GC_f28 (by decide) cc_0 rfl ?_
        refine cm_get (k := 38) (v := .ref (b + 43)) d_GC_equateAll_37 GC_f140 (by decide) cc_3 rfl ?_
        refine jt_aload_n d_GC_equateAll_40 rfl ?_
        refine cm_get (k := 0) (v := .ref (b + 38)) d_GC_equateAll_41 GC_f28 (by decide) cc_0 rfl ?_
        refine cm_get (k := 38) (v := .ref (b + 74)) d_GC_equateAll_44 GC_f114 (by decide) cc_3 rfl ?_
        refine jt_iload_n d_GC_equateAll_47 rfl ?_
        refine jt_iconst d_GC_equateAll_48 ?_
        refine jt_isub d_GC_equateAll_49 ?_
        refine cm_ldF (k := 74) (n := 150) (z := (k - 1)) d_GC_equateAll_50 (by decide) rfl rfl (by omega) (by omega) (by omega) ?_
        have hfq108 := form_at 74 (by decide) rfl ((k - 1) : Int).toNat (show ((k - 1) : Int).toNat < 150 by omega)
        generalize 74 + 1 + 2 * ((k - 1) : Int).toNat = q108 at hfq108 ⊢
        have fpq108 := form_parts q108 hfq108.2 hfq108.1
        have glq108 := eLong hfq108.2 hfq108.1
        refine jt_aload_n d_GC_equateAll_51 rfl ?_
        refine cm_get (k := 0) (v := .ref (b + 38)) d_GC_equateAll_52 GC_f28 (by decide) cc_0 rfl ?_
        refine cm_get (k := 38) (v := .ref (b + 74)) d_GC_equateAll_55 GC_f114 (by decide) cc_3 rfl ?_
        refine jt_iload_n d_GC_equateAll_58 rfl ?_
        refine cm_ldF (k := 74) (n := 150) (z := k) d_GC_equateAll_59 (by decide) rfl rfl (by omega) (by omega) (by omega) ?_
        have hfq109 := form_at 74 (by decide) rfl (k : Int).toNat (show (k : Int).toNat < 150 by omega)
        generalize 74 + 1 + 2 * (k : Int).toNat = q109 at hfq109 ⊢
        have fpq109 := form_parts q109 hfq109.2 hfq109.1
        have glq109 := eLong hfq109.2 hfq109.1
        refine cct_callV (Y := Y_VA_equate) (ci := 3) (k := 43) (As := [.ref (b + q108), .ref (b + q109)]) (rest := []) d_GC_equateAll_60 GC_c150 yk_VA_equate yv_VA_equate rfl (Nat.le_of_ble_eq_true rfl) (by decide) (cc_4 rfl) rfl rfl (Nat.le_of_ble_eq_true rfl) (v_VA_equate G _ b q108 q109 J B hJ.1 hJ.2.1 hfq108.2 hfq108.1 hfq109.2 hfq109.1) (fun rvq110 Iq110 Aq110 hq110 => ?_)
        obtain ⟨yq110, rfl, ryq110, hqq110⟩ := hq110
        have hpq110 := cPo.trans hJ hqq110 rfl rfl
        show jt _ 63 [(0, .ref (b + 0)), (1, .int (jI e)), (2, .int (jI k))] [.int (jI yq110)] (cmf b f0 Iq110 Aq110) _ _ _
        refine jt_istore_n (L' := [(0, .ref (b + 0)), (1, .int (jI yq110)), (2, .int (jI k))]) d_GC_equateAll_63 (Nat.le_of_ble_eq_true rfl) rfl ?_
        refine jt_iinc (L' := [(0, .ref (b + 0)), (1, .int (jI yq110)), (2, .int (jI (k + 1)))]) d_GC_equateAll_64 rfl (Nat.le_of_ble_eq_true rfl) rfl ?_
        refine jt_goto (t := 18) d_GC_equateAll_67 rfl ?_
        exact ih yq110 (k + 1) Iq110 Aq110 hpq110 (by omega) (by omega) (by omega)
set_option maxRecDepth 100000 in
set_option maxHeartbeats 4000000 in
theorem v_GC_equateAll (G : jG) (d b : Nat)  (I : Nat → Nat → Int) (A : Nat → Int → Int) (hI : cSI I) (hA : cSA A) : cct G Y_GC_equateAll (d + 4) b [.ref (b + 0)] I A (fun (rv : Option Value) (I2 : Nat → Nat → Int) (A2 : Nat → Int → Int) => ∃ y : Int, rv = some (.int (jI y)) ∧ (-2147483648 ≤ y ∧ y ≤ 2147483647) ∧ cPo [] [44, 434] I A I2 A2) := by
  refine cct_of (by decide) (Nat.le_of_ble_eq_true rfl) (fun f0 sz => ?_)
  show jt _ 0 [(0, .ref (b + 0))] [] _ _ _ _
  have hz0 : cPo [] [44, 434] I A I A := cPo.refl hI hA
  refine jt_aload_n d_GC_equateAll_0 rfl ?_
  refine cm_get (k := 0) (v := .ref (b + 433)) d_GC_equateAll_1 GC_f35 (by decide) cc_0 rfl ?_
  refine jt_aload_n d_GC_equateAll_4 rfl ?_
  refine cm_get (k := 0) (v := .ref (b + 38)) d_GC_equateAll_5 GC_f28 (by decide) cc_0 rfl ?_
  refine cm_get (k := 38) (v := .ref (b + 43)) d_GC_equateAll_8 GC_f140 (by decide) cc_3 rfl ?_
  refine cct_callV (Y := Y_VA_copy) (ci := 3) (k := 433) (As := [.ref (b + 43)]) (rest := []) d_GC_equateAll_11 GC_c143 yk_VA_copy yv_VA_copy rfl (Nat.le_of_ble_eq_true rfl) (by decide) (cc_4 rfl) rfl rfl (Nat.le_of_ble_eq_true rfl) (v_VA_copy_433 G _ b  I A hz0.1 hz0.2.1 ) (fun rvq1 Iq1 Aq1 hq1 => ?_)
  obtain ⟨rfl, hqq1⟩ := hq1
  have hpq1 := cPo.trans hz0 hqq1 rfl rfl
  show jt _ 14 [(0, .ref (b + 0))] [] (cmf b f0 Iq1 Aq1) _ _ _
  refine jt_iconst d_GC_equateAll_14 ?_
  refine jt_istore_n (L' := [(0, .ref (b + 0)), (1, .int (jI 0))]) d_GC_equateAll_15 (Nat.le_of_ble_eq_true rfl) rfl ?_
  refine jt_iconst d_GC_equateAll_16 ?_
  refine jt_istore_n (L' := [(0, .ref (b + 0)), (1, .int (jI 0)), (2, .int (jI 1))]) d_GC_equateAll_17 (Nat.le_of_ble_eq_true rfl) rfl ?_
  exact l18_GC_equateAllv G d b  I A hI hA f0 sz  151 0 1 Iq1 Aq1 hpq1 (by omega) (by omega) (by omega)
set_option maxRecDepth 100000 in
set_option maxHeartbeats 4000000 in
theorem v_GC_paint (G : jG) (d b : Nat) (c : Int) (I : Nat → Nat → Int) (A : Nat → Int → Int) (hI : cSI I) (hA : cSA A) (hc : 0 ≤ c ∧ c ≤ 1) : cct G Y_GC_paint (d + 3) b [.ref (b + 0), .int (jI c)] I A (fun (rv : Option Value) (I2 : Nat → Nat → Int) (A2 : Nat → Int → Int) => ∃ y : Int, rv = some (.int (jI y)) ∧ (-2147483648 ≤ y ∧ y ≤ 2147483647) ∧ cPo [7427] [465, 466, 467, 469, 470] I A I2 A2) := by
  refine cct_of (by decide) (Nat.le_of_ble_eq_true rfl) (fun f0 sz => ?_)
  show jt _ 0 [(0, .ref (b + 0)), (1, .int (jI c))] [] _ _ _ _
  have hz0 : cPo [7427] [465, 466, 467, 469, 470] I A I A := cPo.refl hI hA
  refine jt_aload_n d_GC_paint_0 rfl ?_
  refine cm_get (k := 0) (v := .ref (b + 38)) d_GC_paint_1 GC_f28 (by decide) cc_0 rfl ?_
  refine cm_get (k := 38) (v := .int (jI (I 38 9))) d_GC_paint_4 GC_f154 (by decide) cc_3 rfl ?_
  have rb1 : 0 ≤ I 38 9 ∧ I 38 9 ≤ 2000 := hz0.1 38 9
  refine jt_bipush d_GC_paint_7 (by omega) ?_
  refine jt_icmp_le (t := 15) d_GC_paint_9 rfl (by unfold jRi; omega) (by unfold jRi; omega) (fun c2 => ?_) (fun c2 => ?_)
  · skip
    refine jt_aload_n d_GC_paint_15 rfl ?_
    refine cm_get (k := 0) (v := .ref (b + 464)) d_GC_paint_16 GC_f42 (by decide) cc_0 rfl ?_
    refine jt_aload_n d_GC_paint_19 rfl ?_
    refine cm_get (k := 0) (v := .ref (b + 38)) d_GC_paint_20 GC_f28 (by decide) cc_0 rfl ?_
    refine cm_get (k := 38) (v := .ref (b + 74)) d_GC_paint_23 GC_f114 (by decide) cc_3 rfl ?_
    refine jt_aload_n d_GC_paint_26 rfl ?_
    refine cm_get (k := 0) (v := .ref (b + 38)) d_GC_paint_27 GC_f28 (by decide) cc_0 rfl ?_
    refine cm_get (k := 38) (v := .int (jI (I 38 6))) d_GC_paint_30 GC_f147 (by decide) cc_3 rfl ?_
    have rb3 : 0 ≤ I 38 6 ∧ I 38 6 ≤ 150 := hz0.1 38 6
    refine cct_callV (Y := Y_OU_takeNumbers) (ci := 5) (k := 464) (As := [.ref (b + 74), .int (jI (I 38 6))]) (rest := []) d_GC_paint_33 GC_c157 yk_OU_takeNumbers yv_OU_takeNumbers rfl (Nat.le_of_ble_eq_true rfl) (by decide) cc_6 rfl rfl (Nat.le_of_ble_eq_true rfl) (v_OU_takeNumbers G _ b (I 38 6) I A hz0.1 hz0.2.1 (by omega)) (fun rvq4 Iq4 Aq4 hq4 => ?_)
    obtain ⟨yq4, rfl, ryq4, hqq4⟩ := hq4
    have hpq4 := cPo.trans hz0 hqq4 rfl rfl
    show jt _ 36 [(0, .ref (b + 0)), (1, .int (jI c))] [.int (jI yq4)] (cmf b f0 Iq4 Aq4) _ _ _
    refine jt_istore_n (L' := [(0, .ref (b + 0)), (1, .int (jI c)), (2, .int (jI yq4))]) d_GC_paint_36 (Nat.le_of_ble_eq_true rfl) rfl ?_
    refine jt_iload_n d_GC_paint_37 rfl ?_
    refine jt_if_ne (t := 74) d_GC_paint_38 rfl (by unfold jRi; omega) (fun c5 => ?_) (fun c5 => ?_)
    · skip
      refine jt_iload_n d_GC_paint_74 rfl ?_
      exact cm_ret d_GC_paint_75 rfl rfl (⟨yq4, rfl, by omega, hpq4⟩)
    · skip
      refine jt_aload_n d_GC_paint_41 rfl ?_
      refine cm_get (k := 0) (v := .ref (b + 464)) d_GC_paint_42 GC_f42 (by decide) cc_0 rfl ?_
      refine jt_aload_n d_GC_paint_45 rfl ?_
      refine cm_get (k := 0) (v := .ref (b + 38)) d_GC_paint_46 GC_f28 (by decide) cc_0 rfl ?_
      refine cm_get (k := 38) (v := .ref (b + 375)) d_GC_paint_49 GC_f161 (by decide) cc_3 rfl ?_
      refine jt_aload_n d_GC_paint_52 rfl ?_
      refine cm_get (k := 0) (v := .ref (b + 38)) d_GC_paint_53 GC_f28 (by decide) cc_0 rfl ?_
      refine cm_get (k := 38) (v := .int (jI (Iq4 38 9))) d_GC_paint_56 GC_f154 (by decide) cc_3 rfl ?_
      have rb6 : 0 ≤ Iq4 38 9 ∧ Iq4 38 9 ≤ 2000 := hpq4.1 38 9
      refine cct_callV (Y := Y_OU_trace) (ci := 5) (k := 464) (As := [.ref (b + 375), .int (jI (Iq4 38 9))]) (rest := []) d_GC_paint_59 GC_c165 yk_OU_trace yv_OU_trace rfl (Nat.le_of_ble_eq_true rfl) (by decide) cc_6 rfl rfl (Nat.le_of_ble_eq_true rfl) (v_OU_trace G _ b (Iq4 38 9) Iq4 Aq4 hpq4.1 hpq4.2.1 (by omega)) (fun rvq7 Iq7 Aq7 hq7 => ?_)
      obtain ⟨rfl, hqq7⟩ := hq7
      have hpq7 := cPo.trans hpq4 hqq7 rfl rfl
      show jt _ 62 [(0, .ref (b + 0)), (1, .int (jI c)), (2, .int (jI yq4))] [] (cmf b f0 Iq7 Aq7) _ _ _
      refine jt_aload_n d_GC_paint_62 rfl ?_
      refine cm_get (k := 0) (v := .ref (b + 468)) d_GC_paint_63 GC_f49 (by decide) cc_0 rfl ?_
      refine jt_aload_n d_GC_paint_66 rfl ?_
      refine cm_get (k := 0) (v := .ref (b + 464)) d_GC_paint_67 GC_f42 (by decide) cc_0 rfl ?_
      refine jt_iload_n d_GC_paint_70 rfl ?_
      refine cct_callV (Y := Y_PI_paint) (ci := 6) (k := 468) (As := [.ref (b + 464), .int (jI c)]) (rest := []) d_GC_paint_71 GC_c169 yk_PI_paint yv_PI_paint rfl (Nat.le_of_ble_eq_true rfl) (by decide) cc_7 rfl rfl (Nat.le_of_ble_eq_true rfl) (v_PI_paint G _ b c Iq7 Aq7 hpq7.1 hpq7.2.1 (by omega)) (fun rvq8 Iq8 Aq8 hq8 => ?_)
      obtain ⟨rfl, hqq8⟩ := hq8
      have hpq8 := cPo.trans hpq7 hqq8 rfl rfl
      show jt _ 74 [(0, .ref (b + 0)), (1, .int (jI c)), (2, .int (jI yq4))] [] (cmf b f0 Iq8 Aq8) _ _ _
      refine jt_iload_n d_GC_paint_74 rfl ?_
      exact cm_ret d_GC_paint_75 rfl rfl (⟨yq4, rfl, by omega, hpq8⟩)
  · skip
    refine jt_bipush d_GC_paint_12 (by omega) ?_
    exact cm_ret d_GC_paint_14 rfl rfl (⟨-7, rfl, by omega, hz0⟩)
set_option maxRecDepth 100000 in
set_option maxHeartbeats 4000000 in
theorem v_GC_carryOut (G : jG) (d b : Nat)  (I : Nat → Nat → Int) (A : Nat → Int → Int) (hI : cSI I) (hA : cSA A) (hn : I 0 7 < 2147483647) : cct G Y_GC_carryOut (d + 5) b [.ref (b + 0)] I A (fun (rv : Option Value) (I2 : Nat → Nat → Int) (A2 : Nat → Int → Int) => ∃ y : Int, rv = some (.int (jI y)) ∧ (-2147483648 ≤ y ∧ y ≤ 2147483647) ∧ cPo [7, 7427] [44, 434, 465, 466, 467, 469, 470] I A I2 A2 ∧ I2 0 7 ≤ I 0 7 + 1) := by
  refine cct_of (by decide) (Nat.le_of_ble_eq_true rfl) (fun f0 sz => ?_)
  show jt _ 0 [(0, .ref (b + 0))] [] _ _ _ _
  have hz0 : cPo [7, 7427] [44, 434, 465, 466, 467, 469, 470] I A I A := cPo.refl hI hA
  refine jt_aload_n d_GC_carryOut_0 rfl ?_
  refine cm_get (k := 0) (v := .ref (b + 38)) d_GC_carryOut_1 GC_f28 (by decide) cc_0 rfl ?_
  refine cm_get (k := 38) (v := .int (jI (I 38 7))) d_GC_carryOut_4 GC_f107 (by decide) cc_3 rfl ?_
  have rb1 : 0 ≤ I 38 7 ∧ I 38 7 ≤ 1 := hz0.1 38 7
  refine jt_if_ne (t := 13) d_GC_carryOut_7 rfl (by unfold jRi; omega) (fun c2 => ?_) (fun c2 => ?_)
  · skip
    refine jt_aload_n d_GC_carryOut_13 rfl ?_
    refine cm_get (k := 0) (v := .ref (b + 38)) d_GC_carryOut_14 GC_f28 (by decide) cc_0 rfl ?_
    refine cm_get (k := 38) (v := .int (jI (I 38 4))) d_GC_carryOut_17 GC_f111 (by decide) cc_3 rfl ?_
    have rb3 : -2147483648 ≤ I 38 4 ∧ I 38 4 ≤ 2147483647 := hz0.1 38 4
    by_cases hs2 : I 38 4 = 2
    · skip
      refine jt_lookup (t := 90) (o := 70) d_GC_carryOut_20 (by decide) (by unfold jRi; omega) (by rw [hs2]; decide) rfl ?_
      refine jt_aload_n d_GC_carryOut_90 rfl ?_
      refine cct_callV (Y := Y_GC_equateAll) (ci := 7) (k := 0) (As := []) (rest := []) d_GC_carryOut_91 GC_c126 yk_GC_equateAll yv_GC_equateAll rfl (Nat.le_of_ble_eq_true rfl) (by decide) cc_0 rfl rfl (Nat.le_of_ble_eq_true rfl) (v_GC_equateAll G _ b  I A hz0.1 hz0.2.1 ) (fun rvq4 Iq4 Aq4 hq4 => ?_)
      obtain ⟨yq4, rfl, ryq4, hqq4⟩ := hq4
      have hpq4 := cPo.trans hz0 hqq4 rfl rfl
      have m0_7q4 : Iq4 0 7 = I 0 7 := hqq4.2.2.1 0 7 rfl
      show jt _ 94 [(0, .ref (b + 0))] [.int (jI yq4)] (cmf b f0 Iq4 Aq4) _ _ _
      exact cm_ret d_GC_carryOut_94 rfl rfl (⟨yq4, rfl, by omega, hpq4, show Iq4 0 7 ≤ I 0 7 + 1 by omega⟩)
    by_cases hs10 : I 38 4 = 10
    · skip
      refine jt_lookup (t := 78) (o := 58) d_GC_carryOut_20 (by decide) (by unfold jRi; omega) (by rw [hs10]; decide) rfl ?_
      refine jt_aload_n d_GC_carryOut_78 rfl ?_
      refine jt_iconst d_GC_carryOut_79 ?_
      refine cct_callV (Y := Y_GC_paint) (ci := 7) (k := 0) (As := [.int (jI 1)]) (rest := []) d_GC_carryOut_80 GC_c122 yk_GC_paint yv_GC_paint rfl (Nat.le_of_ble_eq_true rfl) (by decide) cc_0 rfl rfl (Nat.le_of_ble_eq_true rfl) (v_GC_paint G _ b 1 I A hz0.1 hz0.2.1 (by omega)) (fun rvq5 Iq5 Aq5 hq5 => ?_)
      obtain ⟨yq5, rfl, ryq5, hqq5⟩ := hq5
      have hpq5 := cPo.trans hz0 hqq5 rfl rfl
      have m0_7q5 : Iq5 0 7 = I 0 7 := hqq5.2.2.1 0 7 rfl
      show jt _ 83 [(0, .ref (b + 0))] [.int (jI yq5)] (cmf b f0 Iq5 Aq5) _ _ _
      exact cm_ret d_GC_carryOut_83 rfl rfl (⟨yq5, rfl, by omega, hpq5, show Iq5 0 7 ≤ I 0 7 + 1 by omega⟩)
    by_cases hs11 : I 38 4 = 11
    · skip
      refine jt_lookup (t := 84) (o := 64) d_GC_carryOut_20 (by decide) (by unfold jRi; omega) (by rw [hs11]; decide) rfl ?_
      refine jt_aload_n d_GC_carryOut_84 rfl ?_
      refine jt_iconst d_GC_carryOut_85 ?_
      refine cct_callV (Y := Y_GC_paint) (ci := 7) (k := 0) (As := [.int (jI 0)]) (rest := []) d_GC_carryOut_86 GC_c122 yk_GC_paint yv_GC_paint rfl (Nat.le_of_ble_eq_true rfl) (by decide) cc_0 rfl rfl (Nat.le_of_ble_eq_true rfl) (v_GC_paint G _ b 0 I A hz0.1 hz0.2.1 (by omega)) (fun rvq6 Iq6 Aq6 hq6 => ?_)
      obtain ⟨yq6, rfl, ryq6, hqq6⟩ := hq6
      have hpq6 := cPo.trans hz0 hqq6 rfl rfl
      have m0_7q6 : Iq6 0 7 = I 0 7 := hqq6.2.2.1 0 7 rfl
      show jt _ 89 [(0, .ref (b + 0))] [.int (jI yq6)] (cmf b f0 Iq6 Aq6) _ _ _
      exact cm_ret d_GC_carryOut_89 rfl rfl (⟨yq6, rfl, by omega, hpq6, show Iq6 0 7 ≤ I 0 7 + 1 by omega⟩)
    by_cases hs12 : I 38 4 = 12
    · skip
      refine jt_lookup (t := 64) (o := 44) d_GC_carryOut_20 (by decide) (by unfold jRi; omega) (by rw [hs12]; decide) rfl ?_
      refine jt_aload_n d_GC_carryOut_64 rfl ?_
      refine jt_aload_n d_GC_carryOut_65 rfl ?_
      refine cm_get (k := 0) (v := .ref (b + 38)) d_GC_carryOut_66 GC_f28 (by decide) cc_0 rfl ?_
      refine cm_get (k := 38) (v := .ref (b + 74)) d_GC_carryOut_69 GC_f114 (by decide) cc_3 rfl ?_
      refine jt_iconst d_GC_carryOut_72 ?_
      refine cm_ldF (k := 74) (n := 150) (z := 0) d_GC_carryOut_73 (by decide) rfl rfl (by omega) (by omega) (by omega) ?_
      have hfq7 := form_at 74 (by decide) rfl (0 : Int).toNat (show (0 : Int).toNat < 150 by omega)
      generalize 74 + 1 + 2 * (0 : Int).toNat = q7 at hfq7 ⊢
      have fpq7 := form_parts q7 hfq7.2 hfq7.1
      have glq7 := eLong hfq7.2 hfq7.1
      refine cct_callV (Y := Y_GC_note) (ci := 7) (k := 0) (As := [.ref (b + q7)]) (rest := []) d_GC_carryOut_74 GC_c118 yk_GC_note yv_GC_note rfl (Nat.le_of_ble_eq_true rfl) (by decide) cc_0 rfl rfl (Nat.le_of_ble_eq_true rfl) (v_GC_note G _ b q7 I A hz0.1 hz0.2.1 hfq7.2 hfq7.1 (show I 0 7 < 2147483647 by omega)) (fun rvq8 Iq8 Aq8 hq8 => ?_)
      obtain ⟨yq8, rfl, ryq8, hqq8, hxq8⟩ := hq8
      have hpq8 := cPo.trans hz0 hqq8 rfl rfl
      show jt _ 77 [(0, .ref (b + 0))] [.int (jI yq8)] (cmf b f0 Iq8 Aq8) _ _ _
      exact cm_ret d_GC_carryOut_77 rfl rfl (⟨yq8, rfl, by omega, hpq8, show Iq8 0 7 ≤ I 0 7 + 1 by omega⟩)
    refine jt_lookup (t := 95) (o := 75) d_GC_carryOut_20 (by decide) (by unfold jRi; omega) (by simp [Op.lookupswitch.offset, hs2, hs10, hs11, hs12, Ne.symm hs2, Ne.symm hs10, Ne.symm hs11, Ne.symm hs12]) rfl ?_
    refine jt_iconst d_GC_carryOut_95 ?_
    exact cm_ret d_GC_carryOut_96 rfl rfl (⟨0, rfl, by omega, hz0, show I 0 7 ≤ I 0 7 + 1 by omega⟩)
  · skip
    refine jt_bipush d_GC_carryOut_10 (by omega) ?_
    exact cm_ret d_GC_carryOut_12 rfl rfl (⟨-9, rfl, by omega, hz0, show I 0 7 ≤ I 0 7 + 1 by omega⟩)
set_option maxRecDepth 100000 in
set_option maxHeartbeats 4000000 in
theorem l54_GC_runv (G : jG) (d b : Nat)  (I : Nat → Nat → Int) (A : Nat → Int → Int) (hI : cSI I) (hA : cSA A) (hK : cTok A) (hn : I 0 7 ≤ 2147480000) (f0 : jF) (sz : Nat)   : ∀ (n9 : Nat) (e : Int) (s : Int) (J : Nat → Nat → Int) (B : Nat → Int → Int), cPo [7, 8, 9, 19, 85, 86, 131, 627, 610, 611, 612, 614, 615, 617, 7427] [9, 10, 11, 12, 13, 40, 41, 42, 44, 375, 434, 465, 466, 467, 469, 470] I A J B → (-2147483648 ≤ e ∧ e ≤ 2147483647) → (0 ≤ s ∧ s ≤ 300) → (J 1 3 = 0) → (J 0 7 ≤ I 0 7 + s) → (cTok B) → 300 - s < (n9 : Int) → jt (jm G Y_GC_run (gR (d + 36)) (cQ b f0 sz (fun (rv : Option Value) (I2 : Nat → Nat → Int) (A2 : Nat → Int → Int) => ∃ y : Int, rv = some (.int (jI y)) ∧ (-2147483648 ≤ y ∧ y ≤ 2147483647) ∧ cPo [7, 8, 9, 19, 85, 86, 131, 627, 610, 611, 612, 614, 615, 617, 7427] [9, 10, 11, 12, 13, 40, 41, 42, 44, 375, 434, 465, 466, 467, 469, 470] I A I2 A2 ∧ cTok A2 ∧ I2 1 3 = 0 ∧ I2 0 7 ≤ I 0 7 + 300))) 54 [(0, .ref (b + 0)), (1, .int (jI e)), (2, .int (jI s))] [] (cmf b f0 J B) sz 0 0 := by
  intro n9
  induction n9 with
  | zero =>
    intro e s J B hJ e0 s0 j13 j07 hKJ hmeas
    have r07 : 0 ≤ J 0 7 ∧ J 0 7 ≤ 2147483647 := hJ.1 0 7
    exfalso
    omega
  | succ n9 ih =>
    intro e s J B hJ e0 s0 j13 j07 hKJ hmeas
    have r07 : 0 ≤ J 0 7 ∧ J 0 7 ≤ 2147483647 := hJ.1 0 7
    refine jt_iload_n d_GC_run_54 rfl ?_
    refine jt_sipush d_GC_run_55 (by omega) ?_
    refine jt_icmp_ge (t := 150) d_GC_run_58 rfl (by unfold jRi; omega) (by unfold jRi; omega) (fun c101 => ?_) (fun c101 => ?_)
    · skip
      refine jt_iconst d_GC_run_150 ?_
      exact cm_ret d_GC_run_151 rfl rfl (⟨0, rfl, by omega, hJ, hKJ, show J 1 3 = 0 by omega, show J 0 7 ≤ I 0 7 + 300 by omega⟩)
    · skip
      refine jt_aload_n d_GC_run_61 rfl ?_
      refine cm_get (k := 0) (v := .ref (b + 38)) d_GC_run_62 GC_f28 (by decide) cc_0 rfl ?_
      refine cm_get (k := 38) (v := .int (jI (J 38 2))) d_GC_run_65 GC_f93 (by decide) cc_3 rfl ?_
      have rb102 : 0 ≤ J 38 2 ∧ J 38 2 ≤ 300 := hJ.1 38 2
      refine jt_aload_n d_GC_run_68 rfl ?_
      refine cm_get (k := 0) (v := .ref (b + 38)) d_GC_run_69 GC_f28 (by decide) cc_0 rfl ?_
      refine cm_get (k := 38) (v := .ref (b + 39)) d_GC_run_72 GC_f83 (by decide) cc_3 rfl ?_
      refine cm_get (k := 39) (v := .int (jI (J 39 3))) d_GC_run_75 GC_f65 (by decide) (cc_1 rfl) rfl ?_
      have rb103 : 0 ≤ J 39 3 ∧ J 39 3 ≤ 300 := hJ.1 39 3
      refine jt_icmp_ge (t := 150) d_GC_run_78 rfl (by unfold jRi; omega) (by unfold jRi; omega) (fun c104 => ?_) (fun c104 => ?_)
      · skip
        refine jt_iconst d_GC_run_150 ?_
        exact cm_ret d_GC_run_151 rfl rfl (⟨0, rfl, by omega, hJ, hKJ, show J 1 3 = 0 by omega, show J 0 7 ≤ I 0 7 + 300 by omega⟩)
      · skip
        refine jt_aload_n d_GC_run_81 rfl ?_
        refine cm_get (k := 0) (v := .ref (b + 38)) d_GC_run_82 GC_f28 (by decide) cc_0 rfl ?_
        refine cct_callV (Y := Y_RD_readStatement) (ci := 2) (k := 38) (As := []) (rest := []) d_GC_run_85 GC_c94 yk_RD_readStatement yv_RD_readStatement rfl (Nat.le_of_ble_eq_true rfl) (by decide) cc_3 rfl rfl (Nat.le_of_ble_eq_true rfl) (v_RD_readStatement G _ b  J B hJ.1 hJ.2.1 hKJ ) (fun rvq105 Iq105 Aq105 hq105 => ?_)
        obtain ⟨yq105, rfl, ryq105, hqq105⟩ := hq105
        have hpq105 := cPo.trans hJ hqq105 rfl rfl
        have m0_7q105 : Iq105 0 7 = J 0 7 := hqq105.2.2.1 0 7 rfl
        have m1_3q105 : Iq105 1 3 = J 1 3 := hqq105.2.2.1 1 3 rfl
        show jt _ 88 [(0, .ref (b + 0)), (1, .int (jI e)), (2, .int (jI s))] [.int (jI yq105)] (cmf b f0 Iq105 Aq105) _ _ _
        refine jt_if_ne (t := 110) d_GC_run_88 rfl (by unfold jRi; omega) (fun c106 => ?_) (fun c106 => ?_)
        · skip
          refine jt_aload_n d_GC_run_110 rfl ?_
          refine cct_callV (Y := Y_GC_carryOut) (ci := 7) (k := 0) (As := []) (rest := []) d_GC_run_111 GC_c101 yk_GC_carryOut yv_GC_carryOut rfl (Nat.le_of_ble_eq_true rfl) (by decide) cc_0 rfl rfl (Nat.le_of_ble_eq_true rfl) (v_GC_carryOut G _ b  Iq105 Aq105 hpq105.1 hpq105.2.1 (show Iq105 0 7 < 2147483647 by omega)) (fun rvq107 Iq107 Aq107 hq107 => ?_)
          obtain ⟨yq107, rfl, ryq107, hqq107, hxq107⟩ := hq107
          have hpq107 := cPo.trans hpq105 hqq107 rfl rfl
          have m1_3q107 : Iq107 1 3 = Iq105 1 3 := hqq107.2.2.1 1 3 rfl
          show jt _ 114 [(0, .ref (b + 0)), (1, .int (jI e)), (2, .int (jI s))] [.int (jI yq107)] (cmf b f0 Iq107 Aq107) _ _ _
          refine jt_istore_n (L' := [(0, .ref (b + 0)), (1, .int (jI yq107)), (2, .int (jI s))]) d_GC_run_114 (Nat.le_of_ble_eq_true rfl) rfl ?_
          refine jt_iload_n d_GC_run_115 rfl ?_
          refine jt_if_eq (t := 134) d_GC_run_116 rfl (by unfold jRi; omega) (fun c108 => ?_) (fun c108 => ?_)
          · skip
            refine jt_aload_n d_GC_run_134 rfl ?_
            refine jt_dup d_GC_run_135 rfl ?_
            refine cm_get (k := 0) (v := .int (jI (Iq107 0 8))) d_GC_run_136 GC_f104 (by decide) cc_0 rfl ?_
            have rb109 : -2147483648 ≤ Iq107 0 8 ∧ Iq107 0 8 ≤ 2147483647 := hpq107.1 0 8
            refine jt_iconst d_GC_run_139 ?_
            refine jt_iadd d_GC_run_140 ?_
            refine jt_topiw (fun v110 bv110 => ?_)
            refine cm_put (k := 0) (j := 8) (v := v110) d_GC_run_141 (GC_w104 _ rfl) (by decide) cc_0 rfl rfl (Nat.le_of_ble_eq_true rfl) rfl ?_
            have p111 := cPo.I 0 8 v110 hpq107 rfl (show -2147483648 ≤ v110 ∧ v110 ≤ 2147483647 by omega)
            refine jt_iinc (L' := [(0, .ref (b + 0)), (1, .int (jI yq107)), (2, .int (jI (s + 1)))]) d_GC_run_144 rfl (Nat.le_of_ble_eq_true rfl) rfl ?_
            refine jt_goto (t := 54) d_GC_run_147 rfl ?_
            exact ih yq107 (s + 1) (cu Iq107 0 8 v110) Aq107 p111 (by omega) (by omega) (show Iq107 1 3 = 0 by omega) (show Iq107 0 7 ≤ I 0 7 + (s + 1) by omega) (cTok_of hqq107 (cTok_of hqq105 hKJ rfl) rfl) (by omega)
          · skip
            refine jt_aload_n d_GC_run_119 rfl ?_
            refine jt_aload_n d_GC_run_120 rfl ?_
            refine cm_get (k := 0) (v := .ref (b + 38)) d_GC_run_121 GC_f28 (by decide) cc_0 rfl ?_
            refine cm_get (k := 38) (v := .int (jI (Iq107 38 2))) d_GC_run_124 GC_f93 (by decide) cc_3 rfl ?_
            have rb112 : 0 ≤ Iq107 38 2 ∧ Iq107 38 2 ≤ 300 := hpq107.1 38 2
            refine jt_iconst d_GC_run_127 ?_
            refine jt_isub d_GC_run_128 ?_
            refine jt_topiw (fun v113 bv113 => ?_)
            refine cm_put (k := 0) (j := 9) (v := v113) d_GC_run_129 (GC_w57 _ rfl) (by decide) cc_0 rfl rfl (Nat.le_of_ble_eq_true rfl) rfl ?_
            have p114 := cPo.I 0 9 v113 hpq107 rfl (show -2147483648 ≤ v113 ∧ v113 ≤ 2147483647 by omega)
            refine jt_iload_n d_GC_run_132 rfl ?_
            exact cm_ret d_GC_run_133 rfl rfl (⟨yq107, rfl, by omega, p114, (cTok_of hqq107 (cTok_of hqq105 hKJ rfl) rfl), show Iq107 1 3 = 0 by omega, show Iq107 0 7 ≤ I 0 7 + 300 by omega⟩)
        · skip
          refine jt_aload_n d_GC_run_91 rfl ?_
          refine jt_aload_n d_GC_run_92 rfl ?_
          refine cm_get (k := 0) (v := .ref (b + 38)) d_GC_run_93 GC_f28 (by decide) cc_0 rfl ?_
          refine cm_get (k := 38) (v := .int (jI (Iq105 38 2))) d_GC_run_96 GC_f93 (by decide) cc_3 rfl ?_
          have rb115 : 0 ≤ Iq105 38 2 ∧ Iq105 38 2 ≤ 300 := hpq105.1 38 2
          refine cm_put (k := 0) (j := 9) (v := (Iq105 38 2)) d_GC_run_99 (GC_w57 _ rfl) (by decide) cc_0 rfl rfl (Nat.le_of_ble_eq_true rfl) rfl ?_
          have p116 := cPo.I 0 9 (Iq105 38 2) hpq105 rfl (show -2147483648 ≤ Iq105 38 2 ∧ Iq105 38 2 ≤ 2147483647 by omega)
          refine jt_aload_n d_GC_run_102 rfl ?_
          refine cm_get (k := 0) (v := .ref (b + 38)) d_GC_run_103 GC_f28 (by decide) cc_0 rfl ?_
          refine cm_get (k := 38) (v := .int (jI (Iq105 38 3))) d_GC_run_106 GC_f98 (by decide) cc_3 rfl ?_
          have rb117 : -2147483648 ≤ Iq105 38 3 ∧ Iq105 38 3 ≤ 2147483647 := p116.1 38 3
          exact cm_ret d_GC_run_109 rfl rfl (⟨Iq105 38 3, rfl, by omega, p116, (cTok_of hqq105 hKJ rfl), show Iq105 1 3 = 0 by omega, show Iq105 0 7 ≤ I 0 7 + 300 by omega⟩)
set_option maxRecDepth 100000 in
set_option maxHeartbeats 4000000 in
theorem v_GC_run (G : jG) (d b : Nat)  (I : Nat → Nat → Int) (A : Nat → Int → Int) (hI : cSI I) (hA : cSA A) (hK : cTok A) (hn : I 0 7 ≤ 2147480000) : cct G Y_GC_run (d + 36) b [.ref (b + 0)] I A (fun (rv : Option Value) (I2 : Nat → Nat → Int) (A2 : Nat → Int → Int) => ∃ y : Int, rv = some (.int (jI y)) ∧ (-2147483648 ≤ y ∧ y ≤ 2147483647) ∧ cPo [7, 8, 9, 19, 85, 86, 131, 627, 610, 611, 612, 614, 615, 617, 7427] [9, 10, 11, 12, 13, 40, 41, 42, 44, 375, 434, 465, 466, 467, 469, 470] I A I2 A2 ∧ cTok A2 ∧ I2 1 3 = 0 ∧ I2 0 7 ≤ I 0 7 + 300) := by
  refine cct_of (by decide) (Nat.le_of_ble_eq_true rfl) (fun f0 sz => ?_)
  show jt _ 0 [(0, .ref (b + 0))] [] _ _ _ _
  have hz0 : cPo [7, 8, 9, 19, 85, 86, 131, 627, 610, 611, 612, 614, 615, 617, 7427] [9, 10, 11, 12, 13, 40, 41, 42, 44, 375, 434, 465, 466, 467, 469, 470] I A I A := cPo.refl hI hA
  refine jt_aload_n d_GC_run_0 rfl ?_
  refine cm_get (k := 0) (v := .ref (b + 5)) d_GC_run_1 GC_f21 (by decide) cc_0 rfl ?_
  refine jt_aload_n d_GC_run_4 rfl ?_
  refine cm_get (k := 0) (v := .ref (b + 1)) d_GC_run_5 GC_f14 (by decide) cc_0 rfl ?_
  refine jt_aload_n d_GC_run_8 rfl ?_
  refine cm_get (k := 0) (v := .ref (b + 38)) d_GC_run_9 GC_f28 (by decide) cc_0 rfl ?_
  refine cm_get (k := 38) (v := .ref (b + 39)) d_GC_run_12 GC_f83 (by decide) cc_3 rfl ?_
  refine cct_callV (Y := Y_EX_expand) (ci := 1) (k := 5) (As := [.ref (b + 1), .ref (b + 39)]) (rest := []) d_GC_run_15 GC_c86 yk_EX_expand yv_EX_expand rfl (Nat.le_of_ble_eq_true rfl) (by decide) cc_2 rfl rfl (Nat.le_of_ble_eq_true rfl) (v_EX_expand G _ b  I A hz0.1 hz0.2.1 hK ) (fun rvq1 Iq1 Aq1 hq1 => ?_)
  obtain ⟨yq1, rfl, ryq1, hqq1, hxq1⟩ := hq1
  have hpq1 := cPo.trans hz0 hqq1 rfl rfl
  have m0_7q1 : Iq1 0 7 = I 0 7 := hqq1.2.2.1 0 7 rfl
  have m1_3q1 : Iq1 1 3 = I 1 3 := hqq1.2.2.1 1 3 rfl
  show jt _ 18 [(0, .ref (b + 0))] [.int (jI yq1)] (cmf b f0 Iq1 Aq1) _ _ _
  refine jt_istore_n (L' := [(0, .ref (b + 0)), (1, .int (jI yq1))]) d_GC_run_18 (Nat.le_of_ble_eq_true rfl) rfl ?_
  refine jt_aload_n d_GC_run_19 rfl ?_
  refine cm_get (k := 0) (v := .ref (b + 1)) d_GC_run_20 GC_f14 (by decide) cc_0 rfl ?_
  refine jt_iconst d_GC_run_23 ?_
  refine cm_put (k := 1) (j := 3) (v := 0) d_GC_run_24 (GC_w65 _ rfl) (by decide) (cc_1 rfl) rfl rfl (Nat.le_of_ble_eq_true rfl) rfl ?_
  have p2 := cPo.I 1 3 0 hpq1 rfl (show 0 ≤ 0 ∧ 0 ≤ 120 by omega)
  refine jt_aload_n d_GC_run_27 rfl ?_
  refine jt_aload_n d_GC_run_28 rfl ?_
  refine cm_get (k := 0) (v := .ref (b + 5)) d_GC_run_29 GC_f21 (by decide) cc_0 rfl ?_
  refine cm_get (k := 5) (v := .int (jI (Iq1 5 5))) d_GC_run_32 GC_f90 (by decide) cc_2 rfl ?_
  have rb3 : 0 ≤ Iq1 5 5 ∧ Iq1 5 5 ≤ 300 := p2.1 5 5
  refine cm_put (k := 0) (j := 9) (v := (Iq1 5 5)) d_GC_run_35 (GC_w57 _ rfl) (by decide) cc_0 rfl rfl (Nat.le_of_ble_eq_true rfl) rfl ?_
  have p4 := cPo.I 0 9 (Iq1 5 5) p2 rfl (show -2147483648 ≤ Iq1 5 5 ∧ Iq1 5 5 ≤ 2147483647 by omega)
  refine jt_iload_n d_GC_run_38 rfl ?_
  refine jt_if_eq (t := 44) d_GC_run_39 rfl (by unfold jRi; omega) (fun c5 => ?_) (fun c5 => ?_)
  · skip
    refine jt_aload_n d_GC_run_44 rfl ?_
    refine cm_get (k := 0) (v := .ref (b + 38)) d_GC_run_45 GC_f28 (by decide) cc_0 rfl ?_
    refine jt_iconst d_GC_run_48 ?_
    refine cm_put (k := 38) (j := 2) (v := 0) d_GC_run_49 (GC_w93 _ rfl) (by decide) cc_3 rfl rfl (Nat.le_of_ble_eq_true rfl) rfl ?_
    have p6 := cPo.I 38 2 0 p4 rfl (show 0 ≤ 0 ∧ 0 ≤ 300 by omega)
    refine jt_iconst d_GC_run_52 ?_
    refine jt_istore_n (L' := [(0, .ref (b + 0)), (1, .int (jI yq1)), (2, .int (jI 0))]) d_GC_run_53 (Nat.le_of_ble_eq_true rfl) rfl ?_
    exact l54_GC_runv G d b  I A hI hA hK hn f0 sz  301 yq1 0 (cu (cu (cu Iq1 1 3 0) 0 9 (Iq1 5 5)) 38 2 0) Aq1 p6 (by omega) (by omega) (show 0 = 0 by omega) (show Iq1 0 7 ≤ I 0 7 + (0) by omega) hxq1 (by omega)
  · skip
    refine jt_iload_n d_GC_run_42 rfl ?_
    exact cm_ret d_GC_run_43 rfl rfl (⟨yq1, rfl, by omega, p4, hxq1, show 0 = 0 by omega, show Iq1 0 7 ≤ I 0 7 + 300 by omega⟩)
set_option maxRecDepth 100000 in
set_option maxHeartbeats 4000000 in
theorem v_GC_place (G : jG) (d b : Nat)  (I : Nat → Nat → Int) (A : Nat → Int → Int) (hI : cSI I) (hA : cSA A) : cct G Y_GC_place d b [.ref (b + 0)] I A (fun (rv : Option Value) (I2 : Nat → Nat → Int) (A2 : Nat → Int → Int) => ∃ y : Int, rv = some (.int (jI y)) ∧ (-2147483648 ≤ y ∧ y ≤ 2147483647) ∧ cPo [] [] I A I2 A2) := by
  refine cct_of (by decide) (Nat.le_of_ble_eq_true rfl) (fun f0 sz => ?_)
  show jt _ 0 [(0, .ref (b + 0))] [] _ _ _ _
  have hz0 : cPo [] [] I A I A := cPo.refl hI hA
  refine jt_aload_n d_GC_place_0 rfl ?_
  refine cm_get (k := 0) (v := .int (jI (I 0 9))) d_GC_place_1 GC_f57 (by decide) cc_0 rfl ?_
  have rb1 : -2147483648 ≤ I 0 9 ∧ I 0 9 ≤ 2147483647 := hz0.1 0 9
  exact cm_ret d_GC_place_4 rfl rfl (⟨I 0 9, rfl, by omega, hz0⟩)
set_option maxRecDepth 100000 in
set_option maxHeartbeats 4000000 in
theorem v_GC_forget (G : jG) (d b : Nat)  (I : Nat → Nat → Int) (A : Nat → Int → Int) (hI : cSI I) (hA : cSA A) : cct G Y_GC_forget (d + 2) b [.ref (b + 0)] I A (fun (rv : Option Value) (I2 : Nat → Nat → Int) (A2 : Nat → Int → Int) => ∃ y : Int, rv = some (.int (jI y)) ∧ (y = 0) ∧ cPo [] [44] I A I2 A2) := by
  refine cct_of (by decide) (Nat.le_of_ble_eq_true rfl) (fun f0 sz => ?_)
  show jt _ 0 [(0, .ref (b + 0))] [] _ _ _ _
  have hz0 : cPo [] [44] I A I A := cPo.refl hI hA
  refine jt_aload_n d_GC_forget_0 rfl ?_
  refine cm_get (k := 0) (v := .ref (b + 38)) d_GC_forget_1 GC_f28 (by decide) cc_0 rfl ?_
  refine cm_get (k := 38) (v := .ref (b + 43)) d_GC_forget_4 GC_f140 (by decide) cc_3 rfl ?_
  refine cct_callV (Y := Y_VA_free) (ci := 3) (k := 43) (As := []) (rest := []) d_GC_forget_7 GC_c172 yk_VA_free yv_VA_free rfl (Nat.le_of_ble_eq_true rfl) (by decide) (cc_4 rfl) rfl rfl (Nat.le_of_ble_eq_true rfl) (v_VA_free G _ b  I A hz0.1 hz0.2.1 ) (fun rvq1 Iq1 Aq1 hq1 => ?_)
  obtain ⟨rfl, hqq1⟩ := hq1
  have hpq1 := cPo.trans hz0 hqq1 rfl rfl
  show jt _ 10 [(0, .ref (b + 0))] [] (cmf b f0 Iq1 Aq1) _ _ _
  refine jt_iconst d_GC_forget_10 ?_
  exact cm_ret d_GC_forget_11 rfl rfl (⟨0, rfl, rfl, hpq1⟩)
set_option maxRecDepth 100000 in
set_option maxHeartbeats 4000000 in
theorem v_GC_clean (G : jG) (d b : Nat)  (I : Nat → Nat → Int) (A : Nat → Int → Int) (hI : cSI I) (hA : cSA A) : cct G Y_GC_clean (d + 1) b [.ref (b + 0)] I A (fun (rv : Option Value) (I2 : Nat → Nat → Int) (A2 : Nat → Int → Int) => ∃ y : Int, rv = some (.int (jI y)) ∧ (y = 0) ∧ cPo [] [469] I A I2 A2) := by
  refine cct_of (by decide) (Nat.le_of_ble_eq_true rfl) (fun f0 sz => ?_)
  show jt _ 0 [(0, .ref (b + 0))] [] _ _ _ _
  have hz0 : cPo [] [469] I A I A := cPo.refl hI hA
  refine jt_aload_n d_GC_clean_0 rfl ?_
  refine cm_get (k := 0) (v := .ref (b + 468)) d_GC_clean_1 GC_f49 (by decide) cc_0 rfl ?_
  refine cct_callV (Y := Y_PI_whiten) (ci := 6) (k := 468) (As := []) (rest := []) d_GC_clean_4 GC_c175 yk_PI_whiten yv_PI_whiten rfl (Nat.le_of_ble_eq_true rfl) (by decide) cc_7 rfl rfl (Nat.le_of_ble_eq_true rfl) (v_PI_whiten G _ b  I A hz0.1 hz0.2.1 ) (fun rvq1 Iq1 Aq1 hq1 => ?_)
  obtain ⟨rfl, hqq1⟩ := hq1
  have hpq1 := cPo.trans hz0 hqq1 rfl rfl
  show jt _ 7 [(0, .ref (b + 0))] [] (cmf b f0 Iq1 Aq1) _ _ _
  refine jt_iconst d_GC_clean_7 ?_
  exact cm_ret d_GC_clean_8 rfl rfl (⟨0, rfl, rfl, hpq1⟩)
set_option maxRecDepth 100000 in
set_option maxHeartbeats 4000000 in
theorem v_GC_state (G : jG) (d b : Nat) (v : Int) (I : Nat → Nat → Int) (A : Nat → Int → Int) (hI : cSI I) (hA : cSA A) (hv : -2147483648 ≤ v ∧ v ≤ 2147483647) : cct G Y_GC_state (d + 1) b [.ref (b + 0), .int (jI v)] I A (fun (rv : Option Value) (I2 : Nat → Nat → Int) (A2 : Nat → Int → Int) => ∃ y : Int, rv = some (.int (jI y)) ∧ (-2147483648 ≤ y ∧ y ≤ 2147483647) ∧ cPo [] [] I A I2 A2) := by
  refine cct_of (by decide) (Nat.le_of_ble_eq_true rfl) (fun f0 sz => ?_)
  show jt _ 0 [(0, .ref (b + 0)), (1, .int (jI v))] [] _ _ _ _
  have hz0 : cPo [] [] I A I A := cPo.refl hI hA
  refine jt_iload_n d_GC_state_0 rfl ?_
  refine jt_bipush d_GC_state_1 (by omega) ?_
  refine cct_callS (Y := Y_GC_isBelow) (As := [.int (jI v), .int (jI 12)]) (rest := []) d_GC_state_3 GC_c72 yk_GC_isBelow ys_GC_isBelow (Nat.le_of_ble_eq_true rfl) rfl rfl (Nat.le_of_ble_eq_true rfl) (v_GC_isBelow G _ b v 12 I A hz0.1 hz0.2.1 (by omega) (by omega)) (fun rvq1 Iq1 Aq1 hq1 => ?_)
  obtain ⟨yq1, rfl, ryq1, hqq1, hxq1⟩ := hq1
  have hpq1 := cPo.trans hz0 hqq1 rfl rfl
  show jt _ 6 [(0, .ref (b + 0)), (1, .int (jI v))] [.int (jI yq1)] (cmf b f0 Iq1 Aq1) _ _ _
  refine jt_if_eq (t := 24) d_GC_state_6 rfl (by unfold jRi; omega) (fun c2 => ?_) (fun c2 => ?_)
  · skip
    refine jt_iconst d_GC_state_24 ?_
    exact cm_ret d_GC_state_25 rfl rfl (⟨-1, rfl, by omega, hpq1⟩)
  · skip
    refine jt_aload_n d_GC_state_9 rfl ?_
    refine cm_get (k := 0) (v := .ref (b + 38)) d_GC_state_10 GC_f28 (by decide) cc_0 rfl ?_
    refine cm_get (k := 38) (v := .ref (b + 43)) d_GC_state_13 GC_f140 (by decide) cc_3 rfl ?_
    refine cm_get (k := 43) (v := .ref (b + 44)) d_GC_state_16 GC_f178 (by decide) (cc_4 rfl) rfl ?_
    refine jt_iload_n d_GC_state_19 rfl ?_
    refine cm_ld0 (k := 44) (n := 12) (v := (Aq1 44) v) d_GC_state_20 (by decide) rfl rfl (by omega) (by omega) (by omega) rfl ?_
    refine jt_topi (fun v3 ev3 => ?_)
    have bv3 : -2147483648 ≤ v3 ∧ v3 ≤ 2147483647 := by rw [ev3]; exact hpq1.2.1 44 v
    refine jt_goto (t := 25) d_GC_state_21 rfl ?_
    exact cm_ret d_GC_state_25 rfl rfl (⟨v3, rfl, by omega, hpq1⟩)
set_option maxRecDepth 100000 in
set_option maxHeartbeats 4000000 in
theorem v_GC_number (G : jG) (d b : Nat) (v : Int) (I : Nat → Nat → Int) (A : Nat → Int → Int) (hI : cSI I) (hA : cSA A) (hv : -2147483648 ≤ v ∧ v ≤ 2147483647) : cct G Y_GC_number (d + 1) b [.ref (b + 0), .int (jI v)] I A (fun (rv : Option Value) (I2 : Nat → Nat → Int) (A2 : Nat → Int → Int) => ∃ y : Int, rv = some (.long (jL y)) ∧ (-9223372036854775808 ≤ y ∧ y ≤ 9223372036854775807) ∧ cPo [] [] I A I2 A2) := by
  refine cct_of (by decide) (Nat.le_of_ble_eq_true rfl) (fun f0 sz => ?_)
  show jt _ 0 [(0, .ref (b + 0)), (1, .int (jI v))] [] _ _ _ _
  have hz0 : cPo [] [] I A I A := cPo.refl hI hA
  refine jt_iload_n d_GC_number_0 rfl ?_
  refine jt_bipush d_GC_number_1 (by omega) ?_
  refine cct_callS (Y := Y_GC_isBelow) (As := [.int (jI v), .int (jI 12)]) (rest := []) d_GC_number_3 GC_c72 yk_GC_isBelow ys_GC_isBelow (Nat.le_of_ble_eq_true rfl) rfl rfl (Nat.le_of_ble_eq_true rfl) (v_GC_isBelow G _ b v 12 I A hz0.1 hz0.2.1 (by omega) (by omega)) (fun rvq1 Iq1 Aq1 hq1 => ?_)
  obtain ⟨yq1, rfl, ryq1, hqq1, hxq1⟩ := hq1
  have hpq1 := cPo.trans hz0 hqq1 rfl rfl
  show jt _ 6 [(0, .ref (b + 0)), (1, .int (jI v))] [.int (jI yq1)] (cmf b f0 Iq1 Aq1) _ _ _
  refine jt_if_eq (t := 24) d_GC_number_6 rfl (by unfold jRi; omega) (fun c2 => ?_) (fun c2 => ?_)
  · skip
    refine jt_ldc2 (z := 1000000000000000) d_GC_number_24 GC_k182 ?_
    exact cm_lret d_GC_number_27 rfl (⟨1000000000000000, rfl, by omega, hpq1⟩)
  · skip
    refine jt_aload_n d_GC_number_9 rfl ?_
    refine cm_get (k := 0) (v := .ref (b + 38)) d_GC_number_10 GC_f28 (by decide) cc_0 rfl ?_
    refine cm_get (k := 38) (v := .ref (b + 43)) d_GC_number_13 GC_f140 (by decide) cc_3 rfl ?_
    refine cm_get (k := 43) (v := .ref (b + 44)) d_GC_number_16 GC_f178 (by decide) (cc_4 rfl) rfl ?_
    refine jt_iload_n d_GC_number_19 rfl ?_
    refine cm_ld0 (k := 44) (n := 12) (v := (Aq1 44) v) d_GC_number_20 (by decide) rfl rfl (by omega) (by omega) (by omega) rfl ?_
    refine jt_topi (fun v3 ev3 => ?_)
    have bv3 : -2147483648 ≤ v3 ∧ v3 ≤ 2147483647 := by rw [ev3]; exact hpq1.2.1 44 v
    refine jt_if_ne (t := 28) d_GC_number_21 rfl (by unfold jRi; omega) (fun c4 => ?_) (fun c4 => ?_)
    · skip
      refine jt_aload_n d_GC_number_28 rfl ?_
      refine cm_get (k := 0) (v := .ref (b + 38)) d_GC_number_29 GC_f28 (by decide) cc_0 rfl ?_
      refine cm_get (k := 38) (v := .ref (b + 43)) d_GC_number_32 GC_f140 (by decide) cc_3 rfl ?_
      refine cm_get (k := 43) (v := .ref (b + 45)) d_GC_number_35 GC_f184 (by decide) (cc_4 rfl) rfl ?_
      refine jt_iload_n d_GC_number_38 rfl ?_
      refine cm_ldF (k := 45) (n := 12) (z := v) d_GC_number_39 (by decide) rfl rfl (by omega) (by omega) (by omega) ?_
      have hfq5 := form_at 45 (by decide) rfl (v : Int).toNat (show (v : Int).toNat < 12 by omega)
      generalize 45 + 1 + 2 * (v : Int).toNat = q5 at hfq5 ⊢
      have fpq5 := form_parts q5 hfq5.2 hfq5.1
      have glq5 := eLong hfq5.2 hfq5.1
      refine cm_get (k := q5) (v := .ref (b + (q5 + 1))) d_GC_number_40 GC_f137 hfq5.2 (cc_5 hfq5.1) rfl ?_
      refine jt_bipush d_GC_number_43 (by omega) ?_
      refine cm_ld1 (k := q5 + 1) (n := 13) (v := (Aq1 ((q5 + 1))) 12) d_GC_number_45 fpq5.2.2 fpq5.1 fpq5.2.1 (by omega) (by omega) (by omega) rfl ?_
      refine jt_topl (fun v6 ev6 => ?_)
      have bv6 : -9223372036854775808 ≤ v6 ∧ v6 ≤ 9223372036854775807 := by have q9 := hpq1.2.1 (q5 + 1) 12; rw [glq5.1, glq5.2] at q9; rw [ev6]; exact q9
      exact cm_lret d_GC_number_46 rfl (⟨v6, rfl, by omega, hpq1⟩)
    · skip
      refine jt_ldc2 (z := 1000000000000000) d_GC_number_24 GC_k182 ?_
      exact cm_lret d_GC_number_27 rfl (⟨1000000000000000, rfl, by omega, hpq1⟩)
set_option maxRecDepth 100000 in
set_option maxHeartbeats 4000000 in
theorem v_GC_factor (G : jG) (d b : Nat) (v : Int) (u : Int) (I : Nat → Nat → Int) (A : Nat → Int → Int) (hI : cSI I) (hA : cSA A) (hv : -2147483648 ≤ v ∧ v ≤ 2147483647) (hu : -2147483648 ≤ u ∧ u ≤ 2147483647) : cct G Y_GC_factor (d + 1) b [.ref (b + 0), .int (jI v), .int (jI u)] I A (fun (rv : Option Value) (I2 : Nat → Nat → Int) (A2 : Nat → Int → Int) => ∃ y : Int, rv = some (.long (jL y)) ∧ (-9223372036854775808 ≤ y ∧ y ≤ 9223372036854775807) ∧ cPo [] [] I A I2 A2) := by
  refine cct_of (by decide) (Nat.le_of_ble_eq_true rfl) (fun f0 sz => ?_)
  show jt _ 0 [(0, .ref (b + 0)), (1, .int (jI v)), (2, .int (jI u))] [] _ _ _ _
  have hz0 : cPo [] [] I A I A := cPo.refl hI hA
  refine jt_iload_n d_GC_factor_0 rfl ?_
  refine jt_bipush d_GC_factor_1 (by omega) ?_
  refine cct_callS (Y := Y_GC_isBelow) (As := [.int (jI v), .int (jI 12)]) (rest := []) d_GC_factor_3 GC_c72 yk_GC_isBelow ys_GC_isBelow (Nat.le_of_ble_eq_true rfl) rfl rfl (Nat.le_of_ble_eq_true rfl) (v_GC_isBelow G _ b v 12 I A hz0.1 hz0.2.1 (by omega) (by omega)) (fun rvq1 Iq1 Aq1 hq1 => ?_)
  obtain ⟨yq1, rfl, ryq1, hqq1, hxq1⟩ := hq1
  have hpq1 := cPo.trans hz0 hqq1 rfl rfl
  show jt _ 6 [(0, .ref (b + 0)), (1, .int (jI v)), (2, .int (jI u))] [.int (jI yq1)] (cmf b f0 Iq1 Aq1) _ _ _
  refine jt_if_eq (t := 34) d_GC_factor_6 rfl (by unfold jRi; omega) (fun c2 => ?_) (fun c2 => ?_)
  · skip
    refine jt_ldc2 (z := 1000000000000000) d_GC_factor_34 GC_k182 ?_
    exact cm_lret d_GC_factor_37 rfl (⟨1000000000000000, rfl, by omega, hpq1⟩)
  · skip
    refine jt_iload_n d_GC_factor_9 rfl ?_
    refine jt_bipush d_GC_factor_10 (by omega) ?_
    refine cct_callS (Y := Y_GC_isBelow) (As := [.int (jI u), .int (jI 12)]) (rest := []) d_GC_factor_12 GC_c72 yk_GC_isBelow ys_GC_isBelow (Nat.le_of_ble_eq_true rfl) rfl rfl (Nat.le_of_ble_eq_true rfl) (v_GC_isBelow G _ b u 12 Iq1 Aq1 hpq1.1 hpq1.2.1 (by omega) (by omega)) (fun rvq3 Iq3 Aq3 hq3 => ?_)
    obtain ⟨yq3, rfl, ryq3, hqq3, hxq3⟩ := hq3
    have hpq3 := cPo.trans hpq1 hqq3 rfl rfl
    show jt _ 15 [(0, .ref (b + 0)), (1, .int (jI v)), (2, .int (jI u))] [.int (jI yq3)] (cmf b f0 Iq3 Aq3) _ _ _
    refine jt_if_eq (t := 34) d_GC_factor_15 rfl (by unfold jRi; omega) (fun c4 => ?_) (fun c4 => ?_)
    · skip
      refine jt_ldc2 (z := 1000000000000000) d_GC_factor_34 GC_k182 ?_
      exact cm_lret d_GC_factor_37 rfl (⟨1000000000000000, rfl, by omega, hpq3⟩)
    · skip
      refine jt_aload_n d_GC_factor_18 rfl ?_
      refine cm_get (k := 0) (v := .ref (b + 38)) d_GC_factor_19 GC_f28 (by decide) cc_0 rfl ?_
      refine cm_get (k := 38) (v := .ref (b + 43)) d_GC_factor_22 GC_f140 (by decide) cc_3 rfl ?_
      refine cm_get (k := 43) (v := .ref (b + 44)) d_GC_factor_25 GC_f178 (by decide) (cc_4 rfl) rfl ?_
      refine jt_iload_n d_GC_factor_28 rfl ?_
      refine cm_ld0 (k := 44) (n := 12) (v := (Aq3 44) v) d_GC_factor_29 (by decide) rfl rfl (by omega) (by omega) (by omega) rfl ?_
      refine jt_topi (fun v5 ev5 => ?_)
      have bv5 : -2147483648 ≤ v5 ∧ v5 ≤ 2147483647 := by rw [ev5]; exact hpq3.2.1 44 v
      refine jt_iconst d_GC_factor_30 ?_
      refine jt_icmp_eq (t := 38) d_GC_factor_31 rfl (by unfold jRi; omega) (by unfold jRi; omega) (fun c6 => ?_) (fun c6 => ?_)
      · skip
        refine jt_aload_n d_GC_factor_38 rfl ?_
        refine cm_get (k := 0) (v := .ref (b + 38)) d_GC_factor_39 GC_f28 (by decide) cc_0 rfl ?_
        refine cm_get (k := 38) (v := .ref (b + 43)) d_GC_factor_42 GC_f140 (by decide) cc_3 rfl ?_
        refine cm_get (k := 43) (v := .ref (b + 45)) d_GC_factor_45 GC_f184 (by decide) (cc_4 rfl) rfl ?_
        refine jt_iload_n d_GC_factor_48 rfl ?_
        refine cm_ldF (k := 45) (n := 12) (z := v) d_GC_factor_49 (by decide) rfl rfl (by omega) (by omega) (by omega) ?_
        have hfq7 := form_at 45 (by decide) rfl (v : Int).toNat (show (v : Int).toNat < 12 by omega)
        generalize 45 + 1 + 2 * (v : Int).toNat = q7 at hfq7 ⊢
        have fpq7 := form_parts q7 hfq7.2 hfq7.1
        have glq7 := eLong hfq7.2 hfq7.1
        refine cm_get (k := q7) (v := .ref (b + (q7 + 1))) d_GC_factor_50 GC_f137 hfq7.2 (cc_5 hfq7.1) rfl ?_
        refine jt_iload_n d_GC_factor_53 rfl ?_
        refine cm_ld1 (k := q7 + 1) (n := 13) (v := (Aq3 ((q7 + 1))) u) d_GC_factor_54 fpq7.2.2 fpq7.1 fpq7.2.1 (by omega) (by omega) (by omega) rfl ?_
        refine jt_topl (fun v8 ev8 => ?_)
        have bv8 : -9223372036854775808 ≤ v8 ∧ v8 ≤ 9223372036854775807 := by have q9 := hpq3.2.1 (q7 + 1) u; rw [glq7.1, glq7.2] at q9; rw [ev8]; exact q9
        exact cm_lret d_GC_factor_55 rfl (⟨v8, rfl, by omega, hpq3⟩)
      · skip
        refine jt_ldc2 (z := 1000000000000000) d_GC_factor_34 GC_k182 ?_
        exact cm_lret d_GC_factor_37 rfl (⟨1000000000000000, rfl, by omega, hpq3⟩)
set_option maxRecDepth 100000 in
set_option maxHeartbeats 4000000 in
theorem v_GC_black (G : jG) (d b : Nat) (i : Int) (j : Int) (I : Nat → Nat → Int) (A : Nat → Int → Int) (hI : cSI I) (hA : cSA A) (hi : -2147483648 ≤ i ∧ i ≤ 2147483647) (hj : -2147483648 ≤ j ∧ j ≤ 2147483647) : cct G Y_GC_black (d + 1) b [.ref (b + 0), .int (jI i), .int (jI j)] I A (fun (rv : Option Value) (I2 : Nat → Nat → Int) (A2 : Nat → Int → Int) => ∃ y : Int, rv = some (.int (jI y)) ∧ (0 ≤ y ∧ y ≤ 1) ∧ cPo [] [] I A I2 A2) := by
  refine cct_of (by decide) (Nat.le_of_ble_eq_true rfl) (fun f0 sz => ?_)
  show jt _ 0 [(0, .ref (b + 0)), (1, .int (jI i)), (2, .int (jI j))] [] _ _ _ _
  have hz0 : cPo [] [] I A I A := cPo.refl hI hA
  refine jt_iload_n d_GC_black_0 rfl ?_
  refine jt_bipush d_GC_black_1 (by omega) ?_
  refine cct_callS (Y := Y_GC_isBelow) (As := [.int (jI i), .int (jI 32)]) (rest := []) d_GC_black_3 GC_c72 yk_GC_isBelow ys_GC_isBelow (Nat.le_of_ble_eq_true rfl) rfl rfl (Nat.le_of_ble_eq_true rfl) (v_GC_isBelow G _ b i 32 I A hz0.1 hz0.2.1 (by omega) (by omega)) (fun rvq1 Iq1 Aq1 hq1 => ?_)
  obtain ⟨yq1, rfl, ryq1, hqq1, hxq1⟩ := hq1
  have hpq1 := cPo.trans hz0 hqq1 rfl rfl
  show jt _ 6 [(0, .ref (b + 0)), (1, .int (jI i)), (2, .int (jI j))] [.int (jI yq1)] (cmf b f0 Iq1 Aq1) _ _ _
  refine jt_if_eq (t := 34) d_GC_black_6 rfl (by unfold jRi; omega) (fun c2 => ?_) (fun c2 => ?_)
  · skip
    refine jt_iconst d_GC_black_34 ?_
    exact cm_ret d_GC_black_35 rfl (jnz (by omega)) (⟨0, rfl, by omega, hpq1⟩)
  · skip
    refine jt_iload_n d_GC_black_9 rfl ?_
    refine jt_bipush d_GC_black_10 (by omega) ?_
    refine cct_callS (Y := Y_GC_isBelow) (As := [.int (jI j), .int (jI 24)]) (rest := []) d_GC_black_12 GC_c72 yk_GC_isBelow ys_GC_isBelow (Nat.le_of_ble_eq_true rfl) rfl rfl (Nat.le_of_ble_eq_true rfl) (v_GC_isBelow G _ b j 24 Iq1 Aq1 hpq1.1 hpq1.2.1 (by omega) (by omega)) (fun rvq3 Iq3 Aq3 hq3 => ?_)
    obtain ⟨yq3, rfl, ryq3, hqq3, hxq3⟩ := hq3
    have hpq3 := cPo.trans hpq1 hqq3 rfl rfl
    show jt _ 15 [(0, .ref (b + 0)), (1, .int (jI i)), (2, .int (jI j))] [.int (jI yq3)] (cmf b f0 Iq3 Aq3) _ _ _
    refine jt_if_eq (t := 34) d_GC_black_15 rfl (by unfold jRi; omega) (fun c4 => ?_) (fun c4 => ?_)
    · skip
      refine jt_iconst d_GC_black_34 ?_
      exact cm_ret d_GC_black_35 rfl (jnz (by omega)) (⟨0, rfl, by omega, hpq3⟩)
    · skip
      refine jt_aload_n d_GC_black_18 rfl ?_
      refine cm_get (k := 0) (v := .ref (b + 468)) d_GC_black_19 GC_f49 (by decide) cc_0 rfl ?_
      refine jt_iload_n d_GC_black_22 rfl ?_
      refine jt_iload_n d_GC_black_23 rfl ?_
      refine cct_callV (Y := Y_PI_isBlack) (ci := 6) (k := 468) (As := [.int (jI i), .int (jI j)]) (rest := []) d_GC_black_24 GC_c187 yk_PI_isBlack yv_PI_isBlack rfl (Nat.le_of_ble_eq_true rfl) (by decide) cc_7 rfl rfl (Nat.le_of_ble_eq_true rfl) (v_PI_isBlack G _ b i j Iq3 Aq3 hpq3.1 hpq3.2.1 (by omega) (by omega)) (fun rvq5 Iq5 Aq5 hq5 => ?_)
      obtain ⟨yq5, rfl, ryq5, hqq5⟩ := hq5
      have hpq5 := cPo.trans hpq3 hqq5 rfl rfl
      show jt _ 27 [(0, .ref (b + 0)), (1, .int (jI i)), (2, .int (jI j))] [.int (jI yq5)] (cmf b f0 Iq5 Aq5) _ _ _
      refine jt_if_eq (t := 34) d_GC_black_27 rfl (by unfold jRi; omega) (fun c6 => ?_) (fun c6 => ?_)
      · skip
        refine jt_iconst d_GC_black_34 ?_
        exact cm_ret d_GC_black_35 rfl (jnz (by omega)) (⟨0, rfl, by omega, hpq5⟩)
      · skip
        refine jt_iconst d_GC_black_30 ?_
        refine jt_goto (t := 35) d_GC_black_31 rfl ?_
        exact cm_ret d_GC_black_35 rfl (jnz (by omega)) (⟨1, rfl, by omega, hpq5⟩)
set_option maxRecDepth 100000 in
set_option maxHeartbeats 4000000 in
theorem v_GC_stretch (G : jG) (d b : Nat) (j : Int) (k : Int) (I : Nat → Nat → Int) (A : Nat → Int → Int) (hI : cSI I) (hA : cSA A) (hj : -2147483648 ≤ j ∧ j ≤ 2147483647) (hk : -2147483648 ≤ k ∧ k ≤ 2147483647) : cct G Y_GC_stretch (d + 2) b [.ref (b + 0), .int (jI j), .int (jI k)] I A (fun (rv : Option Value) (I2 : Nat → Nat → Int) (A2 : Nat → Int → Int) => ∃ y : Int, rv = some (.int (jI y)) ∧ (-2147483648 ≤ y ∧ y ≤ 2147483647) ∧ cPo [] [] I A I2 A2) := by
  refine cct_of (by decide) (Nat.le_of_ble_eq_true rfl) (fun f0 sz => ?_)
  show jt _ 0 [(0, .ref (b + 0)), (1, .int (jI j)), (2, .int (jI k))] [] _ _ _ _
  have hz0 : cPo [] [] I A I A := cPo.refl hI hA
  refine jt_iload_n d_GC_stretch_0 rfl ?_
  refine jt_bipush d_GC_stretch_1 (by omega) ?_
  refine cct_callS (Y := Y_GC_isBelow) (As := [.int (jI j), .int (jI 24)]) (rest := []) d_GC_stretch_3 GC_c72 yk_GC_isBelow ys_GC_isBelow (Nat.le_of_ble_eq_true rfl) rfl rfl (Nat.le_of_ble_eq_true rfl) (v_GC_isBelow G _ b j 24 I A hz0.1 hz0.2.1 (by omega) (by omega)) (fun rvq1 Iq1 Aq1 hq1 => ?_)
  obtain ⟨yq1, rfl, ryq1, hqq1, hxq1⟩ := hq1
  have hpq1 := cPo.trans hz0 hqq1 rfl rfl
  show jt _ 6 [(0, .ref (b + 0)), (1, .int (jI j)), (2, .int (jI k))] [.int (jI yq1)] (cmf b f0 Iq1 Aq1) _ _ _
  refine jt_if_eq (t := 25) d_GC_stretch_6 rfl (by unfold jRi; omega) (fun c2 => ?_) (fun c2 => ?_)
  · skip
    refine jt_iconst d_GC_stretch_25 ?_
    exact cm_ret d_GC_stretch_26 rfl rfl (⟨-1, rfl, by omega, hpq1⟩)
  · skip
    refine jt_iload_n d_GC_stretch_9 rfl ?_
    refine jt_if_lt (t := 25) d_GC_stretch_10 rfl (by unfold jRi; omega) (fun c3 => ?_) (fun c3 => ?_)
    · skip
      refine jt_iconst d_GC_stretch_25 ?_
      exact cm_ret d_GC_stretch_26 rfl rfl (⟨-1, rfl, by omega, hpq1⟩)
    · skip
      refine jt_aload_n d_GC_stretch_13 rfl ?_
      refine cm_get (k := 0) (v := .ref (b + 468)) d_GC_stretch_14 GC_f49 (by decide) cc_0 rfl ?_
      refine jt_iload_n d_GC_stretch_17 rfl ?_
      refine jt_iload_n d_GC_stretch_18 rfl ?_
      refine cct_callV (Y := Y_PI_lengthOfRun) (ci := 6) (k := 468) (As := [.int (jI j), .int (jI k)]) (rest := []) d_GC_stretch_19 GC_c190 yk_PI_lengthOfRun yv_PI_lengthOfRun rfl (Nat.le_of_ble_eq_true rfl) (by decide) cc_7 rfl rfl (Nat.le_of_ble_eq_true rfl) (v_PI_lengthOfRun G _ b j k Iq1 Aq1 hpq1.1 hpq1.2.1 (by omega) (by omega)) (fun rvq4 Iq4 Aq4 hq4 => ?_)
      obtain ⟨yq4, rfl, ryq4, hqq4⟩ := hq4
      have hpq4 := cPo.trans hpq1 hqq4 rfl rfl
      show jt _ 22 [(0, .ref (b + 0)), (1, .int (jI j)), (2, .int (jI k))] [.int (jI yq4)] (cmf b f0 Iq4 Aq4) _ _ _
      refine jt_goto (t := 26) d_GC_stretch_22 rfl ?_
      exact cm_ret d_GC_stretch_26 rfl rfl (⟨yq4, rfl, by omega, hpq4⟩)
set_option maxRecDepth 100000 in
set_option maxHeartbeats 4000000 in
theorem v_GC_shown (G : jG) (d b : Nat) (k : Int) (I : Nat → Nat → Int) (A : Nat → Int → Int) (hI : cSI I) (hA : cSA A) (hk : -2147483648 ≤ k ∧ k ≤ 2147483647) : cct G Y_GC_shown (d + 1) b [.ref (b + 0), .int (jI k)] I A (fun (rv : Option Value) (I2 : Nat → Nat → Int) (A2 : Nat → Int → Int) => ∃ y : Int, rv = some (.long (jL y)) ∧ (-9223372036854775808 ≤ y ∧ y ≤ 9223372036854775807) ∧ cPo [] [] I A I2 A2) := by
  refine cct_of (by decide) (Nat.le_of_ble_eq_true rfl) (fun f0 sz => ?_)
  show jt _ 0 [(0, .ref (b + 0)), (1, .int (jI k))] [] _ _ _ _
  have hz0 : cPo [] [] I A I A := cPo.refl hI hA
  refine jt_iload_n d_GC_shown_0 rfl ?_
  refine jt_bipush d_GC_shown_1 (by omega) ?_
  refine cct_callS (Y := Y_GC_isBelow) (As := [.int (jI k), .int (jI 8)]) (rest := []) d_GC_shown_3 GC_c72 yk_GC_isBelow ys_GC_isBelow (Nat.le_of_ble_eq_true rfl) rfl rfl (Nat.le_of_ble_eq_true rfl) (v_GC_isBelow G _ b k 8 I A hz0.1 hz0.2.1 (by omega) (by omega)) (fun rvq1 Iq1 Aq1 hq1 => ?_)
  obtain ⟨yq1, rfl, ryq1, hqq1, hxq1⟩ := hq1
  have hpq1 := cPo.trans hz0 hqq1 rfl rfl
  have m0_7q1 : Iq1 0 7 = I 0 7 := hqq1.2.2.1 0 7 rfl
  show jt _ 6 [(0, .ref (b + 0)), (1, .int (jI k))] [.int (jI yq1)] (cmf b f0 Iq1 Aq1) _ _ _
  refine jt_if_eq (t := 36) d_GC_shown_6 rfl (by unfold jRi; omega) (fun c2 => ?_) (fun c2 => ?_)
  · skip
    refine jt_ldc2 (z := 1000000000000000) d_GC_shown_36 GC_k182 ?_
    exact cm_lret d_GC_shown_39 rfl (⟨1000000000000000, rfl, by omega, hpq1⟩)
  · skip
    refine jt_iload_n d_GC_shown_9 rfl ?_
    refine jt_aload_n d_GC_shown_10 rfl ?_
    refine cm_get (k := 0) (v := .int (jI (Iq1 0 7))) d_GC_shown_11 GC_f134 (by decide) cc_0 rfl ?_
    have rb3 : 0 ≤ Iq1 0 7 ∧ Iq1 0 7 ≤ 2147483647 := hpq1.1 0 7
    refine jt_icmp_ge (t := 36) d_GC_shown_14 rfl (by unfold jRi; omega) (by unfold jRi; omega) (fun c4 => ?_) (fun c4 => ?_)
    · skip
      refine jt_ldc2 (z := 1000000000000000) d_GC_shown_36 GC_k182 ?_
      exact cm_lret d_GC_shown_39 rfl (⟨1000000000000000, rfl, by omega, hpq1⟩)
    · skip
      refine jt_aload_n d_GC_shown_17 rfl ?_
      refine cm_get (k := 0) (v := .ref (b + 471)) d_GC_shown_18 GC_f53 (by decide) cc_0 rfl ?_
      refine jt_aload_n d_GC_shown_21 rfl ?_
      refine cm_get (k := 0) (v := .int (jI (Iq1 0 7))) d_GC_shown_22 GC_f134 (by decide) cc_0 rfl ?_
      refine jt_iconst d_GC_shown_25 ?_
      refine jt_isub d_GC_shown_26 ?_
      refine jt_iload_n d_GC_shown_27 rfl ?_
      refine jt_isub d_GC_shown_28 ?_
      refine jt_bipush d_GC_shown_29 (by omega) ?_
      have tn := Int.tmod_nonneg 8 (show 0 ≤ ((Iq1 0 7) - 1) - k by omega)
      refine jt_irem d_GC_shown_31 (by unfold jRi; omega) (by unfold jRi; omega) (by omega) ?_
      have td5 := gtd (((Iq1 0 7) - 1) - k) 8 (by omega)
      refine cm_ld1 (k := 471) (n := 8) (v := (Aq1 471) (Int.tmod (((Iq1 0 7) - 1) - k) 8)) d_GC_shown_32 (by decide) rfl rfl (by omega) (by omega) (by omega) rfl ?_
      refine jt_topl (fun v6 ev6 => ?_)
      have bv6 : -9223372036854775808 ≤ v6 ∧ v6 ≤ 9223372036854775807 := by rw [ev6]; exact hpq1.2.1 471 (Int.tmod (((Iq1 0 7) - 1) - k) 8)
      refine jt_goto (t := 39) d_GC_shown_33 rfl ?_
      exact cm_lret d_GC_shown_39 rfl (⟨v6, rfl, by omega, hpq1⟩)
set_option maxRecDepth 100000 in
set_option maxHeartbeats 4000000 in
theorem v_GC_count (G : jG) (d b : Nat) (q : Int) (I : Nat → Nat → Int) (A : Nat → Int → Int) (hI : cSI I) (hA : cSA A) (hq : -2147483648 ≤ q ∧ q ≤ 2147483647) : cct G Y_GC_count (d + 1) b [.ref (b + 0), .int (jI q)] I A (fun (rv : Option Value) (I2 : Nat → Nat → Int) (A2 : Nat → Int → Int) => ∃ y : Int, rv = some (.int (jI y)) ∧ (-2147483648 ≤ y ∧ y ≤ 2147483647) ∧ cPo [] [] I A I2 A2) := by
  refine cct_of (by decide) (Nat.le_of_ble_eq_true rfl) (fun f0 sz => ?_)
  show jt _ 0 [(0, .ref (b + 0)), (1, .int (jI q))] [] _ _ _ _
  have hz0 : cPo [] [] I A I A := cPo.refl hI hA
  refine jt_iload_n d_GC_count_0 rfl ?_
  by_cases hsw : q < 0 ∨ 8 < q
  · skip
    refine jt_tableOut (t := 126) d_GC_count_1 (by unfold jRi; omega) hsw rfl ?_
    refine jt_iload_n d_GC_count_126 rfl ?_
    refine jt_bipush d_GC_count_127 (by omega) ?_
    refine jt_isub d_GC_count_129 ?_
    refine jt_topie (fun v1 bv1 ev1 => ?_)
    refine jt_bipush d_GC_count_130 (by omega) ?_
    refine cct_callS (Y := Y_GC_isBelow) (As := [.int (jI v1), .int (jI 6)]) (rest := []) d_GC_count_132 GC_c72 yk_GC_isBelow ys_GC_isBelow (Nat.le_of_ble_eq_true rfl) rfl rfl (Nat.le_of_ble_eq_true rfl) (v_GC_isBelow G _ b v1 6 I A hz0.1 hz0.2.1 (by omega) (by omega)) (fun rvq2 Iq2 Aq2 hq2 => ?_)
    obtain ⟨yq2, rfl, ryq2, hqq2, hxq2⟩ := hq2
    have hpq2 := cPo.trans hz0 hqq2 rfl rfl
    show jt _ 135 [(0, .ref (b + 0)), (1, .int (jI q))] [.int (jI yq2)] (cmf b f0 Iq2 Aq2) _ _ _
    refine jt_if_eq (t := 152) d_GC_count_135 rfl (by unfold jRi; omega) (fun c3 => ?_) (fun c3 => ?_)
    · skip
      refine jt_iconst d_GC_count_152 ?_
      exact cm_ret d_GC_count_153 rfl rfl (⟨-1, rfl, by omega, hpq2⟩)
    · skip
      refine jt_aload_n d_GC_count_138 rfl ?_
      refine cm_get (k := 0) (v := .ref (b + 5)) d_GC_count_139 GC_f21 (by decide) cc_0 rfl ?_
      refine jt_iload_n d_GC_count_142 rfl ?_
      refine jt_bipush d_GC_count_143 (by omega) ?_
      refine jt_isub d_GC_count_145 ?_
      refine jt_topie (fun v4 bv4 ev4 => ?_)
      refine cct_callV (Y := Y_EX_bodyLength) (ci := 1) (k := 5) (As := [.int (jI v4)]) (rest := []) d_GC_count_146 GC_c204 yk_EX_bodyLength yv_EX_bodyLength rfl (Nat.le_of_ble_eq_true rfl) (by decide) cc_2 rfl rfl (Nat.le_of_ble_eq_true rfl) (v_EX_bodyLength G _ b v4 Iq2 Aq2 hpq2.1 hpq2.2.1 (by omega)) (fun rvq5 Iq5 Aq5 hq5 => ?_)
      obtain ⟨yq5, rfl, ryq5, hqq5⟩ := hq5
      have hpq5 := cPo.trans hpq2 hqq5 rfl rfl
      show jt _ 149 [(0, .ref (b + 0)), (1, .int (jI q))] [.int (jI yq5)] (cmf b f0 Iq5 Aq5) _ _ _
      refine jt_goto (t := 153) d_GC_count_149 rfl ?_
      exact cm_ret d_GC_count_153 rfl rfl (⟨yq5, rfl, by omega, hpq5⟩)
  by_cases hs0 : q = 0
  · skip
    refine jt_tableIn (t := 52) d_GC_count_1 (by unfold jRi; omega) (by omega) (by omega) (by rw [hs0]; rfl) rfl ?_
    refine jt_aload_n d_GC_count_52 rfl ?_
    refine cm_get (k := 0) (v := .ref (b + 1)) d_GC_count_53 GC_f14 (by decide) cc_0 rfl ?_
    refine cm_get (k := 1) (v := .int (jI (I 1 3))) d_GC_count_56 GC_f65 (by decide) (cc_1 rfl) rfl ?_
    have rb6 : 0 ≤ I 1 3 ∧ I 1 3 ≤ 120 := hz0.1 1 3
    exact cm_ret d_GC_count_59 rfl rfl (⟨I 1 3, rfl, by omega, hz0⟩)
  by_cases hs1 : q = 1
  · skip
    refine jt_tableIn (t := 60) d_GC_count_1 (by unfold jRi; omega) (by omega) (by omega) (by rw [hs1]; rfl) rfl ?_
    refine jt_aload_n d_GC_count_60 rfl ?_
    refine cm_get (k := 0) (v := .ref (b + 468)) d_GC_count_61 GC_f49 (by decide) cc_0 rfl ?_
    refine cct_callV (Y := Y_PI_blackPoints) (ci := 6) (k := 468) (As := []) (rest := []) d_GC_count_64 GC_c194 yk_PI_blackPoints yv_PI_blackPoints rfl (Nat.le_of_ble_eq_true rfl) (by decide) cc_7 rfl rfl (Nat.le_of_ble_eq_true rfl) (v_PI_blackPoints G _ b  I A hz0.1 hz0.2.1 ) (fun rvq7 Iq7 Aq7 hq7 => ?_)
    obtain ⟨yq7, rfl, ryq7, hqq7⟩ := hq7
    have hpq7 := cPo.trans hz0 hqq7 rfl rfl
    show jt _ 67 [(0, .ref (b + 0)), (1, .int (jI q))] [.int (jI yq7)] (cmf b f0 Iq7 Aq7) _ _ _
    exact cm_ret d_GC_count_67 rfl rfl (⟨yq7, rfl, by omega, hpq7⟩)
  by_cases hs2 : q = 2
  · skip
    refine jt_tableIn (t := 68) d_GC_count_1 (by unfold jRi; omega) (by omega) (by omega) (by rw [hs2]; rfl) rfl ?_
    refine jt_aload_n d_GC_count_68 rfl ?_
    refine cm_get (k := 0) (v := .ref (b + 468)) d_GC_count_69 GC_f49 (by decide) cc_0 rfl ?_
    refine jt_iconst d_GC_count_72 ?_
    refine jt_iconst d_GC_count_73 ?_
    refine cct_callV (Y := Y_PI_edge) (ci := 6) (k := 468) (As := [.int (jI 1), .int (jI 0)]) (rest := []) d_GC_count_74 GC_c197 yk_PI_edge yv_PI_edge rfl (Nat.le_of_ble_eq_true rfl) (by decide) cc_7 rfl rfl (Nat.le_of_ble_eq_true rfl) (v_PI_edge G _ b 1 0 I A hz0.1 hz0.2.1 (by omega) (by omega)) (fun rvq8 Iq8 Aq8 hq8 => ?_)
    obtain ⟨yq8, rfl, ryq8, hqq8⟩ := hq8
    have hpq8 := cPo.trans hz0 hqq8 rfl rfl
    show jt _ 77 [(0, .ref (b + 0)), (1, .int (jI q))] [.int (jI yq8)] (cmf b f0 Iq8 Aq8) _ _ _
    exact cm_ret d_GC_count_77 rfl rfl (⟨yq8, rfl, by omega, hpq8⟩)
  by_cases hs3 : q = 3
  · skip
    refine jt_tableIn (t := 78) d_GC_count_1 (by unfold jRi; omega) (by omega) (by omega) (by rw [hs3]; rfl) rfl ?_
    refine jt_aload_n d_GC_count_78 rfl ?_
    refine cm_get (k := 0) (v := .ref (b + 468)) d_GC_count_79 GC_f49 (by decide) cc_0 rfl ?_
    refine jt_iconst d_GC_count_82 ?_
    refine jt_iconst d_GC_count_83 ?_
    refine cct_callV (Y := Y_PI_edge) (ci := 6) (k := 468) (As := [.int (jI 1), .int (jI 1)]) (rest := []) d_GC_count_84 GC_c197 yk_PI_edge yv_PI_edge rfl (Nat.le_of_ble_eq_true rfl) (by decide) cc_7 rfl rfl (Nat.le_of_ble_eq_true rfl) (v_PI_edge G _ b 1 1 I A hz0.1 hz0.2.1 (by omega) (by omega)) (fun rvq9 Iq9 Aq9 hq9 => ?_)
    obtain ⟨yq9, rfl, ryq9, hqq9⟩ := hq9
    have hpq9 := cPo.trans hz0 hqq9 rfl rfl
    show jt _ 87 [(0, .ref (b + 0)), (1, .int (jI q))] [.int (jI yq9)] (cmf b f0 Iq9 Aq9) _ _ _
    exact cm_ret d_GC_count_87 rfl rfl (⟨yq9, rfl, by omega, hpq9⟩)
  by_cases hs4 : q = 4
  · skip
    refine jt_tableIn (t := 88) d_GC_count_1 (by unfold jRi; omega) (by omega) (by omega) (by rw [hs4]; rfl) rfl ?_
    refine jt_aload_n d_GC_count_88 rfl ?_
    refine cm_get (k := 0) (v := .ref (b + 468)) d_GC_count_89 GC_f49 (by decide) cc_0 rfl ?_
    refine jt_iconst d_GC_count_92 ?_
    refine jt_iconst d_GC_count_93 ?_
    refine cct_callV (Y := Y_PI_edge) (ci := 6) (k := 468) (As := [.int (jI 0), .int (jI 0)]) (rest := []) d_GC_count_94 GC_c197 yk_PI_edge yv_PI_edge rfl (Nat.le_of_ble_eq_true rfl) (by decide) cc_7 rfl rfl (Nat.le_of_ble_eq_true rfl) (v_PI_edge G _ b 0 0 I A hz0.1 hz0.2.1 (by omega) (by omega)) (fun rvq10 Iq10 Aq10 hq10 => ?_)
    obtain ⟨yq10, rfl, ryq10, hqq10⟩ := hq10
    have hpq10 := cPo.trans hz0 hqq10 rfl rfl
    show jt _ 97 [(0, .ref (b + 0)), (1, .int (jI q))] [.int (jI yq10)] (cmf b f0 Iq10 Aq10) _ _ _
    exact cm_ret d_GC_count_97 rfl rfl (⟨yq10, rfl, by omega, hpq10⟩)
  by_cases hs5 : q = 5
  · skip
    refine jt_tableIn (t := 98) d_GC_count_1 (by unfold jRi; omega) (by omega) (by omega) (by rw [hs5]; rfl) rfl ?_
    refine jt_aload_n d_GC_count_98 rfl ?_
    refine cm_get (k := 0) (v := .ref (b + 468)) d_GC_count_99 GC_f49 (by decide) cc_0 rfl ?_
    refine jt_iconst d_GC_count_102 ?_
    refine jt_iconst d_GC_count_103 ?_
    refine cct_callV (Y := Y_PI_edge) (ci := 6) (k := 468) (As := [.int (jI 0), .int (jI 1)]) (rest := []) d_GC_count_104 GC_c197 yk_PI_edge yv_PI_edge rfl (Nat.le_of_ble_eq_true rfl) (by decide) cc_7 rfl rfl (Nat.le_of_ble_eq_true rfl) (v_PI_edge G _ b 0 1 I A hz0.1 hz0.2.1 (by omega) (by omega)) (fun rvq11 Iq11 Aq11 hq11 => ?_)
    obtain ⟨yq11, rfl, ryq11, hqq11⟩ := hq11
    have hpq11 := cPo.trans hz0 hqq11 rfl rfl
    show jt _ 107 [(0, .ref (b + 0)), (1, .int (jI q))] [.int (jI yq11)] (cmf b f0 Iq11 Aq11) _ _ _
    exact cm_ret d_GC_count_107 rfl rfl (⟨yq11, rfl, by omega, hpq11⟩)
  by_cases hs6 : q = 6
  · skip
    refine jt_tableIn (t := 108) d_GC_count_1 (by unfold jRi; omega) (by omega) (by omega) (by rw [hs6]; rfl) rfl ?_
    refine jt_aload_n d_GC_count_108 rfl ?_
    refine cm_get (k := 0) (v := .int (jI (I 0 7))) d_GC_count_109 GC_f134 (by decide) cc_0 rfl ?_
    have rb12 : 0 ≤ I 0 7 ∧ I 0 7 ≤ 2147483647 := hz0.1 0 7
    exact cm_ret d_GC_count_112 rfl rfl (⟨I 0 7, rfl, by omega, hz0⟩)
  by_cases hs7 : q = 7
  · skip
    refine jt_tableIn (t := 113) d_GC_count_1 (by unfold jRi; omega) (by omega) (by omega) (by rw [hs7]; rfl) rfl ?_
    refine jt_aload_n d_GC_count_113 rfl ?_
    refine cm_get (k := 0) (v := .int (jI (I 0 8))) d_GC_count_114 GC_f104 (by decide) cc_0 rfl ?_
    have rb13 : -2147483648 ≤ I 0 8 ∧ I 0 8 ≤ 2147483647 := hz0.1 0 8
    exact cm_ret d_GC_count_117 rfl rfl (⟨I 0 8, rfl, by omega, hz0⟩)
  by_cases hs8 : q = 8
  · skip
    refine jt_tableIn (t := 118) d_GC_count_1 (by unfold jRi; omega) (by omega) (by omega) (by rw [hs8]; rfl) rfl ?_
    refine jt_aload_n d_GC_count_118 rfl ?_
    refine cm_get (k := 0) (v := .ref (b + 5)) d_GC_count_119 GC_f21 (by decide) cc_0 rfl ?_
    refine cm_get (k := 5) (v := .int (jI (I 5 6))) d_GC_count_122 GC_f201 (by decide) cc_2 rfl ?_
    have rb14 : 0 ≤ I 5 6 ∧ I 5 6 ≤ 101 := hz0.1 5 6
    exact cm_ret d_GC_count_125 rfl rfl (⟨I 5 6, rfl, by omega, hz0⟩)
  exfalso
  omega

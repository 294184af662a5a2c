set_option maxRecDepth 100000 in
set_option maxHeartbeats 4000000 in
theorem l2_GM_copyForm (G : jG) (d m : Nat) (f : Int) (g : Int) (I : Nat → Int) (A : Nat → Int → Int)  (h0 : 0 ≤ f) (h1 : f < 400) (h2 : 0 ≤ g) (h3 : g < 400) (hne : f ≠ g) (f0 : jF) (sz : Nat)  : ∀ (n9 : Nat) (i : Int) (W : Int → Int), (0 ≤ i) → (i ≤ 13) → (∀ z, W z = if f * 13 ≤ z ∧ z < f * 13 + i then A 35 (z - f * 13 + g * 13) else A 35 z) → 13 - i < (n9 : Int) → jt (jm G Y_GM_copyForm (gR d) (gQ m f0 sz (fun rv I2 A2 => rv = none ∧ I2 = I ∧ ∃ W : Int → Int, A2 = va_up A 35 W ∧ ∀ z, W z = if f * 13 ≤ z ∧ z < f * 13 + 13 then A 35 (z - f * 13 + g * 13) else A 35 z))) 2 [(0, .ref m), (1, .int (jI f)), (2, .int (jI g)), (3, .int (jI i))] [] (gmf m f0 I (va_up A 35 W)) sz 0 0 := by
  intro n9
  induction n9 with
  | zero =>
    intro i W i0 i1 hW hmeas
    exfalso
    omega
  | succ n9 ih =>
    intro i W i0 i1 hW hmeas
    refine jt_iload_n d_GM_copyForm_2 rfl ?_
    refine jt_bipush d_GM_copyForm_3 (by omega) ?_
    refine jt_icmp_ge (t := 36) d_GM_copyForm_5 rfl (by unfold jRi; omega) (by unfold jRi; omega) (fun c101 => ?_) (fun c101 => ?_)
    · skip
      exact gm_vret d_GM_copyForm_36 rfl (⟨rfl, rfl, W, rfl, fun z => by rw [hW z, show i = 13 by omega]⟩)
    · skip
      refine jt_aload_n d_GM_copyForm_8 rfl ?_
      refine gm_gA (k := 35) (a := m + 20) d_GM_copyForm_9 GM_f118 (by decide) (by decide) rfl ?_
      refine jt_iload_n d_GM_copyForm_12 rfl ?_
      refine jt_bipush d_GM_copyForm_13 (by omega) ?_
      refine jt_imul d_GM_copyForm_15 ?_
      refine jt_iload_n d_GM_copyForm_16 rfl ?_
      refine jt_iadd d_GM_copyForm_17 ?_
      refine jt_aload_n d_GM_copyForm_18 rfl ?_
      refine gm_gA (k := 35) (a := m + 20) d_GM_copyForm_19 GM_f118 (by decide) (by decide) rfl ?_
      refine jt_iload_n d_GM_copyForm_22 rfl ?_
      refine jt_bipush d_GM_copyForm_23 (by omega) ?_
      refine jt_imul d_GM_copyForm_25 ?_
      refine jt_iload_n d_GM_copyForm_26 rfl ?_
      refine jt_iadd d_GM_copyForm_27 ?_
      refine gm_ld1 (k := 35) (n := 5200) (v := W ((g * 13) + i)) d_GM_copyForm_28 rfl (by decide) (by decide) rfl rfl (by omega) (by omega) (by omega) rfl ?_
      refine jt_topl (fun v102 ev102 => ?_)
      refine gm_st1 (k := 35) (n := 5200) (B := va_up A 35 (ju W ((f * 13) + i) v102)) d_GM_copyForm_29 rfl (by decide) (by decide) rfl rfl (by omega) (by omega) (by omega) (bx_uu _ _ _ _) ?_
      refine jt_iinc (L' := [(0, .ref m), (1, .int (jI f)), (2, .int (jI g)), (3, .int (jI (i + 1)))]) d_GM_copyForm_30 rfl (Nat.le_of_ble_eq_true rfl) rfl ?_
      refine jt_goto (t := 2) d_GM_copyForm_33 rfl ?_
      refine ih _ _ (by omega) (by omega) (fun z => ?_) (by omega)
      unfold ju
      by_cases hz : z = f * 13 + i
      · rw [if_pos hz, if_pos (by omega), ev102, hW, if_neg (by omega), show z - f * 13 + g * 13 = g * 13 + i by omega]
      · rw [if_neg hz, hW z]
        by_cases hy : f * 13 ≤ z ∧ z < f * 13 + i
        · rw [if_pos hy, if_pos (by omega)]
        · rw [if_neg hy, if_neg (by omega)]
set_option maxRecDepth 100000 in
set_option maxHeartbeats 4000000 in
theorem c_GM_copyForm (G : jG) (d m : Nat) (f : Int) (g : Int) (I : Nat → Int) (A : Nat → Int → Int)  (h0 : 0 ≤ f) (h1 : f < 400) (h2 : 0 ≤ g) (h3 : g < 400) (hne : f ≠ g) : gct G Y_GM_copyForm d m [.int (jI f), .int (jI g)] I A (fun rv I2 A2 => rv = none ∧ I2 = I ∧ ∃ W : Int → Int, A2 = va_up A 35 W ∧ ∀ z, W z = if f * 13 ≤ z ∧ z < f * 13 + 13 then A 35 (z - f * 13 + g * 13) else A 35 z) := by
  refine gct_of (by decide) (Nat.le_of_ble_eq_true rfl) (fun f0 sz => ?_)
  show jt _ 0 [(0, .ref m), (1, .int (jI f)), (2, .int (jI g))] [] _ _ _ _
  refine jt_iconst d_GM_copyForm_0 ?_
  refine jt_istore_n (L' := [(0, .ref m), (1, .int (jI f)), (2, .int (jI g)), (3, .int (jI 0))]) d_GM_copyForm_1 (Nat.le_of_ble_eq_true rfl) rfl ?_
  refine gm_eA (B := va_up A 35 (A 35)) (gup_id A 35) ?_
  exact l2_GM_copyForm G d m f g I A  h0 h1 h2 h3 hne f0 sz 14 _ _ (by omega) (by omega) (fun z => by rw [if_neg (by omega)]) (by omega)
set_option maxRecDepth 100000 in
set_option maxHeartbeats 4000000 in
theorem l3_GM_addForm (G : jG) (d m : Nat) (f : Int) (g : Int) (s : Int) (I : Nat → Int) (A : Nat → Int → Int)  (h0 : 0 ≤ f) (h1 : f < 400) (h2 : 0 ≤ g) (h3 : g < 400) (hne : f ≠ g) (hs : jRi s) (f0 : jF) (sz : Nat)  : ∀ (n9 : Nat) (i : Int) (W : Int → Int), (0 ≤ i) → (i ≤ 13) → (∀ z, W z = if f * 13 ≤ z ∧ z < f * 13 + i then A 35 z + s * A 35 (z - f * 13 + g * 13) else A 35 z) → 13 - i < (n9 : Int) → jt (jm G Y_GM_addForm (gR d) (gQ m f0 sz (fun rv I2 A2 => rv = none ∧ I2 = I ∧ ∃ W : Int → Int, A2 = va_up A 35 W ∧ ∀ z, W z = if f * 13 ≤ z ∧ z < f * 13 + 13 then A 35 z + s * A 35 (z - f * 13 + g * 13) else A 35 z))) 3 [(0, .ref m), (1, .int (jI f)), (2, .int (jI g)), (3, .int (jI s)), (4, .int (jI i))] [] (gmf m f0 I (va_up A 35 W)) sz 0 0 := by
  unfold jRi at hs
  intro n9
  induction n9 with
  | zero =>
    intro i W i0 i1 hW hmeas
    exfalso
    omega
  | succ n9 ih =>
    intro i W i0 i1 hW hmeas
    refine jt_iload d_GM_addForm_3 rfl ?_
    refine jt_bipush d_GM_addForm_5 (by omega) ?_
    refine jt_icmp_ge (t := 46) d_GM_addForm_7 rfl (by unfold jRi; omega) (by unfold jRi; omega) (fun c101 => ?_) (fun c101 => ?_)
    · skip
      exact gm_vret d_GM_addForm_46 rfl (⟨rfl, rfl, W, rfl, fun z => by rw [hW z, show i = 13 by omega]⟩)
    · skip
      refine jt_aload_n d_GM_addForm_10 rfl ?_
      refine gm_gA (k := 35) (a := m + 20) d_GM_addForm_11 GM_f118 (by decide) (by decide) rfl ?_
      refine jt_iload_n d_GM_addForm_14 rfl ?_
      refine jt_bipush d_GM_addForm_15 (by omega) ?_
      refine jt_imul d_GM_addForm_17 ?_
      refine jt_iload d_GM_addForm_18 rfl ?_
      refine jt_iadd d_GM_addForm_20 ?_
      refine jt_dup2 d_GM_addForm_21 rfl rfl ?_
      refine gm_ld1 (k := 35) (n := 5200) (v := W ((f * 13) + i)) d_GM_addForm_22 rfl (by decide) (by decide) rfl rfl (by omega) (by omega) (by omega) rfl ?_
      refine jt_topl (fun v102 ev102 => ?_)
      refine jt_iload_n d_GM_addForm_23 rfl ?_
      refine jt_i2l d_GM_addForm_24 (by unfold jRi; omega) ?_
      refine jt_aload_n d_GM_addForm_25 rfl ?_
      refine gm_gA (k := 35) (a := m + 20) d_GM_addForm_26 GM_f118 (by decide) (by decide) rfl ?_
      refine jt_iload_n d_GM_addForm_29 rfl ?_
      refine jt_bipush d_GM_addForm_30 (by omega) ?_
      refine jt_imul d_GM_addForm_32 ?_
      refine jt_iload d_GM_addForm_33 rfl ?_
      refine jt_iadd d_GM_addForm_35 ?_
      refine gm_ld1 (k := 35) (n := 5200) (v := W ((g * 13) + i)) d_GM_addForm_36 rfl (by decide) (by decide) rfl rfl (by omega) (by omega) (by omega) rfl ?_
      refine jt_topl (fun v103 ev103 => ?_)
      refine jt_lmul d_GM_addForm_37 ?_
      refine jt_ladd d_GM_addForm_38 ?_
      refine jt_topl (fun v104 ev104 => ?_)
      refine gm_st1 (k := 35) (n := 5200) (B := va_up A 35 (ju W ((f * 13) + i) v104)) d_GM_addForm_39 rfl (by decide) (by decide) rfl rfl (by omega) (by omega) (by omega) (bx_uu _ _ _ _) ?_
      refine jt_iinc (L' := [(0, .ref m), (1, .int (jI f)), (2, .int (jI g)), (3, .int (jI s)), (4, .int (jI (i + 1)))]) d_GM_addForm_40 rfl (Nat.le_of_ble_eq_true rfl) rfl ?_
      refine jt_goto (t := 3) d_GM_addForm_43 rfl ?_
      refine ih _ _ (by omega) (by omega) (fun z => ?_) (by omega)
      unfold ju
      by_cases hz : z = f * 13 + i
      · rw [if_pos hz, if_pos (by omega), ev104, ev102, ev103, hW (f * 13 + i), hW (g * 13 + i), if_neg (by omega), if_neg (by omega), show z - f * 13 + g * 13 = g * 13 + i by omega, hz]
      · rw [if_neg hz, hW z]
        by_cases hy : f * 13 ≤ z ∧ z < f * 13 + i
        · rw [if_pos hy, if_pos (by omega)]
        · rw [if_neg hy, if_neg (by omega)]
set_option maxRecDepth 100000 in
set_option maxHeartbeats 4000000 in
theorem c_GM_addForm (G : jG) (d m : Nat) (f : Int) (g : Int) (s : Int) (I : Nat → Int) (A : Nat → Int → Int)  (h0 : 0 ≤ f) (h1 : f < 400) (h2 : 0 ≤ g) (h3 : g < 400) (hne : f ≠ g) (hs : jRi s) : gct G Y_GM_addForm d m [.int (jI f), .int (jI g), .int (jI s)] I A (fun rv I2 A2 => rv = none ∧ I2 = I ∧ ∃ W : Int → Int, A2 = va_up A 35 W ∧ ∀ z, W z = if f * 13 ≤ z ∧ z < f * 13 + 13 then A 35 z + s * A 35 (z - f * 13 + g * 13) else A 35 z) := by
  refine gct_of (by decide) (Nat.le_of_ble_eq_true rfl) (fun f0 sz => ?_)
  show jt _ 0 [(0, .ref m), (1, .int (jI f)), (2, .int (jI g)), (3, .int (jI s))] [] _ _ _ _
  unfold jRi at hs
  refine jt_iconst d_GM_addForm_0 ?_
  refine jt_istore (L' := [(0, .ref m), (1, .int (jI f)), (2, .int (jI g)), (3, .int (jI s)), (4, .int (jI 0))]) d_GM_addForm_1 (Nat.le_of_ble_eq_true rfl) rfl ?_
  refine gm_eA (B := va_up A 35 (A 35)) (gup_id A 35) ?_
  exact l3_GM_addForm G d m f g s I A  h0 h1 h2 h3 hne hs f0 sz 14 _ _ (by omega) (by omega) (fun z => by rw [if_neg (by omega)]) (by omega)
set_option maxRecDepth 100000 in
set_option maxHeartbeats 4000000 in
theorem l2_GM_isNumber (G : jG) (d m : Nat) (f : Int) (I : Nat → Int) (A : Nat → Int → Int)  (h0 : 0 ≤ f) (h1 : f < 400) (hr : ∀ j, 0 ≤ j → j < 12 → jRl (A 35 (f * 13 + j))) (f0 : jF) (sz : Nat)  : ∀ (n9 : Nat) (i : Int), (0 ≤ i) → (i ≤ 12) → (∀ j, 0 ≤ j → j < i → A 35 (f * 13 + j) = 0) → 12 - i < (n9 : Int) → jt (jm G Y_GM_isNumber (gR d) (gQ m f0 sz (fun rv I2 A2 => ((∀ j, 0 ≤ j → j < 12 → A 35 (f * 13 + j) = 0) → rv = some (.int (jI 1))) ∧ (¬ (∀ j, 0 ≤ j → j < 12 → A 35 (f * 13 + j) = 0) → rv = some (.int (jI 0))) ∧ I2 = I ∧ A2 = A))) 2 [(0, .ref m), (1, .int (jI f)), (2, .int (jI i))] [] (gmf m f0 I A) sz 0 0 := by
  intro n9
  induction n9 with
  | zero =>
    intro i i0 i1 hz hmeas
    exfalso
    omega
  | succ n9 ih =>
    intro i i0 i1 hz hmeas
    refine jt_iload_n d_GM_isNumber_2 rfl ?_
    refine jt_bipush d_GM_isNumber_3 (by omega) ?_
    refine jt_icmp_ge (t := 32) d_GM_isNumber_5 rfl (by unfold jRi; omega) (by unfold jRi; omega) (fun c101 => ?_) (fun c101 => ?_)
    · skip
      refine jt_iconst d_GM_isNumber_32 ?_
      exact gm_ret d_GM_isNumber_33 rfl (jnz (by omega)) (⟨fun _ => rfl, fun h => absurd (fun j a b => hz j a (by omega)) h, rfl, rfl⟩)
    · skip
      have q := hr i (by omega) (by omega)
      unfold jRl at q
      refine jt_aload_n d_GM_isNumber_8 rfl ?_
      refine gm_gA (k := 35) (a := m + 20) d_GM_isNumber_9 GM_f118 (by decide) (by decide) rfl ?_
      refine jt_iload_n d_GM_isNumber_12 rfl ?_
      refine jt_bipush d_GM_isNumber_13 (by omega) ?_
      refine jt_imul d_GM_isNumber_15 ?_
      refine jt_iload_n d_GM_isNumber_16 rfl ?_
      refine jt_iadd d_GM_isNumber_17 ?_
      refine gm_ld1 (k := 35) (n := 5200) (v := (A 35) ((f * 13) + i)) d_GM_isNumber_18 rfl (by decide) (by decide) rfl rfl (by omega) (by omega) (by omega) rfl ?_
      refine jt_topl (fun v102 ev102 => ?_)
      refine jt_lconst (z := 0) d_GM_isNumber_19 (by decide) ?_
      refine jt_lif_eq (t := 26) d_GM_isNumber_20 d_GM_isNumber_21 rfl (by unfold jRl; omega) (by unfold jRl; omega) (fun c103 => ?_) (fun c103 => ?_)
      · skip
        refine jt_iinc (L' := [(0, .ref m), (1, .int (jI f)), (2, .int (jI (i + 1)))]) d_GM_isNumber_26 rfl (Nat.le_of_ble_eq_true rfl) rfl ?_
        refine jt_goto (t := 2) d_GM_isNumber_29 rfl ?_
        refine ih _ (by omega) (by omega) (fun j a b => ?_) (by omega)
        by_cases hj : j = i
        · rw [hj]; omega
        · exact hz j a (by omega)
      · skip
        refine jt_iconst d_GM_isNumber_24 ?_
        exact gm_ret d_GM_isNumber_25 rfl (jnz (by omega)) (⟨fun h => by have := h i (by omega) (by omega); omega, fun _ => rfl, rfl, rfl⟩)
set_option maxRecDepth 100000 in
set_option maxHeartbeats 4000000 in
theorem c_GM_isNumber (G : jG) (d m : Nat) (f : Int) (I : Nat → Int) (A : Nat → Int → Int)  (h0 : 0 ≤ f) (h1 : f < 400) (hr : ∀ j, 0 ≤ j → j < 12 → jRl (A 35 (f * 13 + j))) : gct G Y_GM_isNumber d m [.int (jI f)] I A (fun rv I2 A2 => ((∀ j, 0 ≤ j → j < 12 → A 35 (f * 13 + j) = 0) → rv = some (.int (jI 1))) ∧ (¬ (∀ j, 0 ≤ j → j < 12 → A 35 (f * 13 + j) = 0) → rv = some (.int (jI 0))) ∧ I2 = I ∧ A2 = A) := by
  refine gct_of (by decide) (Nat.le_of_ble_eq_true rfl) (fun f0 sz => ?_)
  show jt _ 0 [(0, .ref m), (1, .int (jI f))] [] _ _ _ _
  refine jt_iconst d_GM_isNumber_0 ?_
  refine jt_istore_n (L' := [(0, .ref m), (1, .int (jI f)), (2, .int (jI 0))]) d_GM_isNumber_1 (Nat.le_of_ble_eq_true rfl) rfl ?_
  exact l2_GM_isNumber G d m f I A  h0 h1 hr f0 sz 13 _ (by omega) (by omega) (fun j a b => by omega) (by omega)
set_option maxRecDepth 100000 in
set_option maxHeartbeats 4000000 in
theorem l2_GM_beginSums (G : jG) (d m : Nat)  (I : Nat → Int) (A : Nat → Int → Int)   (f0 : jF) (sz : Nat)  : ∀ (n9 : Nat) (i : Int) (X : Int → Int) (Y : Int → Int), (0 ≤ i) → (i ≤ 13) → (∀ z, X z = if 0 ≤ z ∧ z < i then 0 else A 33 z) → (∀ z, Y z = if 0 ≤ z ∧ z < i then 0 else A 34 z) → 13 - i < (n9 : Int) → jt (jm G Y_GM_beginSums (gR d) (gQ m f0 sz (fun rv I2 A2 => rv = none ∧ I2 = I ∧ ∃ X Y : Int → Int, A2 = va_up (va_up A 33 X) 34 Y ∧ (∀ z, X z = if 0 ≤ z ∧ z < 13 then 0 else A 33 z) ∧ ∀ z, Y z = if 0 ≤ z ∧ z < 13 then 0 else A 34 z))) 2 [(0, .ref m), (1, .int (jI i))] [] (gmf m f0 I (va_up (va_up A 33 X) 34 Y)) sz 0 0 := by
  intro n9
  induction n9 with
  | zero =>
    intro i X Y i0 i1 hX hY hmeas
    exfalso
    omega
  | succ n9 ih =>
    intro i X Y i0 i1 hX hY hmeas
    refine jt_iload_n d_GM_beginSums_2 rfl ?_
    refine jt_bipush d_GM_beginSums_3 (by omega) ?_
    refine jt_icmp_ge (t := 28) d_GM_beginSums_5 rfl (by unfold jRi; omega) (by unfold jRi; omega) (fun c101 => ?_) (fun c101 => ?_)
    · skip
      exact gm_vret d_GM_beginSums_28 rfl (⟨rfl, rfl, X, Y, rfl, fun z => by rw [hX z, show i = 13 by omega], fun z => by rw [hY z, show i = 13 by omega]⟩)
    · skip
      refine jt_aload_n d_GM_beginSums_8 rfl ?_
      refine gm_gA (k := 33) (a := m + 18) d_GM_beginSums_9 GM_f112 (by decide) (by decide) rfl ?_
      refine jt_iload_n d_GM_beginSums_12 rfl ?_
      refine jt_lconst (z := 0) d_GM_beginSums_13 (by decide) ?_
      refine gm_st1 (k := 33) (n := 13) (B := va_up (va_up A 33 (ju X i 0)) 34 Y) d_GM_beginSums_14 rfl (by decide) (by decide) rfl rfl (by omega) (by omega) (by omega) (gup3 _ _ _ _ (by decide)) ?_
      refine jt_aload_n d_GM_beginSums_15 rfl ?_
      refine gm_gA (k := 34) (a := m + 19) d_GM_beginSums_16 GM_f115 (by decide) (by decide) rfl ?_
      refine jt_iload_n d_GM_beginSums_19 rfl ?_
      refine jt_lconst (z := 0) d_GM_beginSums_20 (by decide) ?_
      refine gm_st1 (k := 34) (n := 13) (B := va_up (va_up A 33 (ju X i 0)) 34 (ju Y i 0)) d_GM_beginSums_21 rfl (by decide) (by decide) rfl rfl (by omega) (by omega) (by omega) (bx_uu _ _ _ _) ?_
      refine jt_iinc (L' := [(0, .ref m), (1, .int (jI (i + 1)))]) d_GM_beginSums_22 rfl (Nat.le_of_ble_eq_true rfl) rfl ?_
      refine jt_goto (t := 2) d_GM_beginSums_25 rfl ?_
      refine ih _ _ _ (by omega) (by omega) (fun z => ?_) (fun z => ?_) (by omega)
      · unfold ju
        by_cases hz : z = i
        · rw [if_pos hz, if_pos (by omega)]
        · rw [if_neg hz, hX z]
          by_cases hy : 0 ≤ z ∧ z < i
          · rw [if_pos hy, if_pos (by omega)]
          · rw [if_neg hy, if_neg (by omega)]
      · unfold ju
        by_cases hz : z = i
        · rw [if_pos hz, if_pos (by omega)]
        · rw [if_neg hz, hY z]
          by_cases hy : 0 ≤ z ∧ z < i
          · rw [if_pos hy, if_pos (by omega)]
          · rw [if_neg hy, if_neg (by omega)]
set_option maxRecDepth 100000 in
set_option maxHeartbeats 4000000 in
theorem c_GM_beginSums (G : jG) (d m : Nat)  (I : Nat → Int) (A : Nat → Int → Int)   : gct G Y_GM_beginSums d m [] I A (fun rv I2 A2 => rv = none ∧ I2 = I ∧ ∃ X Y : Int → Int, A2 = va_up (va_up A 33 X) 34 Y ∧ (∀ z, X z = if 0 ≤ z ∧ z < 13 then 0 else A 33 z) ∧ ∀ z, Y z = if 0 ≤ z ∧ z < 13 then 0 else A 34 z) := by
  refine gct_of (by decide) (Nat.le_of_ble_eq_true rfl) (fun f0 sz => ?_)
  show jt _ 0 [(0, .ref m)] [] _ _ _ _
  refine jt_iconst d_GM_beginSums_0 ?_
  refine jt_istore_n (L' := [(0, .ref m), (1, .int (jI 0))]) d_GM_beginSums_1 (Nat.le_of_ble_eq_true rfl) rfl ?_
  refine gm_eA (B := va_up (va_up A 33 (A 33)) 34 (A 34)) ((gup_id A 33).trans (gup_id (va_up A 33 (A 33)) 34)) ?_
  exact l2_GM_beginSums G d m  I A   f0 sz 14 _ _ _ (by omega) (by omega) (fun z => by rw [if_neg (by omega)]) (fun z => by rw [if_neg (by omega)]) (by omega)
set_option maxRecDepth 100000 in
set_option maxHeartbeats 4000000 in
theorem l2_GM_forget (G : jG) (d m : Nat)  (I : Nat → Int) (A : Nat → Int → Int)   (f0 : jF) (sz : Nat)  : ∀ (n9 : Nat) (i : Int) (X : Int → Int), (0 ≤ i) → (i ≤ 12) → (∀ z, X z = if 0 ≤ z ∧ z < i then 0 else A 30 z) → 12 - i < (n9 : Int) → jt (jm G Y_GM_forget (gR d) (gQ m f0 sz (fun rv I2 A2 => rv = some (.int (jI 0)) ∧ I2 = I ∧ ∃ X : Int → Int, A2 = va_up A 30 X ∧ ∀ z, X z = if 0 ≤ z ∧ z < 12 then 0 else A 30 z))) 2 [(0, .ref m), (1, .int (jI i))] [] (gmf m f0 I (va_up A 30 X)) sz 0 0 := by
  intro n9
  induction n9 with
  | zero =>
    intro i X i0 i1 hX hmeas
    exfalso
    omega
  | succ n9 ih =>
    intro i X i0 i1 hX hmeas
    refine jt_iload_n d_GM_forget_2 rfl ?_
    refine jt_bipush d_GM_forget_3 (by omega) ?_
    refine jt_icmp_ge (t := 21) d_GM_forget_5 rfl (by unfold jRi; omega) (by unfold jRi; omega) (fun c101 => ?_) (fun c101 => ?_)
    · skip
      refine jt_iconst d_GM_forget_21 ?_
      exact gm_ret d_GM_forget_22 rfl rfl (⟨rfl, rfl, X, rfl, fun z => by rw [hX z, show i = 12 by omega]⟩)
    · skip
      refine jt_aload_n d_GM_forget_8 rfl ?_
      refine gm_gA (k := 30) (a := m + 15) d_GM_forget_9 GM_f102 (by decide) (by decide) rfl ?_
      refine jt_iload_n d_GM_forget_12 rfl ?_
      refine jt_iconst d_GM_forget_13 ?_
      refine gm_st0 (k := 30) (n := 12) (B := va_up A 30 (ju X i 0)) d_GM_forget_14 rfl (by decide) (by decide) rfl rfl (by omega) (by omega) (by omega) (bx_uu _ _ _ _) ?_
      refine jt_iinc (L' := [(0, .ref m), (1, .int (jI (i + 1)))]) d_GM_forget_15 rfl (Nat.le_of_ble_eq_true rfl) rfl ?_
      refine jt_goto (t := 2) d_GM_forget_18 rfl ?_
      refine ih _ _ (by omega) (by omega) (fun z => ?_) (by omega)
      unfold ju
      by_cases hz : z = i
      · rw [if_pos hz, if_pos (by omega)]
      · rw [if_neg hz, hX z]
        by_cases hy : 0 ≤ z ∧ z < i
        · rw [if_pos hy, if_pos (by omega)]
        · rw [if_neg hy, if_neg (by omega)]
set_option maxRecDepth 100000 in
set_option maxHeartbeats 4000000 in
theorem c_GM_forget (G : jG) (d m : Nat)  (I : Nat → Int) (A : Nat → Int → Int)   : gct G Y_GM_forget d m [] I A (fun rv I2 A2 => rv = some (.int (jI 0)) ∧ I2 = I ∧ ∃ X : Int → Int, A2 = va_up A 30 X ∧ ∀ z, X z = if 0 ≤ z ∧ z < 12 then 0 else A 30 z) := by
  refine gct_of (by decide) (Nat.le_of_ble_eq_true rfl) (fun f0 sz => ?_)
  show jt _ 0 [(0, .ref m)] [] _ _ _ _
  refine jt_iconst d_GM_forget_0 ?_
  refine jt_istore_n (L' := [(0, .ref m), (1, .int (jI 0))]) d_GM_forget_1 (Nat.le_of_ble_eq_true rfl) rfl ?_
  refine gm_eA (B := va_up A 30 (A 30)) (gup_id A 30) ?_
  exact l2_GM_forget G d m  I A   f0 sz 13 _ _ (by omega) (by omega) (fun z => by rw [if_neg (by omega)]) (by omega)
set_option maxRecDepth 100000 in
set_option maxHeartbeats 4000000 in
theorem l2_GM_clean (G : jG) (d m : Nat)  (I : Nat → Int) (A : Nat → Int → Int)   (f0 : jF) (sz : Nat)  : ∀ (n9 : Nat) (i : Int) (X : Int → Int), (0 ≤ i) → (i ≤ 768) → (∀ z, X z = if 0 ≤ z ∧ z < i then 0 else A 45 z) → 768 - i < (n9 : Int) → jt (jm G Y_GM_clean (gR d) (gQ m f0 sz (fun rv I2 A2 => rv = some (.int (jI 0)) ∧ I2 = I ∧ ∃ X : Int → Int, A2 = va_up A 45 X ∧ ∀ z, X z = if 0 ≤ z ∧ z < 768 then 0 else A 45 z))) 2 [(0, .ref m), (1, .int (jI i))] [] (gmf m f0 I (va_up A 45 X)) sz 0 0 := by
  intro n9
  induction n9 with
  | zero =>
    intro i X i0 i1 hX hmeas
    exfalso
    omega
  | succ n9 ih =>
    intro i X i0 i1 hX hmeas
    refine jt_iload_n d_GM_clean_2 rfl ?_
    refine jt_sipush d_GM_clean_3 (by omega) ?_
    refine jt_icmp_ge (t := 22) d_GM_clean_6 rfl (by unfold jRi; omega) (by unfold jRi; omega) (fun c101 => ?_) (fun c101 => ?_)
    · skip
      refine jt_iconst d_GM_clean_22 ?_
      exact gm_ret d_GM_clean_23 rfl rfl (⟨rfl, rfl, X, rfl, fun z => by rw [hX z, show i = 768 by omega]⟩)
    · skip
      refine jt_aload_n d_GM_clean_9 rfl ?_
      refine gm_gA (k := 45) (a := m + 30) d_GM_clean_10 GM_f148 (by decide) (by decide) rfl ?_
      refine jt_iload_n d_GM_clean_13 rfl ?_
      refine jt_iconst d_GM_clean_14 ?_
      refine gm_st2 (k := 45) (n := 768) (B := va_up A 45 (ju X i 0)) d_GM_clean_15 rfl (by decide) (by decide) rfl rfl (by omega) (by omega) (by omega) (by omega) (bx_uu _ _ _ _) ?_
      refine jt_iinc (L' := [(0, .ref m), (1, .int (jI (i + 1)))]) d_GM_clean_16 rfl (Nat.le_of_ble_eq_true rfl) rfl ?_
      refine jt_goto (t := 2) d_GM_clean_19 rfl ?_
      refine ih _ _ (by omega) (by omega) (fun z => ?_) (by omega)
      unfold ju
      by_cases hz : z = i
      · rw [if_pos hz, if_pos (by omega)]
      · rw [if_neg hz, hX z]
        by_cases hy : 0 ≤ z ∧ z < i
        · rw [if_pos hy, if_pos (by omega)]
        · rw [if_neg hy, if_neg (by omega)]
set_option maxRecDepth 100000 in
set_option maxHeartbeats 4000000 in
theorem c_GM_clean (G : jG) (d m : Nat)  (I : Nat → Int) (A : Nat → Int → Int)   : gct G Y_GM_clean d m [] I A (fun rv I2 A2 => rv = some (.int (jI 0)) ∧ I2 = I ∧ ∃ X : Int → Int, A2 = va_up A 45 X ∧ ∀ z, X z = if 0 ≤ z ∧ z < 768 then 0 else A 45 z) := by
  refine gct_of (by decide) (Nat.le_of_ble_eq_true rfl) (fun f0 sz => ?_)
  show jt _ 0 [(0, .ref m)] [] _ _ _ _
  refine jt_iconst d_GM_clean_0 ?_
  refine jt_istore_n (L' := [(0, .ref m), (1, .int (jI 0))]) d_GM_clean_1 (Nat.le_of_ble_eq_true rfl) rfl ?_
  refine gm_eA (B := va_up A 45 (A 45)) (gup_id A 45) ?_
  exact l2_GM_clean G d m  I A   f0 sz 769 _ _ (by omega) (by omega) (fun z => by rw [if_neg (by omega)]) (by omega)
/-- a value that is kept, or 0; the flag behind it -/
def gkp (v : Int) : Int := if -68719476736 ≤ v ∧ v ≤ 68719476736 then v else 0
def gkr (v r : Int) : Int := if -68719476736 ≤ v ∧ v ≤ 68719476736 then r else 1
set_option maxRecDepth 100000 in
set_option maxHeartbeats 4000000 in
theorem c_GM_kept (G : jG) (d m : Nat) (v : Int) (I : Nat → Int) (A : Nat → Int → Int)  (hv : jRl v) : gct G Y_GM_kept d m [.long (jL v)] I A (fun rv I2 A2 => rv = some (.long (jL (gkp v))) ∧ I2 = va_up I 15 (gkr v (I 15)) ∧ A2 = A) := by
  refine gct_of (by decide) (Nat.le_of_ble_eq_true rfl) (fun f0 sz => ?_)
  show jt _ 0 [(0, .ref m), (1, .long (jL v))] [] _ _ _ _
  unfold jRl at hv
  refine jt_lload_n d_GM_kept_0 rfl ?_
  refine jt_ldc2 (z := 68719476736) d_GM_kept_1 GM_k179 ?_
  refine jt_lif_gt (t := 16) d_GM_kept_4 d_GM_kept_5 rfl (by unfold jRl; omega) (by unfold jRl; omega) (fun c1 => ?_) (fun c1 => ?_)
  · skip
    refine jt_aload_n d_GM_kept_16 rfl ?_
    refine jt_iconst d_GM_kept_17 ?_
    refine gm_pI (k := 15) (v := 1) (J := va_up I 15 1) d_GM_kept_18 (GM_w55 _ rfl) (by decide) (jnz (by omega)) rfl rfl ?_
    refine jt_lconst (z := 0) d_GM_kept_21 (by decide) ?_
    exact gm_lret d_GM_kept_22 rfl (⟨by unfold gkp; rw [if_neg (by omega)], by unfold gkr; rw [if_neg (by omega)], rfl⟩)
  · skip
    refine jt_lload_n d_GM_kept_8 rfl ?_
    refine jt_ldc2 (z := -68719476736) d_GM_kept_9 GM_k181 ?_
    refine jt_lif_ge (t := 23) d_GM_kept_12 d_GM_kept_13 rfl (by unfold jRl; omega) (by unfold jRl; omega) (fun c2 => ?_) (fun c2 => ?_)
    · skip
      refine jt_lload_n d_GM_kept_23 rfl ?_
      exact gm_lret d_GM_kept_24 rfl (⟨by unfold gkp; rw [if_pos (by omega)], by unfold gkr; rw [if_pos (by omega)]; exact gup_id I 15, rfl⟩)
    · skip
      refine jt_aload_n d_GM_kept_16 rfl ?_
      refine jt_iconst d_GM_kept_17 ?_
      refine gm_pI (k := 15) (v := 1) (J := va_up I 15 1) d_GM_kept_18 (GM_w55 _ rfl) (by decide) (jnz (by omega)) rfl rfl ?_
      refine jt_lconst (z := 0) d_GM_kept_21 (by decide) ?_
      exact gm_lret d_GM_kept_22 rfl (⟨by unfold gkp; rw [if_neg (by omega)], by unfold gkr; rw [if_neg (by omega)], rfl⟩)
/-- the new row's arrays hold the tokens P, as far as there is room -/
def gH (X Y Z : Int → Int) (P : List (Int × Int × Int)) : Prop := ∀ (i : Nat) (t : Int × Int × Int), P[i]? = some t → (i : Int) < 700 → X i = t.1 ∧ Y i = t.2.1 ∧ Z i = t.2.2
theorem gH_put {X Y Z : Int → Int} {P : List (Int × Int × Int)} (h : gH X Y Z P) {w : Int} (hw : (P.length : Int) = w) (t : Int × Int × Int) : gH (ju X w t.1) (ju Y w t.2.1) (ju Z w t.2.2) (P ++ [t]) := by
  intro i u hu hi
  by_cases hl : i < P.length
  · rw [List.getElem?_append_left hl] at hu
    rw [ju_ne _ _ (by omega), ju_ne _ _ (by omega), ju_ne _ _ (by omega)]
    exact h i u hu hi
  · rw [List.getElem?_append_right (by omega)] at hu
    have hz : i - P.length < 1 := (List.getElem?_eq_some_iff.mp hu).1
    rw [show i - P.length = 0 by omega] at hu
    cases hu
    have e : (i : Int) = w := by omega
    rw [e, ju_self, ju_self, ju_self]
    exact ⟨rfl, rfl, rfl⟩
theorem gH_far {X Y Z : Int → Int} {P : List (Int × Int × Int)} (h : gH X Y Z P) {w : Int} (hw : (P.length : Int) = w) (hf : ¬ w < 700) (t : Int × Int × Int) : gH X Y Z (P ++ [t]) := by
  intro i u hu hi
  rw [List.getElem?_append_left (by omega)] at hu
  exact h i u hu hi
theorem g3i (A : Nat → Int → Int) : A = va_up (va_up (va_up A 25 (A 25)) 26 (A 26)) 27 (A 27) := (gup_id A 25).trans ((gup_id (va_up A 25 (A 25)) 26).trans (gup_id (va_up (va_up A 25 (A 25)) 26 (A 26)) 27))
theorem g3c (A : Nat → Int → Int) (X Y Z U V W : Int → Int) : va_up (va_up (va_up (va_up (va_up (va_up A 25 X) 26 Y) 27 Z) 25 U) 26 V) 27 W = va_up (va_up (va_up A 25 U) 26 V) 27 W := by
  funext q
  by_cases h7 : q = 27
  · subst h7; rfl
  · by_cases h6 : q = 26
    · subst h6; rfl
    · by_cases h5 : q = 25
      · subst h5; rfl
      · simp only [va_up_ne _ _ h7, va_up_ne _ _ h6, va_up_ne _ _ h5]
set_option maxRecDepth 100000 in
set_option maxHeartbeats 4000000 in
theorem c_GM_putToken (G : jG) (d m : Nat) (w : Int) (k : Int) (v : Int) (e : Int) (I : Nat → Int) (A : Nat → Int → Int)  (h0 : 0 ≤ w) (h1 : jRi w) : gct G Y_GM_putToken d m [.int (jI w), .int (jI k), .int (jI v), .int (jI e)] I A (fun rv I2 A2 => rv = some (.int (jI (w + 1))) ∧ I2 = I ∧ ∃ X Y Z : Int → Int, A2 = va_up (va_up (va_up A 25 X) 26 Y) 27 Z ∧ ∀ P : List (Int × Int × Int), (P.length : Int) = w → gH (A 25) (A 26) (A 27) P → gH X Y Z (P ++ [(k, v, e)])) := by
  refine gct_of (by decide) (Nat.le_of_ble_eq_true rfl) (fun f0 sz => ?_)
  show jt _ 0 [(0, .ref m), (1, .int (jI w)), (2, .int (jI k)), (3, .int (jI v)), (4, .int (jI e))] [] _ _ _ _
  unfold jRi at h1
  refine jt_iload_n d_GM_putToken_0 rfl ?_
  refine jt_sipush d_GM_putToken_1 (by omega) ?_
  refine jt_icmp_ge (t := 29) d_GM_putToken_4 rfl (by unfold jRi; omega) (by unfold jRi; omega) (fun c1 => ?_) (fun c1 => ?_)
  · skip
    refine jt_iload_n d_GM_putToken_29 rfl ?_
    refine jt_iconst d_GM_putToken_30 ?_
    refine jt_iadd d_GM_putToken_31 ?_
    exact gm_ret d_GM_putToken_32 rfl rfl (⟨rfl, rfl, _, _, _, g3i A, fun P hp hh => gH_far hh hp (by omega) (k, v, e)⟩)
  · skip
    refine jt_aload_n d_GM_putToken_7 rfl ?_
    refine gm_gA (k := 25) (a := m + 10) d_GM_putToken_8 GM_f87 (by decide) (by decide) rfl ?_
    refine jt_iload_n d_GM_putToken_11 rfl ?_
    refine jt_iload_n d_GM_putToken_12 rfl ?_
    refine gm_st0 (k := 25) (n := 700) (B := va_up A 25 (ju (A 25) w k)) d_GM_putToken_13 rfl (by decide) (by decide) rfl rfl (by omega) (by omega) (by omega) rfl ?_
    refine jt_aload_n d_GM_putToken_14 rfl ?_
    refine gm_gA (k := 26) (a := m + 11) d_GM_putToken_15 GM_f90 (by decide) (by decide) rfl ?_
    refine jt_iload_n d_GM_putToken_18 rfl ?_
    refine jt_iload_n d_GM_putToken_19 rfl ?_
    refine gm_st0 (k := 26) (n := 700) (B := va_up (va_up A 25 (ju (A 25) w k)) 26 (ju (A 26) w v)) d_GM_putToken_20 rfl (by decide) (by decide) rfl rfl (by omega) (by omega) (by omega) rfl ?_
    refine jt_aload_n d_GM_putToken_21 rfl ?_
    refine gm_gA (k := 27) (a := m + 12) d_GM_putToken_22 GM_f93 (by decide) (by decide) rfl ?_
    refine jt_iload_n d_GM_putToken_25 rfl ?_
    refine jt_iload d_GM_putToken_26 rfl ?_
    refine gm_st0 (k := 27) (n := 700) (B := va_up (va_up (va_up A 25 (ju (A 25) w k)) 26 (ju (A 26) w v)) 27 (ju (A 27) w e)) d_GM_putToken_28 rfl (by decide) (by decide) rfl rfl (by omega) (by omega) (by omega) rfl ?_
    refine jt_iload_n d_GM_putToken_29 rfl ?_
    refine jt_iconst d_GM_putToken_30 ?_
    refine jt_iadd d_GM_putToken_31 ?_
    exact gm_ret d_GM_putToken_32 rfl rfl (⟨rfl, rfl, _, _, _, rfl, fun P hp hh => gH_put hh hp (k, v, e)⟩)
set_option maxRecDepth 100000 in
set_option maxHeartbeats 4000000 in
theorem c_GM_push (G : jG) (d m : Nat) (w : Int) (I : Nat → Int) (A : Nat → Int → Int)  (h0 : 0 ≤ I 13) (h1 : I 13 < 320) : gct G Y_GM_push d m [.int (jI w)] I A (fun rv I2 A2 => rv = none ∧ I2 = va_up I 13 (I 13 + 1) ∧ A2 = va_up (va_up A 36 (ju (A 36) (I 13) w)) 37 (ju (A 37) (I 13) (I 9))) := by
  refine gct_of (by decide) (Nat.le_of_ble_eq_true rfl) (fun f0 sz => ?_)
  show jt _ 0 [(0, .ref m), (1, .int (jI w))] [] _ _ _ _
  refine jt_aload_n d_GM_push_0 rfl ?_
  refine gm_gA (k := 36) (a := m + 21) d_GM_push_1 GM_f121 (by decide) (by decide) rfl ?_
  refine jt_aload_n d_GM_push_4 rfl ?_
  refine gm_gI (k := 13) (v := I 13) d_GM_push_5 GM_f49 (by decide) rfl ?_
  refine jt_iload_n d_GM_push_8 rfl ?_
  refine gm_st0 (k := 36) (n := 320) (B := va_up A 36 (ju (A 36) (I 13) w)) d_GM_push_9 rfl (by decide) (by decide) rfl rfl (by omega) (by omega) (by omega) rfl ?_
  refine jt_aload_n d_GM_push_10 rfl ?_
  refine gm_gA (k := 37) (a := m + 22) d_GM_push_11 GM_f124 (by decide) (by decide) rfl ?_
  refine jt_aload_n d_GM_push_14 rfl ?_
  refine gm_gI (k := 13) (v := I 13) d_GM_push_15 GM_f49 (by decide) rfl ?_
  refine jt_aload_n d_GM_push_18 rfl ?_
  refine gm_gI (k := 9) (v := I 9) d_GM_push_19 GM_f37 (by decide) rfl ?_
  refine gm_st0 (k := 37) (n := 320) (B := va_up (va_up A 36 (ju (A 36) (I 13) w)) 37 (ju (A 37) (I 13) (I 9))) d_GM_push_22 rfl (by decide) (by decide) rfl rfl (by omega) (by omega) (by omega) rfl ?_
  refine jt_aload_n d_GM_push_23 rfl ?_
  refine jt_dup d_GM_push_24 rfl ?_
  refine gm_gI (k := 13) (v := I 13) d_GM_push_25 GM_f49 (by decide) rfl ?_
  refine jt_iconst d_GM_push_28 ?_
  refine jt_iadd d_GM_push_29 ?_
  refine jt_topi (fun v1 ev1 => ?_)
  refine gm_pI (k := 13) (v := v1) (J := va_up I 13 v1) d_GM_push_30 (GM_w49 _ rfl) (by decide) rfl rfl rfl ?_
  exact gm_vret d_GM_push_33 rfl (⟨rfl, by rw [ev1], rfl⟩)
set_option maxRecDepth 100000 in
set_option maxHeartbeats 4000000 in
theorem c_GM_piece (G : jG) (d m : Nat) (x : Int) (y : Int) (u : Int) (v : Int) (I : Nat → Int) (A : Nat → Int → Int)  (h0 : 0 ≤ I 10) (h1 : I 10 < 110) : gct G Y_GM_piece d m [.long (jL x), .long (jL y), .long (jL u), .long (jL v)] I A (fun rv I2 A2 => rv = none ∧ I2 = va_up I 10 (I 10 + 1) ∧ A2 = va_up (va_up (va_up (va_up A 40 (ju (A 40) (I 10) x)) 41 (ju (A 41) (I 10) y)) 42 (ju (A 42) (I 10) u)) 43 (ju (A 43) (I 10) v)) := by
  refine gct_of (by decide) (Nat.le_of_ble_eq_true rfl) (fun f0 sz => ?_)
  show jt _ 0 [(0, .ref m), (1, .long (jL x)), (3, .long (jL y)), (5, .long (jL u)), (7, .long (jL v))] [] _ _ _ _
  refine jt_aload_n d_GM_piece_0 rfl ?_
  refine gm_gA (k := 40) (a := m + 25) d_GM_piece_1 GM_f133 (by decide) (by decide) rfl ?_
  refine jt_aload_n d_GM_piece_4 rfl ?_
  refine gm_gI (k := 10) (v := I 10) d_GM_piece_5 GM_f40 (by decide) rfl ?_
  refine jt_lload_n d_GM_piece_8 rfl ?_
  refine gm_st1 (k := 40) (n := 110) (B := va_up A 40 (ju (A 40) (I 10) x)) d_GM_piece_9 rfl (by decide) (by decide) rfl rfl (by omega) (by omega) (by omega) rfl ?_
  refine jt_aload_n d_GM_piece_10 rfl ?_
  refine gm_gA (k := 41) (a := m + 26) d_GM_piece_11 GM_f136 (by decide) (by decide) rfl ?_
  refine jt_aload_n d_GM_piece_14 rfl ?_
  refine gm_gI (k := 10) (v := I 10) d_GM_piece_15 GM_f40 (by decide) rfl ?_
  refine jt_lload_n d_GM_piece_18 rfl ?_
  refine gm_st1 (k := 41) (n := 110) (B := va_up (va_up A 40 (ju (A 40) (I 10) x)) 41 (ju (A 41) (I 10) y)) d_GM_piece_19 rfl (by decide) (by decide) rfl rfl (by omega) (by omega) (by omega) rfl ?_
  refine jt_aload_n d_GM_piece_20 rfl ?_
  refine gm_gA (k := 42) (a := m + 27) d_GM_piece_21 GM_f139 (by decide) (by decide) rfl ?_
  refine jt_aload_n d_GM_piece_24 rfl ?_
  refine gm_gI (k := 10) (v := I 10) d_GM_piece_25 GM_f40 (by decide) rfl ?_
  refine jt_lload d_GM_piece_28 rfl ?_
  refine gm_st1 (k := 42) (n := 110) (B := va_up (va_up (va_up A 40 (ju (A 40) (I 10) x)) 41 (ju (A 41) (I 10) y)) 42 (ju (A 42) (I 10) u)) d_GM_piece_30 rfl (by decide) (by decide) rfl rfl (by omega) (by omega) (by omega) rfl ?_
  refine jt_aload_n d_GM_piece_31 rfl ?_
  refine gm_gA (k := 43) (a := m + 28) d_GM_piece_32 GM_f142 (by decide) (by decide) rfl ?_
  refine jt_aload_n d_GM_piece_35 rfl ?_
  refine gm_gI (k := 10) (v := I 10) d_GM_piece_36 GM_f40 (by decide) rfl ?_
  refine jt_lload d_GM_piece_39 rfl ?_
  refine gm_st1 (k := 43) (n := 110) (B := va_up (va_up (va_up (va_up A 40 (ju (A 40) (I 10) x)) 41 (ju (A 41) (I 10) y)) 42 (ju (A 42) (I 10) u)) 43 (ju (A 43) (I 10) v)) d_GM_piece_41 rfl (by decide) (by decide) rfl rfl (by omega) (by omega) (by omega) rfl ?_
  refine jt_aload_n d_GM_piece_42 rfl ?_
  refine jt_dup d_GM_piece_43 rfl ?_
  refine gm_gI (k := 10) (v := I 10) d_GM_piece_44 GM_f40 (by decide) rfl ?_
  refine jt_iconst d_GM_piece_47 ?_
  refine jt_iadd d_GM_piece_48 ?_
  refine jt_topi (fun v1 ev1 => ?_)
  refine gm_pI (k := 10) (v := v1) (J := va_up I 10 v1) d_GM_piece_49 (GM_w40 _ rfl) (by decide) rfl rfl rfl ?_
  exact gm_vret d_GM_piece_52 rfl (⟨rfl, by rw [ev1], rfl⟩)
set_option maxRecDepth 100000 in
set_option maxHeartbeats 4000000 in
theorem c_GM_coordinate (G : jG) (d m : Nat) (k : Int) (i : Int) (I : Nat → Int) (A : Nat → Int → Int)  (h0 : 0 ≤ 2 * k + i) (h1 : 2 * k + i < 80) : gct G Y_GM_coordinate d m [.int (jI k), .int (jI i)] I A (fun rv I2 A2 => rv = some (.long (jL (A 39 (2 * k + i) * 512))) ∧ I2 = I ∧ A2 = A) := by
  refine gct_of (by decide) (Nat.le_of_ble_eq_true rfl) (fun f0 sz => ?_)
  show jt _ 0 [(0, .ref m), (1, .int (jI k)), (2, .int (jI i))] [] _ _ _ _
  refine jt_aload_n d_GM_coordinate_0 rfl ?_
  refine gm_gA (k := 39) (a := m + 24) d_GM_coordinate_1 GM_f130 (by decide) (by decide) rfl ?_
  refine jt_iconst d_GM_coordinate_4 ?_
  refine jt_iload_n d_GM_coordinate_5 rfl ?_
  refine jt_imul d_GM_coordinate_6 ?_
  refine jt_iload_n d_GM_coordinate_7 rfl ?_
  refine jt_iadd d_GM_coordinate_8 ?_
  refine gm_ld1 (k := 39) (n := 80) (v := (A 39) ((2 * k) + i)) d_GM_coordinate_9 rfl (by decide) (by decide) rfl rfl (by omega) (by omega) (by omega) rfl ?_
  refine jt_ldc2 (z := 512) d_GM_coordinate_10 GM_k270 ?_
  refine jt_lmul d_GM_coordinate_13 ?_
  exact gm_lret d_GM_coordinate_14 rfl (⟨rfl, rfl, rfl⟩)
set_option maxRecDepth 100000 in
set_option maxHeartbeats 4000000 in
theorem c_GM_shown (G : jG) (d m : Nat) (k : Int) (I : Nat → Int) (A : Nat → Int → Int)  (hk : jRi k) (hn : jRi (I 7)) : gct G Y_GM_shown d m [.int (jI k)] I A (fun rv I2 A2 => rv = some (.long (jL (if k < 0 ∨ 7 < k ∨ I 7 ≤ k then 1000000000000000 else A 32 k))) ∧ I2 = I ∧ A2 = A) := by
  refine gct_of (by decide) (Nat.le_of_ble_eq_true rfl) (fun f0 sz => ?_)
  show jt _ 0 [(0, .ref m), (1, .int (jI k))] [] _ _ _ _
  unfold jRi at hk hn
  refine jt_iload_n d_GM_shown_0 rfl ?_
  refine jt_if_lt (t := 18) d_GM_shown_1 rfl (by unfold jRi; omega) (fun c1 => ?_) (fun c1 => ?_)
  · skip
    refine jt_ldc2 (z := 1000000000000000) d_GM_shown_18 GM_k335 ?_
    refine jt_goto (t := 30) d_GM_shown_21 rfl ?_
    exact gm_lret d_GM_shown_30 rfl (⟨by rw [if_pos (by omega)], rfl, rfl⟩)
  · skip
    refine jt_iload_n d_GM_shown_4 rfl ?_
    refine jt_bipush d_GM_shown_5 (by omega) ?_
    refine jt_icmp_gt (t := 18) d_GM_shown_7 rfl (by unfold jRi; omega) (by unfold jRi; omega) (fun c2 => ?_) (fun c2 => ?_)
    · skip
      refine jt_ldc2 (z := 1000000000000000) d_GM_shown_18 GM_k335 ?_
      refine jt_goto (t := 30) d_GM_shown_21 rfl ?_
      exact gm_lret d_GM_shown_30 rfl (⟨by rw [if_pos (by omega)], rfl, rfl⟩)
    · skip
      refine jt_iload_n d_GM_shown_10 rfl ?_
      refine jt_aload_n d_GM_shown_11 rfl ?_
      refine gm_gI (k := 7) (v := I 7) d_GM_shown_12 GM_f31 (by decide) rfl ?_
      refine jt_icmp_lt (t := 24) d_GM_shown_15 rfl (by unfold jRi; omega) (by unfold jRi; omega) (fun c3 => ?_) (fun c3 => ?_)
      · skip
        refine jt_aload_n d_GM_shown_24 rfl ?_
        refine gm_gA (k := 32) (a := m + 17) d_GM_shown_25 GM_f109 (by decide) (by decide) rfl ?_
        refine jt_iload_n d_GM_shown_28 rfl ?_
        refine gm_ld1 (k := 32) (n := 8) (v := (A 32) k) d_GM_shown_29 rfl (by decide) (by decide) rfl rfl (by omega) (by omega) (by omega) rfl ?_
        exact gm_lret d_GM_shown_30 rfl (⟨by rw [if_neg (by omega)], rfl, rfl⟩)
      · skip
        refine jt_ldc2 (z := 1000000000000000) d_GM_shown_18 GM_k335 ?_
        refine jt_goto (t := 30) d_GM_shown_21 rfl ?_
        exact gm_lret d_GM_shown_30 rfl (⟨by rw [if_pos (by omega)], rfl, rfl⟩)

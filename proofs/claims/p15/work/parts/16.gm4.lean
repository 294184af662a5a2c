abbrev gin (v : Int) : Prop := -68719476736 ≤ v ∧ v ≤ 68719476736
set_option maxRecDepth 100000 in
set_option maxHeartbeats 4000000 in
theorem l2_GM_check (G : jG) (d m : Nat) (f : Int) (I : Nat → Int) (A : Nat → Int → Int)  (h0 : 0 ≤ f) (h1 : f < 400) (hr : ∀ j, 0 ≤ j → j < 13 → jRl (A 35 (f * 13 + j))) (f0 : jF) (sz : Nat) : ∀ (n9 : Nat) (i : Int) (r : Int) (W : Int → Int), (0 ≤ i) → (i ≤ 13) → (∀ z, W z = if f * 13 ≤ z ∧ z < f * 13 + i then gkp (A 35 z) else A 35 z) → ((∀ j, 0 ≤ j → j < i → gin (A 35 (f * 13 + j))) → r = I 15) → (¬ (∀ j, 0 ≤ j → j < i → gin (A 35 (f * 13 + j))) → r = 1) → 13 - i < (n9 : Int) → jt (jm G Y_GM_check (gR (d + 1)) (gQ m f0 sz (fun rv I2 A2 => rv = none ∧ ∃ (r : Int) (W : Int → Int), I2 = va_up I 15 r ∧ A2 = va_up A 35 W ∧ (∀ z, W z = if f * 13 ≤ z ∧ z < f * 13 + 13 then gkp (A 35 z) else A 35 z) ∧ ((∀ j, 0 ≤ j → j < 13 → gin (A 35 (f * 13 + j))) → r = I 15) ∧ (¬ (∀ j, 0 ≤ j → j < 13 → gin (A 35 (f * 13 + j))) → r = 1)))) 2 [(0, .ref m), (1, .int (jI f)), (2, .int (jI i))] [] (gmf m f0 (va_up I 15 r) (va_up A 35 W)) sz 0 0 := by
  intro n9
  induction n9 with
  | zero =>
    intro i r W i0 i1 hW ha hb hmeas
    exfalso
    omega
  | succ n9 ih =>
    intro i r W i0 i1 hW ha hb hmeas
    refine jt_iload_n d_GM_check_2 rfl ?_
    refine jt_bipush d_GM_check_3 (by omega) ?_
    refine jt_icmp_ge (t := 40) d_GM_check_5 rfl (by unfold jRi; omega) (by unfold jRi; omega) (fun c101 => ?_) (fun c101 => ?_)
    · skip
      exact gm_vret d_GM_check_40 rfl (by
    obtain rfl : i = 13 := by omega
    exact ⟨rfl, r, W, rfl, rfl, hW, ha, hb⟩)
    · skip
      have e0 : W (f * 13 + i) = A 35 (f * 13 + i) := by rw [hW, if_neg (by omega)]
      have q0 := hr i (by omega) (by omega)
      refine jt_aload_n d_GM_check_8 rfl ?_
      refine gm_gA (k := 35) (a := m + 20) d_GM_check_9 GM_f118 (by decide) (by decide) rfl ?_
      refine jt_iload_n d_GM_check_12 rfl ?_
      refine jt_bipush d_GM_check_13 (by omega) ?_
      refine jt_imul d_GM_check_15 ?_
      refine jt_iload_n d_GM_check_16 rfl ?_
      refine jt_iadd d_GM_check_17 ?_
      refine jt_aload_n d_GM_check_18 rfl ?_
      refine jt_aload_n d_GM_check_19 rfl ?_
      refine gm_gA (k := 35) (a := m + 20) d_GM_check_20 GM_f118 (by decide) (by decide) rfl ?_
      refine jt_iload_n d_GM_check_23 rfl ?_
      refine jt_bipush d_GM_check_24 (by omega) ?_
      refine jt_imul d_GM_check_26 ?_
      refine jt_iload_n d_GM_check_27 rfl ?_
      refine jt_iadd d_GM_check_28 ?_
      refine gm_ld1 (k := 35) (n := 5200) (v := W ((f * 13) + i)) d_GM_check_29 rfl (by decide) (by decide) rfl rfl (by omega) (by omega) (by omega) rfl ?_
      refine jt_topl (fun v102 ev102 => ?_)
      have q : jRl v102 := by rw [ev102, e0]; exact q0
      refine gct_call (Y := Y_GM_kept) (As := [.long (jL v102)]) (rest := [.int (jI ((f * 13) + i)), .ref (m + 20)]) d_GM_check_30 GM_c185 yk_GM_kept yv_GM_kept rfl (Nat.le_of_ble_eq_true rfl) rfl rfl (Nat.le_of_ble_eq_true rfl) (c_GM_kept G _ m v102 (va_up I 15 r) (va_up A 35 W) (q)) (fun rvq103 Iq103 Aq103 hq103 => ?_)
      obtain ⟨rfl, hIq103, hAq103⟩ := hq103
      rw [hIq103, hAq103]
      refine gm_eI (J := va_up I 15 (gkr v102 r)) (bx_uu _ _ _ _) ?_
      show jt _ 33 [(0, .ref m), (1, .int (jI f)), (2, .int (jI i))] [.long (jL (gkp v102)), .int (jI ((f * 13) + i)), .ref (m + 20)] (gmf m f0 (va_up I 15 (gkr v102 r)) (va_up A 35 W)) _ _ _
      refine jt_topl (fun v104 ev104 => ?_)
      refine gm_st1 (k := 35) (n := 5200) (B := va_up A 35 (ju W ((f * 13) + i) v104)) d_GM_check_33 rfl (by decide) (by decide) rfl rfl (by omega) (by omega) (by omega) (bx_uu _ _ _ _) ?_
      refine jt_iinc (L' := [(0, .ref m), (1, .int (jI f)), (2, .int (jI (i + 1)))]) d_GM_check_34 rfl (Nat.le_of_ble_eq_true rfl) rfl ?_
      refine jt_goto (t := 2) d_GM_check_37 rfl ?_
      have ev : v102 = A 35 (f * 13 + i) := by rw [ev102, e0]
      refine ih _ _ _ (by omega) (by omega) (fun z => ?_) (fun h => ?_) (fun h => ?_) (by omega)
      · unfold ju
        by_cases hz : z = f * 13 + i
        · rw [if_pos hz, if_pos (by omega), ev104, ev, hz]
        · rw [if_neg hz, hW z]
          by_cases hy : f * 13 ≤ z ∧ z < f * 13 + i
          · rw [if_pos hy, if_pos (by omega)]
          · rw [if_neg hy, if_neg (by omega)]
      · unfold gkr
        rw [ev, if_pos (h i (by omega) (by omega))]
        exact ha (fun j a b => h j a (by omega))
      · unfold gkr
        rw [ev]
        by_cases hq : gin (A 35 (f * 13 + i))
        · rw [if_pos hq]
          refine hb (fun h2 => h (fun j a b => ?_))
          by_cases hj : j = i
          · rw [hj]; exact hq
          · exact h2 j a (by omega)
        · rw [if_neg hq]
set_option maxRecDepth 100000 in
set_option maxHeartbeats 4000000 in
theorem c_GM_check (G : jG) (d m : Nat) (f : Int) (I : Nat → Int) (A : Nat → Int → Int)  (h0 : 0 ≤ f) (h1 : f < 400) (hr : ∀ j, 0 ≤ j → j < 13 → jRl (A 35 (f * 13 + j))) : gct G Y_GM_check (d + 1) m [.int (jI f)] I A (fun rv I2 A2 => rv = none ∧ ∃ (r : Int) (W : Int → Int), I2 = va_up I 15 r ∧ A2 = va_up A 35 W ∧ (∀ z, W z = if f * 13 ≤ z ∧ z < f * 13 + 13 then gkp (A 35 z) else A 35 z) ∧ ((∀ j, 0 ≤ j → j < 13 → gin (A 35 (f * 13 + j))) → r = I 15) ∧ (¬ (∀ j, 0 ≤ j → j < 13 → gin (A 35 (f * 13 + j))) → r = 1)) := by
  refine gct_of (by decide) (Nat.le_of_ble_eq_true rfl) (fun f0 sz => ?_)
  show jt _ 0 [(0, .ref m), (1, .int (jI f))] [] _ _ _ _
  refine jt_iconst d_GM_check_0 ?_
  refine jt_istore_n (L' := [(0, .ref m), (1, .int (jI f)), (2, .int (jI 0))]) d_GM_check_1 (Nat.le_of_ble_eq_true rfl) rfl ?_
  refine gm_eI (J := va_up I 15 (I 15)) (gup_id I 15) ?_
  refine gm_eA (B := va_up A 35 (A 35)) (gup_id A 35) ?_
  exact l2_GM_check G d m f I A  h0 h1 hr f0 sz 14 _ _ _ (by omega) (by omega) (fun z => by rw [if_neg (by omega)]) (fun _ => rfl) (fun h => absurd (fun j a b => by omega) h) (by omega)
set_option maxRecDepth 100000 in
set_option maxHeartbeats 4000000 in
theorem l33_GM_loadVariable (G : jG) (d m : Nat) (f : Int) (v : Int) (I : Nat → Int) (A : Nat → Int → Int)  (h0 : 0 ≤ f) (h1 : f < 400) (v0 : 0 ≤ v) (v1 : v < 12) (hs : jRi (A 30 v)) (f0 : jF) (sz : Nat) : ∀ (n9 : Nat) (i : Int) (W : Int → Int), (0 ≤ i) → (i ≤ 13) → (¬ A 30 v = 0) → (∀ z, W z = if f * 13 ≤ z ∧ z < f * 13 + i then A 31 (v * 13 + (z - f * 13)) else if f * 13 ≤ z ∧ z < f * 13 + 13 then 0 else A 35 z) → 13 - i < (n9 : Int) → jt (jm G Y_GM_loadVariable (gR (d + 1)) (gQ m f0 sz (fun rv I2 A2 => rv = none ∧ I2 = I ∧ ∃ W : Int → Int, A2 = va_up A 35 W ∧ ∀ z, W z = if f * 13 ≤ z ∧ z < f * 13 + 13 then (if A 30 v = 0 then (if z = f * 13 + v then 65536 else 0) else A 31 (v * 13 + (z - f * 13))) else A 35 z))) 33 [(0, .ref m), (1, .int (jI f)), (2, .int (jI v)), (3, .int (jI i))] [] (gmf m f0 I (va_up A 35 W)) sz 0 0 := by
  unfold jRi at hs
  intro n9
  induction n9 with
  | zero =>
    intro i W i0 i1 hn hW hmeas
    exfalso
    omega
  | succ n9 ih =>
    intro i W i0 i1 hn hW hmeas
    refine jt_iload_n d_GM_loadVariable_33 rfl ?_
    refine jt_bipush d_GM_loadVariable_34 (by omega) ?_
    refine jt_icmp_ge (t := 67) d_GM_loadVariable_36 rfl (by unfold jRi; omega) (by unfold jRi; omega) (fun c101 => ?_) (fun c101 => ?_)
    · skip
      exact gm_vret d_GM_loadVariable_67 rfl (⟨rfl, rfl, W, rfl, fun z => by
      rw [hW z, show i = 13 by omega]
      by_cases hy : f * 13 ≤ z ∧ z < f * 13 + 13
      · rw [if_pos hy, if_pos hy, if_neg hn]
      · rw [if_neg hy, if_neg hy, if_neg hy]⟩)
    · skip
      refine jt_aload_n d_GM_loadVariable_39 rfl ?_
      refine gm_gA (k := 35) (a := m + 20) d_GM_loadVariable_40 GM_f118 (by decide) (by decide) rfl ?_
      refine jt_iload_n d_GM_loadVariable_43 rfl ?_
      refine jt_bipush d_GM_loadVariable_44 (by omega) ?_
      refine jt_imul d_GM_loadVariable_46 ?_
      refine jt_iload_n d_GM_loadVariable_47 rfl ?_
      refine jt_iadd d_GM_loadVariable_48 ?_
      refine jt_aload_n d_GM_loadVariable_49 rfl ?_
      refine gm_gA (k := 31) (a := m + 16) d_GM_loadVariable_50 GM_f105 (by decide) (by decide) rfl ?_
      refine jt_iload_n d_GM_loadVariable_53 rfl ?_
      refine jt_bipush d_GM_loadVariable_54 (by omega) ?_
      refine jt_imul d_GM_loadVariable_56 ?_
      refine jt_iload_n d_GM_loadVariable_57 rfl ?_
      refine jt_iadd d_GM_loadVariable_58 ?_
      refine gm_ld1 (k := 31) (n := 156) (v := (A 31) ((v * 13) + i)) d_GM_loadVariable_59 rfl (by decide) (by decide) rfl rfl (by omega) (by omega) (by omega) rfl ?_
      refine jt_topl (fun v102 ev102 => ?_)
      refine gm_st1 (k := 35) (n := 5200) (B := va_up A 35 (ju W ((f * 13) + i) v102)) d_GM_loadVariable_60 rfl (by decide) (by decide) rfl rfl (by omega) (by omega) (by omega) (bx_uu _ _ _ _) ?_
      refine jt_iinc (L' := [(0, .ref m), (1, .int (jI f)), (2, .int (jI v)), (3, .int (jI (i + 1)))]) d_GM_loadVariable_61 rfl (Nat.le_of_ble_eq_true rfl) rfl ?_
      refine jt_goto (t := 33) d_GM_loadVariable_64 rfl ?_
      refine ih _ _ (by omega) (by omega) hn (fun z => ?_) (by omega)
      unfold ju
      by_cases hz : z = f * 13 + i
      · rw [if_pos hz, if_pos (by omega), ev102, hz, show v * 13 + (f * 13 + i - f * 13) = v * 13 + i by omega]
      · rw [if_neg hz, hW z]
        by_cases hy : f * 13 ≤ z ∧ z < f * 13 + i
        · rw [if_pos hy, if_pos (by omega)]
        · rw [if_neg hy, if_neg (show ¬ (f * 13 ≤ z ∧ z < f * 13 + (i + 1)) by omega)]
set_option maxRecDepth 100000 in
set_option maxHeartbeats 4000000 in
theorem c_GM_loadVariable (G : jG) (d m : Nat) (f : Int) (v : Int) (I : Nat → Int) (A : Nat → Int → Int)  (h0 : 0 ≤ f) (h1 : f < 400) (v0 : 0 ≤ v) (v1 : v < 12) (hs : jRi (A 30 v)) : gct G Y_GM_loadVariable (d + 1) m [.int (jI f), .int (jI v)] I A (fun rv I2 A2 => rv = none ∧ I2 = I ∧ ∃ W : Int → Int, A2 = va_up A 35 W ∧ ∀ z, W z = if f * 13 ≤ z ∧ z < f * 13 + 13 then (if A 30 v = 0 then (if z = f * 13 + v then 65536 else 0) else A 31 (v * 13 + (z - f * 13))) else A 35 z) := by
  refine gct_of (by decide) (Nat.le_of_ble_eq_true rfl) (fun f0 sz => ?_)
  show jt _ 0 [(0, .ref m), (1, .int (jI f)), (2, .int (jI v))] [] _ _ _ _
  unfold jRi at hs
  refine jt_aload_n d_GM_loadVariable_0 rfl ?_
  refine jt_iload_n d_GM_loadVariable_1 rfl ?_
  refine gct_call (Y := Y_GM_clear) (As := [.int (jI f)]) (rest := []) d_GM_loadVariable_2 GM_c193 yk_GM_clear yv_GM_clear rfl (Nat.le_of_ble_eq_true rfl) rfl rfl (Nat.le_of_ble_eq_true rfl) (c_GM_clear G _ m f I A (by omega) (by omega)) (fun rvq1 Iq1 Aq1 hq1 => ?_)
  obtain ⟨rfl, hIq1, Wq1, hAq1, hWq1⟩ := hq1
  rw [hIq1, hAq1]
  show jt _ 5 [(0, .ref m), (1, .int (jI f)), (2, .int (jI v))] [] (gmf m f0 I (va_up A 35 Wq1)) _ _ _
  refine jt_aload_n d_GM_loadVariable_5 rfl ?_
  refine gm_gA (k := 30) (a := m + 15) d_GM_loadVariable_6 GM_f102 (by decide) (by decide) rfl ?_
  refine jt_iload_n d_GM_loadVariable_9 rfl ?_
  refine gm_ld0 (k := 30) (n := 12) (v := (A 30) v) d_GM_loadVariable_10 rfl (by decide) (by decide) rfl rfl (by omega) (by omega) (by omega) rfl ?_
  refine jt_if_ne (t := 31) d_GM_loadVariable_11 rfl (by unfold jRi; omega) (fun c2 => ?_) (fun c2 => ?_)
  · skip
    refine jt_iconst d_GM_loadVariable_31 ?_
    refine jt_istore_n (L' := [(0, .ref m), (1, .int (jI f)), (2, .int (jI v)), (3, .int (jI 0))]) d_GM_loadVariable_32 (Nat.le_of_ble_eq_true rfl) rfl ?_
    exact l33_GM_loadVariable G d m f v I A  h0 h1 v0 v1 hs f0 sz 14 _ _ (by omega) (by omega) (by assumption) (fun z => by rw [if_neg (by omega)]; exact hWq1 z) (by omega)
  · skip
    refine jt_aload_n d_GM_loadVariable_14 rfl ?_
    refine gm_gA (k := 35) (a := m + 20) d_GM_loadVariable_15 GM_f118 (by decide) (by decide) rfl ?_
    refine jt_iload_n d_GM_loadVariable_18 rfl ?_
    refine jt_bipush d_GM_loadVariable_19 (by omega) ?_
    refine jt_imul d_GM_loadVariable_21 ?_
    refine jt_iload_n d_GM_loadVariable_22 rfl ?_
    refine jt_iadd d_GM_loadVariable_23 ?_
    refine jt_ldc2 (z := 65536) d_GM_loadVariable_24 GM_k197 ?_
    refine gm_st1 (k := 35) (n := 5200) (B := va_up A 35 (ju Wq1 ((f * 13) + v) 65536)) d_GM_loadVariable_27 rfl (by decide) (by decide) rfl rfl (by omega) (by omega) (by omega) (bx_uu _ _ _ _) ?_
    refine jt_goto (t := 67) d_GM_loadVariable_28 rfl ?_
    exact gm_vret d_GM_loadVariable_67 rfl (⟨rfl, rfl, _, rfl, fun z => by
      unfold ju
      by_cases hz : z = f * 13 + v
      · rw [if_pos hz, if_pos (by omega), if_pos (by omega), if_pos hz]
      · rw [if_neg hz, hWq1 z]
        by_cases hy : f * 13 ≤ z ∧ z < f * 13 + 13
        · rw [if_pos hy, if_pos hy, if_pos (by omega), if_neg hz]
        · rw [if_neg hy, if_neg hy]⟩)
set_option maxRecDepth 100000 in
set_option maxHeartbeats 4000000 in
theorem c_GM_bend (G : jG) (d m : Nat) (k : Int) (i : Int) (t : Int) (I : Nat → Int) (A : Nat → Int → Int)  (h0 : 0 ≤ k) (h1 : 0 ≤ i) (h2 : i ≤ 1) (h3 : 2 * k + 6 + i < 80) (t0 : 0 ≤ t) (t1 : t ≤ 8) : gct G Y_GM_bend d m [.int (jI k), .int (jI i), .int (jI t)] I A (fun rv I2 A2 => rv = some (.long (jL ((8 - t) * (8 - t) * (8 - t) * A 39 (2 * k + i) + 3 * (8 - t) * (8 - t) * t * A 39 (2 * k + 2 + i) + 3 * (8 - t) * t * t * A 39 (2 * k + 4 + i) + t * t * t * A 39 (2 * k + 6 + i)))) ∧ I2 = I ∧ A2 = A) := by
  refine gct_of (by decide) (Nat.le_of_ble_eq_true rfl) (fun f0 sz => ?_)
  show jt _ 0 [(0, .ref m), (1, .int (jI k)), (2, .int (jI i)), (3, .int (jI t))] [] _ _ _ _
  refine jt_bipush d_GM_bend_0 (by omega) ?_
  refine jt_iload_n d_GM_bend_2 rfl ?_
  refine jt_isub d_GM_bend_3 ?_
  refine jt_i2l d_GM_bend_4 (by unfold jRi; omega) ?_
  refine jt_topl (fun v1 ev1 => ?_)
  refine jt_lstore (L' := [(0, .ref m), (1, .int (jI k)), (2, .int (jI i)), (3, .int (jI t)), (4, .long (jL v1))]) d_GM_bend_5 (Nat.le_of_ble_eq_true rfl) rfl ?_
  refine jt_aload_n d_GM_bend_7 rfl ?_
  refine gm_gA (k := 39) (a := m + 24) d_GM_bend_8 GM_f130 (by decide) (by decide) rfl ?_
  refine jt_iconst d_GM_bend_11 ?_
  refine jt_iload_n d_GM_bend_12 rfl ?_
  refine jt_imul d_GM_bend_13 ?_
  refine jt_iload_n d_GM_bend_14 rfl ?_
  refine jt_iadd d_GM_bend_15 ?_
  refine gm_ld1 (k := 39) (n := 80) (v := (A 39) ((2 * k) + i)) d_GM_bend_16 rfl (by decide) (by decide) rfl rfl (by omega) (by omega) (by omega) rfl ?_
  refine jt_topl (fun v2 ev2 => ?_)
  refine jt_lstore (L' := [(0, .ref m), (1, .int (jI k)), (2, .int (jI i)), (3, .int (jI t)), (4, .long (jL v1)), (6, .long (jL v2))]) d_GM_bend_17 (Nat.le_of_ble_eq_true rfl) rfl ?_
  refine jt_aload_n d_GM_bend_19 rfl ?_
  refine gm_gA (k := 39) (a := m + 24) d_GM_bend_20 GM_f130 (by decide) (by decide) rfl ?_
  refine jt_iconst d_GM_bend_23 ?_
  refine jt_iload_n d_GM_bend_24 rfl ?_
  refine jt_imul d_GM_bend_25 ?_
  refine jt_iconst d_GM_bend_26 ?_
  refine jt_iadd d_GM_bend_27 ?_
  refine jt_iload_n d_GM_bend_28 rfl ?_
  refine jt_iadd d_GM_bend_29 ?_
  refine gm_ld1 (k := 39) (n := 80) (v := (A 39) (((2 * k) + 2) + i)) d_GM_bend_30 rfl (by decide) (by decide) rfl rfl (by omega) (by omega) (by omega) rfl ?_
  refine jt_topl (fun v3 ev3 => ?_)
  refine jt_lstore (L' := [(0, .ref m), (1, .int (jI k)), (2, .int (jI i)), (3, .int (jI t)), (4, .long (jL v1)), (6, .long (jL v2)), (8, .long (jL v3))]) d_GM_bend_31 (Nat.le_of_ble_eq_true rfl) rfl ?_
  refine jt_aload_n d_GM_bend_33 rfl ?_
  refine gm_gA (k := 39) (a := m + 24) d_GM_bend_34 GM_f130 (by decide) (by decide) rfl ?_
  refine jt_iconst d_GM_bend_37 ?_
  refine jt_iload_n d_GM_bend_38 rfl ?_
  refine jt_imul d_GM_bend_39 ?_
  refine jt_iconst d_GM_bend_40 ?_
  refine jt_iadd d_GM_bend_41 ?_
  refine jt_iload_n d_GM_bend_42 rfl ?_
  refine jt_iadd d_GM_bend_43 ?_
  refine gm_ld1 (k := 39) (n := 80) (v := (A 39) (((2 * k) + 4) + i)) d_GM_bend_44 rfl (by decide) (by decide) rfl rfl (by omega) (by omega) (by omega) rfl ?_
  refine jt_topl (fun v4 ev4 => ?_)
  refine jt_lstore (L' := [(0, .ref m), (1, .int (jI k)), (2, .int (jI i)), (3, .int (jI t)), (4, .long (jL v1)), (6, .long (jL v2)), (8, .long (jL v3)), (10, .long (jL v4))]) d_GM_bend_45 (Nat.le_of_ble_eq_true rfl) rfl ?_
  refine jt_aload_n d_GM_bend_47 rfl ?_
  refine gm_gA (k := 39) (a := m + 24) d_GM_bend_48 GM_f130 (by decide) (by decide) rfl ?_
  refine jt_iconst d_GM_bend_51 ?_
  refine jt_iload_n d_GM_bend_52 rfl ?_
  refine jt_imul d_GM_bend_53 ?_
  refine jt_bipush d_GM_bend_54 (by omega) ?_
  refine jt_iadd d_GM_bend_56 ?_
  refine jt_iload_n d_GM_bend_57 rfl ?_
  refine jt_iadd d_GM_bend_58 ?_
  refine gm_ld1 (k := 39) (n := 80) (v := (A 39) (((2 * k) + 6) + i)) d_GM_bend_59 rfl (by decide) (by decide) rfl rfl (by omega) (by omega) (by omega) rfl ?_
  refine jt_topl (fun v5 ev5 => ?_)
  refine jt_lstore (L' := [(0, .ref m), (1, .int (jI k)), (2, .int (jI i)), (3, .int (jI t)), (4, .long (jL v1)), (6, .long (jL v2)), (8, .long (jL v3)), (10, .long (jL v4)), (12, .long (jL v5))]) d_GM_bend_60 (Nat.le_of_ble_eq_true rfl) rfl ?_
  refine jt_lload d_GM_bend_62 rfl ?_
  refine jt_lload d_GM_bend_64 rfl ?_
  refine jt_lmul d_GM_bend_66 ?_
  refine jt_lload d_GM_bend_67 rfl ?_
  refine jt_lmul d_GM_bend_69 ?_
  refine jt_lload d_GM_bend_70 rfl ?_
  refine jt_lmul d_GM_bend_72 ?_
  refine jt_ldc2 (z := 3) d_GM_bend_73 GM_k272 ?_
  refine jt_lload d_GM_bend_76 rfl ?_
  refine jt_lmul d_GM_bend_78 ?_
  refine jt_lload d_GM_bend_79 rfl ?_
  refine jt_lmul d_GM_bend_81 ?_
  refine jt_iload_n d_GM_bend_82 rfl ?_
  refine jt_i2l d_GM_bend_83 (by unfold jRi; omega) ?_
  refine jt_lmul d_GM_bend_84 ?_
  refine jt_lload d_GM_bend_85 rfl ?_
  refine jt_lmul d_GM_bend_87 ?_
  refine jt_ladd d_GM_bend_88 ?_
  refine jt_ldc2 (z := 3) d_GM_bend_89 GM_k272 ?_
  refine jt_lload d_GM_bend_92 rfl ?_
  refine jt_lmul d_GM_bend_94 ?_
  refine jt_iload_n d_GM_bend_95 rfl ?_
  refine jt_i2l d_GM_bend_96 (by unfold jRi; omega) ?_
  refine jt_lmul d_GM_bend_97 ?_
  refine jt_iload_n d_GM_bend_98 rfl ?_
  refine jt_i2l d_GM_bend_99 (by unfold jRi; omega) ?_
  refine jt_lmul d_GM_bend_100 ?_
  refine jt_lload d_GM_bend_101 rfl ?_
  refine jt_lmul d_GM_bend_103 ?_
  refine jt_ladd d_GM_bend_104 ?_
  refine jt_iload_n d_GM_bend_105 rfl ?_
  refine jt_i2l d_GM_bend_106 (by unfold jRi; omega) ?_
  refine jt_iload_n d_GM_bend_107 rfl ?_
  refine jt_i2l d_GM_bend_108 (by unfold jRi; omega) ?_
  refine jt_lmul d_GM_bend_109 ?_
  refine jt_iload_n d_GM_bend_110 rfl ?_
  refine jt_i2l d_GM_bend_111 (by unfold jRi; omega) ?_
  refine jt_lmul d_GM_bend_112 ?_
  refine jt_lload d_GM_bend_113 rfl ?_
  refine jt_lmul d_GM_bend_115 ?_
  refine jt_ladd d_GM_bend_116 ?_
  exact gm_lret d_GM_bend_117 rfl (⟨by subst ev1; subst ev2; subst ev3; subst ev4; subst ev5; rfl, rfl, rfl⟩)

set_option maxRecDepth 100000 in
set_option maxHeartbeats 4000000 in
theorem c_GM_out (G : jG) (d m : Nat) (v : Int) (lo : Int) (hi : Int) (I : Nat → Int) (A : Nat → Int → Int)  (hv : jRi v) (hlo : jRi lo) (hhi : jRi hi) : gct G Y_GM_out d m [.int (jI v), .int (jI lo), .int (jI hi)] I A (fun rv I2 A2 => (v < lo ∨ hi < v → rv = some (.int (jI 1))) ∧ (¬ (v < lo ∨ hi < v) → rv = some (.int (jI 0))) ∧ I2 = I ∧ A2 = A) := by
  refine gct_of (by decide) (Nat.le_of_ble_eq_true rfl) (fun f0 sz => ?_)
  show jt _ 0 [(0, .ref m), (1, .int (jI v)), (2, .int (jI lo)), (3, .int (jI hi))] [] _ _ _ _
  unfold jRi at hv hlo hhi
  refine jt_iload_n d_GM_out_0 rfl ?_
  refine jt_iload_n d_GM_out_1 rfl ?_
  refine jt_icmp_lt (t := 10) d_GM_out_2 rfl (by unfold jRi; omega) (by unfold jRi; omega) (fun c1 => ?_) (fun c1 => ?_)
  · skip
    refine jt_iconst d_GM_out_10 ?_
    refine jt_goto (t := 15) d_GM_out_11 rfl ?_
    exact gm_ret d_GM_out_15 rfl (jnz (by omega)) (⟨fun z => by first | rfl | (exfalso; omega), fun z => by first | rfl | (exfalso; omega), rfl, rfl⟩)
  · skip
    refine jt_iload_n d_GM_out_5 rfl ?_
    refine jt_iload_n d_GM_out_6 rfl ?_
    refine jt_icmp_le (t := 14) d_GM_out_7 rfl (by unfold jRi; omega) (by unfold jRi; omega) (fun c2 => ?_) (fun c2 => ?_)
    · skip
      refine jt_iconst d_GM_out_14 ?_
      exact gm_ret d_GM_out_15 rfl (jnz (by omega)) (⟨fun z => by first | rfl | (exfalso; omega), fun z => by first | rfl | (exfalso; omega), rfl, rfl⟩)
    · skip
      refine jt_iconst d_GM_out_10 ?_
      refine jt_goto (t := 15) d_GM_out_11 rfl ?_
      exact gm_ret d_GM_out_15 rfl (jnz (by omega)) (⟨fun z => by first | rfl | (exfalso; omega), fun z => by first | rfl | (exfalso; omega), rfl, rfl⟩)
set_option maxRecDepth 100000 in
set_option maxHeartbeats 4000000 in
theorem c_GM_stop (G : jG) (d m : Nat) (e : Int) (w : Int) (I : Nat → Int) (A : Nat → Int → Int)   : gct G Y_GM_stop d m [.int (jI e), .int (jI w)] I A (fun rv I2 A2 => rv = none ∧ I2 = va_up (va_up I 5 e) 6 w ∧ A2 = A) := by
  refine gct_of (by decide) (Nat.le_of_ble_eq_true rfl) (fun f0 sz => ?_)
  show jt _ 0 [(0, .ref m), (1, .int (jI e)), (2, .int (jI w))] [] _ _ _ _
  refine jt_aload_n d_GM_stop_0 rfl ?_
  refine jt_iload_n d_GM_stop_1 rfl ?_
  refine gm_pI (k := 5) (v := e) (J := va_up I 5 e) d_GM_stop_2 (GM_w25 _ rfl) (by decide) rfl rfl rfl ?_
  refine jt_aload_n d_GM_stop_5 rfl ?_
  refine jt_iload_n d_GM_stop_6 rfl ?_
  refine gm_pI (k := 6) (v := w) (J := va_up (va_up I 5 e) 6 w) d_GM_stop_7 (GM_w28 _ rfl) (by decide) rfl rfl rfl ?_
  exact gm_vret d_GM_stop_10 rfl (⟨rfl, rfl, rfl⟩)
set_option maxRecDepth 100000 in
set_option maxHeartbeats 4000000 in
theorem c_GM_wipe (G : jG) (d m : Nat)  (I : Nat → Int) (A : Nat → Int → Int)   : gct G Y_GM_wipe d m [] I A (fun rv I2 A2 => rv = some (.int (jI (I 0))) ∧ I2 = va_up I 0 0 ∧ A2 = A) := by
  refine gct_of (by decide) (Nat.le_of_ble_eq_true rfl) (fun f0 sz => ?_)
  show jt _ 0 [(0, .ref m)] [] _ _ _ _
  refine jt_aload_n d_GM_wipe_0 rfl ?_
  refine gm_gI (k := 0) (v := I 0) d_GM_wipe_1 GM_f7 (by decide) rfl ?_
  refine jt_istore_n (L' := [(0, .ref m), (1, .int (jI (I 0)))]) d_GM_wipe_4 (Nat.le_of_ble_eq_true rfl) rfl ?_
  refine jt_aload_n d_GM_wipe_5 rfl ?_
  refine jt_iconst d_GM_wipe_6 ?_
  refine gm_pI (k := 0) (v := 0) (J := va_up I 0 0) d_GM_wipe_7 (GM_w7 _ rfl) (by decide) rfl rfl rfl ?_
  refine jt_iload_n d_GM_wipe_10 rfl ?_
  exact gm_ret d_GM_wipe_11 rfl rfl (⟨rfl, rfl, rfl⟩)
set_option maxRecDepth 100000 in
set_option maxHeartbeats 4000000 in
theorem c_GM_place (G : jG) (d m : Nat)  (I : Nat → Int) (A : Nat → Int → Int)   : gct G Y_GM_place d m [] I A (fun rv I2 A2 => rv = some (.int (jI (I 3))) ∧ I2 = I ∧ A2 = A) := by
  refine gct_of (by decide) (Nat.le_of_ble_eq_true rfl) (fun f0 sz => ?_)
  show jt _ 0 [(0, .ref m)] [] _ _ _ _
  refine jt_aload_n d_GM_place_0 rfl ?_
  refine gm_gI (k := 3) (v := I 3) d_GM_place_1 GM_f19 (by decide) rfl ?_
  exact gm_ret d_GM_place_4 rfl rfl (⟨rfl, rfl, rfl⟩)
/-- a token of the row is a word -/
abbrev gW (I : Nat → Int) (A : Nat → Int → Int) (k w : Int) : Prop := k < I 1 ∧ A 22 k = 4 ∧ A 23 k = w
set_option maxRecDepth 100000 in
set_option maxHeartbeats 4000000 in
theorem c_GM_isWord (G : jG) (d m : Nat) (k : Int) (w : Int) (I : Nat → Int) (A : Nat → Int → Int)  (h0 : 0 ≤ k) (hk : jRi k) (hw : jRi w) (hr : jRi (I 1)) (ht : k < I 1 → k < 700 ∧ jRi (A 22 k) ∧ jRi (A 23 k)) : gct G Y_GM_isWord d m [.int (jI k), .int (jI w)] I A (fun rv I2 A2 => (gW I A k w → rv = some (.int (jI 1))) ∧ (¬ gW I A k w → rv = some (.int (jI 0))) ∧ I2 = I ∧ A2 = A) := by
  refine gct_of (by decide) (Nat.le_of_ble_eq_true rfl) (fun f0 sz => ?_)
  show jt _ 0 [(0, .ref m), (1, .int (jI k)), (2, .int (jI w))] [] _ _ _ _
  unfold jRi at hk hw hr ht
  refine jt_iload_n d_GM_isWord_0 rfl ?_
  refine jt_aload_n d_GM_isWord_1 rfl ?_
  refine gm_gI (k := 1) (v := I 1) d_GM_isWord_2 GM_f13 (by decide) rfl ?_
  refine jt_icmp_ge (t := 32) d_GM_isWord_5 rfl (by unfold jRi; omega) (by unfold jRi; omega) (fun c1 => ?_) (fun c1 => ?_)
  · skip
    refine jt_iconst d_GM_isWord_32 ?_
    exact gm_ret d_GM_isWord_33 rfl (jnz (by omega)) (⟨fun z => by first | rfl | (exfalso; omega), fun z => by first | rfl | (exfalso; omega), rfl, rfl⟩)
  · skip
    have q := ht (by omega)
    refine jt_aload_n d_GM_isWord_8 rfl ?_
    refine gm_gA (k := 22) (a := m + 7) d_GM_isWord_9 GM_f78 (by decide) (by decide) rfl ?_
    refine jt_iload_n d_GM_isWord_12 rfl ?_
    refine gm_ld0 (k := 22) (n := 700) (v := (A 22) k) d_GM_isWord_13 rfl (by decide) (by decide) rfl rfl (by omega) (by omega) (by omega) rfl ?_
    refine jt_iconst d_GM_isWord_14 ?_
    refine jt_icmp_ne (t := 32) d_GM_isWord_15 rfl (by unfold jRi; omega) (by unfold jRi; omega) (fun c2 => ?_) (fun c2 => ?_)
    · skip
      refine jt_iconst d_GM_isWord_32 ?_
      exact gm_ret d_GM_isWord_33 rfl (jnz (by omega)) (⟨fun z => by first | rfl | (exfalso; omega), fun z => by first | rfl | (exfalso; omega), rfl, rfl⟩)
    · skip
      refine jt_aload_n d_GM_isWord_18 rfl ?_
      refine gm_gA (k := 23) (a := m + 8) d_GM_isWord_19 GM_f81 (by decide) (by decide) rfl ?_
      refine jt_iload_n d_GM_isWord_22 rfl ?_
      refine gm_ld0 (k := 23) (n := 700) (v := (A 23) k) d_GM_isWord_23 rfl (by decide) (by decide) rfl rfl (by omega) (by omega) (by omega) rfl ?_
      refine jt_iload_n d_GM_isWord_24 rfl ?_
      refine jt_icmp_ne (t := 32) d_GM_isWord_25 rfl (by unfold jRi; omega) (by unfold jRi; omega) (fun c3 => ?_) (fun c3 => ?_)
      · skip
        refine jt_iconst d_GM_isWord_32 ?_
        exact gm_ret d_GM_isWord_33 rfl (jnz (by omega)) (⟨fun z => by first | rfl | (exfalso; omega), fun z => by first | rfl | (exfalso; omega), rfl, rfl⟩)
      · skip
        refine jt_iconst d_GM_isWord_28 ?_
        refine jt_goto (t := 33) d_GM_isWord_29 rfl ?_
        exact gm_ret d_GM_isWord_33 rfl (jnz (by omega)) (⟨fun z => by first | rfl | (exfalso; omega), fun z => by first | rfl | (exfalso; omega), rfl, rfl⟩)
set_option maxRecDepth 100000 in
set_option maxHeartbeats 4000000 in
theorem l2_GM_clear (G : jG) (d m : Nat) (f : Int) (I : Nat → Int) (A : Nat → Int → Int)  (h0 : 0 ≤ f) (h1 : f < 400) (f0 : jF) (sz : Nat) : ∀ (n9 : Nat) (i : Int) (W : Int → Int), (0 ≤ i) → (i ≤ 13) → (∀ z, W z = if f * 13 ≤ z ∧ z < f * 13 + i then 0 else A 35 z) → 13 - i < (n9 : Int) → jt (jm G Y_GM_clear (gR d) (gQ m f0 sz (fun rv I2 A2 => rv = none ∧ I2 = I ∧ ∃ W : Int → Int, A2 = va_up A 35 W ∧ ∀ z, W z = if f * 13 ≤ z ∧ z < f * 13 + 13 then 0 else A 35 z))) 2 [(0, .ref m), (1, .int (jI f)), (2, .int (jI i))] [] (gmf m f0 I (va_up A 35 W)) sz 0 0 := by
  intro n9
  induction n9 with
  | zero =>
    intro i W i0 i1 hW hmeas
    exfalso
    omega
  | succ n9 ih =>
    intro i W i0 i1 hW hmeas
    refine jt_iload_n d_GM_clear_2 rfl ?_
    refine jt_bipush d_GM_clear_3 (by omega) ?_
    refine jt_icmp_ge (t := 26) d_GM_clear_5 rfl (by unfold jRi; omega) (by unfold jRi; omega) (fun c101 => ?_) (fun c101 => ?_)
    · skip
      exact gm_vret d_GM_clear_26 rfl (⟨rfl, rfl, W, rfl, fun z => by rw [hW z, show i = 13 by omega]⟩)
    · skip
      refine jt_aload_n d_GM_clear_8 rfl ?_
      refine gm_gA (k := 35) (a := m + 20) d_GM_clear_9 GM_f118 (by decide) (by decide) rfl ?_
      refine jt_iload_n d_GM_clear_12 rfl ?_
      refine jt_bipush d_GM_clear_13 (by omega) ?_
      refine jt_imul d_GM_clear_15 ?_
      refine jt_iload_n d_GM_clear_16 rfl ?_
      refine jt_iadd d_GM_clear_17 ?_
      refine jt_lconst (z := 0) d_GM_clear_18 (by decide) ?_
      refine gm_st1 (k := 35) (n := 5200) (B := va_up A 35 (ju W ((f * 13) + i) 0)) d_GM_clear_19 rfl (by decide) (by decide) rfl rfl (by omega) (by omega) (by omega) (bx_uu _ _ _ _) ?_
      refine jt_iinc (L' := [(0, .ref m), (1, .int (jI f)), (2, .int (jI (i + 1)))]) d_GM_clear_20 rfl (Nat.le_of_ble_eq_true rfl) rfl ?_
      refine jt_goto (t := 2) d_GM_clear_23 rfl ?_
      refine ih _ _ (by omega) (by omega) (fun z => ?_) (by omega)
      unfold ju
      by_cases hz : z = f * 13 + i
      · rw [if_pos hz, if_pos (by omega)]
      · rw [if_neg hz, hW z]
        by_cases hy : f * 13 ≤ z ∧ z < f * 13 + i
        · rw [if_pos hy, if_pos (by omega)]
        · rw [if_neg hy, if_neg (by omega)]
set_option maxRecDepth 100000 in
set_option maxHeartbeats 4000000 in
theorem c_GM_clear (G : jG) (d m : Nat) (f : Int) (I : Nat → Int) (A : Nat → Int → Int)  (h0 : 0 ≤ f) (h1 : f < 400) : gct G Y_GM_clear d m [.int (jI f)] I A (fun rv I2 A2 => rv = none ∧ I2 = I ∧ ∃ W : Int → Int, A2 = va_up A 35 W ∧ ∀ z, W z = if f * 13 ≤ z ∧ z < f * 13 + 13 then 0 else A 35 z) := by
  refine gct_of (by decide) (Nat.le_of_ble_eq_true rfl) (fun f0 sz => ?_)
  show jt _ 0 [(0, .ref m), (1, .int (jI f))] [] _ _ _ _
  refine jt_iconst d_GM_clear_0 ?_
  refine jt_istore_n (L' := [(0, .ref m), (1, .int (jI f)), (2, .int (jI 0))]) d_GM_clear_1 (Nat.le_of_ble_eq_true rfl) rfl ?_
  refine gm_eA (B := va_up A 35 (A 35)) (gup_id A 35) ?_
  exact l2_GM_clear G d m f I A  h0 h1 f0 sz 14 _ _ (by omega) (by omega) (fun z => by rw [if_neg (by omega)]) (by omega)

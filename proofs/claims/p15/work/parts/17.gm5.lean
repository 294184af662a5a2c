set_option maxRecDepth 100000 in
set_option maxHeartbeats 4000000 in
theorem l71_GM_macro (G : jG) (d m : Nat) (q : Int) (n : Int) (I : Nat → Int) (A : Nat → Int → Int)  (hq : jRi q) (hn : jRi n) (s0 : 0 ≤ I 0) (s1 : I 0 ≤ 120) (ht : ∀ k, 0 ≤ k → k < I 0 → gtok (A 16 k) (A 17 k)) (f0 : jF) (sz : Nat) : ∀ (n9 : Nat) (k : Int) (X : Int → Int) (Y : Int → Int), (0 ≤ q ∧ q ≤ 5 ∧ 0 ≤ n ∧ n ≤ 3 ∧ I 0 ≤ 40) → (¬ (∃ k, 0 ≤ k ∧ k < I 0 ∧ A 16 k = 2 ∧ n ≤ A 17 k)) → (0 ≤ k) → (k ≤ I 0) → (∀ z, X z = if q * 40 ≤ z ∧ z < q * 40 + k then A 16 (z - q * 40) else A 18 z) → (∀ z, Y z = if q * 40 ≤ z ∧ z < q * 40 + k then A 17 (z - q * 40) else A 19 z) → I 0 - k < (n9 : Int) → jt (jm G Y_GM_macro (gR (d + 1)) (gQ m f0 sz (fun rv I2 A2 => ((q < 0 ∨ 5 < q ∨ n < 0 ∨ 3 < n ∨ 40 < I 0) ∨ (∃ k, 0 ≤ k ∧ k < I 0 ∧ A 16 k = 2 ∧ n ≤ A 17 k) → rv = some (.int (jI (-1))) ∧ I2 = I ∧ A2 = A) ∧ (¬ ((q < 0 ∨ 5 < q ∨ n < 0 ∨ 3 < n ∨ 40 < I 0) ∨ (∃ k, 0 ≤ k ∧ k < I 0 ∧ A 16 k = 2 ∧ n ≤ A 17 k)) → rv = some (.int (jI 0)) ∧ I2 = va_up I 0 0 ∧ ∃ X Y : Int → Int, A2 = va_up (va_up (va_up (va_up A 18 X) 19 Y) 20 (ju (A 20) q (I 0))) 21 (ju (A 21) q n) ∧ (∀ z, X z = if q * 40 ≤ z ∧ z < q * 40 + I 0 then A 16 (z - q * 40) else A 18 z) ∧ ∀ z, Y z = if q * 40 ≤ z ∧ z < q * 40 + I 0 then A 17 (z - q * 40) else A 19 z)))) 71 [(0, .ref m), (1, .int (jI q)), (2, .int (jI n)), (3, .int (jI k))] [] (gmf m f0 I (va_up (va_up A 18 X) 19 Y)) sz 0 0 := by
  unfold jRi at hq hn
  intro n9
  induction n9 with
  | zero =>
    intro k X Y b0 na k0 k1 hX hY hmeas
    exfalso
    omega
  | succ n9 ih =>
    intro k X Y b0 na k0 k1 hX hY hmeas
    refine jt_iload_n d_GM_macro_71 rfl ?_
    refine jt_aload_n d_GM_macro_72 rfl ?_
    refine gm_gI (k := 0) (v := I 0) d_GM_macro_73 GM_f7 (by decide) rfl ?_
    refine jt_icmp_ge (t := 119) d_GM_macro_76 rfl (by unfold jRi; omega) (by unfold jRi; omega) (fun c101 => ?_) (fun c101 => ?_)
    · skip
      refine jt_aload_n d_GM_macro_119 rfl ?_
      refine gm_gA (k := 20) (a := m + 5) d_GM_macro_120 GM_f72 (by decide) (by decide) rfl ?_
      refine jt_iload_n d_GM_macro_123 rfl ?_
      refine jt_aload_n d_GM_macro_124 rfl ?_
      refine gm_gI (k := 0) (v := I 0) d_GM_macro_125 GM_f7 (by decide) rfl ?_
      refine gm_st0 (k := 20) (n := 6) (B := va_up (va_up (va_up A 18 X) 19 Y) 20 (ju (A 20) q (I 0))) d_GM_macro_128 rfl (by decide) (by decide) rfl rfl (by omega) (by omega) (by omega) rfl ?_
      refine jt_aload_n d_GM_macro_129 rfl ?_
      refine gm_gA (k := 21) (a := m + 6) d_GM_macro_130 GM_f75 (by decide) (by decide) rfl ?_
      refine jt_iload_n d_GM_macro_133 rfl ?_
      refine jt_iload_n d_GM_macro_134 rfl ?_
      refine gm_st0 (k := 21) (n := 6) (B := va_up (va_up (va_up (va_up A 18 X) 19 Y) 20 (ju (A 20) q (I 0))) 21 (ju (A 21) q n)) d_GM_macro_135 rfl (by decide) (by decide) rfl rfl (by omega) (by omega) (by omega) rfl ?_
      refine jt_aload_n d_GM_macro_136 rfl ?_
      refine jt_iconst d_GM_macro_137 ?_
      refine gm_pI (k := 0) (v := 0) (J := va_up I 0 0) d_GM_macro_138 (GM_w7 _ rfl) (by decide) rfl rfl rfl ?_
      refine jt_iconst d_GM_macro_141 ?_
      exact gm_ret d_GM_macro_142 rfl rfl (⟨fun h => absurd h (by
      intro h2
      rcases h2 with h2 | h2
      · omega
      · exact na h2), fun _ => ⟨rfl, rfl, X, Y, rfl, fun z => by rw [hX z, show k = I 0 by omega], fun z => by rw [hY z, show k = I 0 by omega]⟩⟩)
    · skip
      refine jt_aload_n d_GM_macro_79 rfl ?_
      refine gm_gA (k := 18) (a := m + 3) d_GM_macro_80 GM_f66 (by decide) (by decide) rfl ?_
      refine jt_iload_n d_GM_macro_83 rfl ?_
      refine jt_bipush d_GM_macro_84 (by omega) ?_
      refine jt_imul d_GM_macro_86 ?_
      refine jt_iload_n d_GM_macro_87 rfl ?_
      refine jt_iadd d_GM_macro_88 ?_
      refine jt_aload_n d_GM_macro_89 rfl ?_
      refine gm_gA (k := 16) (a := m + 1) d_GM_macro_90 GM_f59 (by decide) (by decide) rfl ?_
      refine jt_iload_n d_GM_macro_93 rfl ?_
      refine gm_ld0 (k := 16) (n := 120) (v := (A 16) k) d_GM_macro_94 rfl (by decide) (by decide) rfl rfl (by omega) (by omega) (by omega) rfl ?_
      refine jt_topi (fun v102 ev102 => ?_)
      refine gm_st0 (k := 18) (n := 240) (B := va_up (va_up A 18 (ju X ((q * 40) + k) v102)) 19 Y) d_GM_macro_95 rfl (by decide) (by decide) rfl rfl (by omega) (by omega) (by omega) (gup3 _ _ _ _ (by decide)) ?_
      refine jt_aload_n d_GM_macro_96 rfl ?_
      refine gm_gA (k := 19) (a := m + 4) d_GM_macro_97 GM_f69 (by decide) (by decide) rfl ?_
      refine jt_iload_n d_GM_macro_100 rfl ?_
      refine jt_bipush d_GM_macro_101 (by omega) ?_
      refine jt_imul d_GM_macro_103 ?_
      refine jt_iload_n d_GM_macro_104 rfl ?_
      refine jt_iadd d_GM_macro_105 ?_
      refine jt_aload_n d_GM_macro_106 rfl ?_
      refine gm_gA (k := 17) (a := m + 2) d_GM_macro_107 GM_f63 (by decide) (by decide) rfl ?_
      refine jt_iload_n d_GM_macro_110 rfl ?_
      refine gm_ld0 (k := 17) (n := 120) (v := (A 17) k) d_GM_macro_111 rfl (by decide) (by decide) rfl rfl (by omega) (by omega) (by omega) rfl ?_
      refine jt_topi (fun v103 ev103 => ?_)
      refine gm_st0 (k := 19) (n := 240) (B := va_up (va_up A 18 (ju X ((q * 40) + k) v102)) 19 (ju Y ((q * 40) + k) v103)) d_GM_macro_112 rfl (by decide) (by decide) rfl rfl (by omega) (by omega) (by omega) (bx_uu _ _ _ _) ?_
      refine jt_iinc (L' := [(0, .ref m), (1, .int (jI q)), (2, .int (jI n)), (3, .int (jI (k + 1)))]) d_GM_macro_113 rfl (Nat.le_of_ble_eq_true rfl) rfl ?_
      refine jt_goto (t := 71) d_GM_macro_116 rfl ?_
      refine ih _ _ _ b0 na (by omega) (by omega) (fun z => ?_) (fun z => ?_) (by omega)
      · unfold ju
        by_cases hz : z = q * 40 + k
        · rw [if_pos hz, if_pos (by omega), ev102, hz, show q * 40 + k - q * 40 = k by omega]
        · rw [if_neg hz, hX z]
          by_cases hy : q * 40 ≤ z ∧ z < q * 40 + k
          · rw [if_pos hy, if_pos (by omega)]
          · rw [if_neg hy, if_neg (by omega)]
      · unfold ju
        by_cases hz : z = q * 40 + k
        · rw [if_pos hz, if_pos (by omega), ev103, hz, show q * 40 + k - q * 40 = k by omega]
        · rw [if_neg hz, hY z]
          by_cases hy : q * 40 ≤ z ∧ z < q * 40 + k
          · rw [if_pos hy, if_pos (by omega)]
          · rw [if_neg hy, if_neg (by omega)]
set_option maxRecDepth 100000 in
set_option maxHeartbeats 4000000 in
theorem l33_GM_macro (G : jG) (d m : Nat) (q : Int) (n : Int) (I : Nat → Int) (A : Nat → Int → Int)  (hq : jRi q) (hn : jRi n) (s0 : 0 ≤ I 0) (s1 : I 0 ≤ 120) (ht : ∀ k, 0 ≤ k → k < I 0 → gtok (A 16 k) (A 17 k)) (f0 : jF) (sz : Nat) : ∀ (n9 : Nat) (k : Int), (0 ≤ q ∧ q ≤ 5 ∧ 0 ≤ n ∧ n ≤ 3 ∧ I 0 ≤ 40) → (0 ≤ k) → (k ≤ I 0) → (∀ j, 0 ≤ j → j < k → ¬ (A 16 j = 2 ∧ n ≤ A 17 j)) → I 0 - k < (n9 : Int) → jt (jm G Y_GM_macro (gR (d + 1)) (gQ m f0 sz (fun rv I2 A2 => ((q < 0 ∨ 5 < q ∨ n < 0 ∨ 3 < n ∨ 40 < I 0) ∨ (∃ k, 0 ≤ k ∧ k < I 0 ∧ A 16 k = 2 ∧ n ≤ A 17 k) → rv = some (.int (jI (-1))) ∧ I2 = I ∧ A2 = A) ∧ (¬ ((q < 0 ∨ 5 < q ∨ n < 0 ∨ 3 < n ∨ 40 < I 0) ∨ (∃ k, 0 ≤ k ∧ k < I 0 ∧ A 16 k = 2 ∧ n ≤ A 17 k)) → rv = some (.int (jI 0)) ∧ I2 = va_up I 0 0 ∧ ∃ X Y : Int → Int, A2 = va_up (va_up (va_up (va_up A 18 X) 19 Y) 20 (ju (A 20) q (I 0))) 21 (ju (A 21) q n) ∧ (∀ z, X z = if q * 40 ≤ z ∧ z < q * 40 + I 0 then A 16 (z - q * 40) else A 18 z) ∧ ∀ z, Y z = if q * 40 ≤ z ∧ z < q * 40 + I 0 then A 17 (z - q * 40) else A 19 z)))) 33 [(0, .ref m), (1, .int (jI q)), (2, .int (jI n)), (3, .int (jI k))] [] (gmf m f0 I A) sz 0 0 := by
  unfold jRi at hq hn
  intro n9
  induction n9 with
  | zero =>
    intro k b0 k0 k1 hk hmeas
    exfalso
    omega
  | succ n9 ih =>
    intro k b0 k0 k1 hk hmeas
    refine jt_iload_n d_GM_macro_33 rfl ?_
    refine jt_aload_n d_GM_macro_34 rfl ?_
    refine gm_gI (k := 0) (v := I 0) d_GM_macro_35 GM_f7 (by decide) rfl ?_
    refine jt_icmp_ge (t := 69) d_GM_macro_38 rfl (by unfold jRi; omega) (by unfold jRi; omega) (fun c201 => ?_) (fun c201 => ?_)
    · skip
      refine jt_iconst d_GM_macro_69 ?_
      refine jt_istore_n (L' := [(0, .ref m), (1, .int (jI q)), (2, .int (jI n)), (3, .int (jI 0))]) d_GM_macro_70 (Nat.le_of_ble_eq_true rfl) rfl ?_
      have na : ¬ (∃ k, 0 ≤ k ∧ k < I 0 ∧ A 16 k = 2 ∧ n ≤ A 17 k) := by
        intro h
        obtain ⟨j, a, b, c, e⟩ := h
        exact hk j a (by omega) ⟨c, e⟩
      refine gm_eA (B := va_up (va_up A 18 (A 18)) 19 (A 19)) ((gup_id A 18).trans (gup_id (va_up A 18 (A 18)) 19)) ?_
      exact l71_GM_macro G d m q n I A  hq hn s0 s1 ht f0 sz 42 _ _ _ (by omega) na (by omega) (by omega) (fun z => by rw [if_neg (by omega)]) (fun z => by rw [if_neg (by omega)]) (by omega)
    · skip
      have q5 := ht k (by omega) (by omega)
      unfold gtok at q5
      refine jt_aload_n d_GM_macro_41 rfl ?_
      refine gm_gA (k := 16) (a := m + 1) d_GM_macro_42 GM_f59 (by decide) (by decide) rfl ?_
      refine jt_iload_n d_GM_macro_45 rfl ?_
      refine gm_ld0 (k := 16) (n := 120) (v := (A 16) k) d_GM_macro_46 rfl (by decide) (by decide) rfl rfl (by omega) (by omega) (by omega) rfl ?_
      refine jt_topi (fun v202 ev202 => ?_)
      refine jt_iconst d_GM_macro_47 ?_
      refine jt_icmp_ne (t := 63) d_GM_macro_48 rfl (by unfold jRi; omega) (by unfold jRi; omega) (fun c203 => ?_) (fun c203 => ?_)
      · skip
        refine jt_iinc (L' := [(0, .ref m), (1, .int (jI q)), (2, .int (jI n)), (3, .int (jI (k + 1)))]) d_GM_macro_63 rfl (Nat.le_of_ble_eq_true rfl) rfl ?_
        refine jt_goto (t := 33) d_GM_macro_66 rfl ?_
        refine ih _ b0 (by omega) (by omega) (fun j a b => ?_) (by omega)
        by_cases hj : j = k
        · rw [hj]; omega
        · exact hk j a (by omega)
      · skip
        refine jt_aload_n d_GM_macro_51 rfl ?_
        refine gm_gA (k := 17) (a := m + 2) d_GM_macro_52 GM_f63 (by decide) (by decide) rfl ?_
        refine jt_iload_n d_GM_macro_55 rfl ?_
        refine gm_ld0 (k := 17) (n := 120) (v := (A 17) k) d_GM_macro_56 rfl (by decide) (by decide) rfl rfl (by omega) (by omega) (by omega) rfl ?_
        refine jt_topi (fun v204 ev204 => ?_)
        refine jt_iload_n d_GM_macro_57 rfl ?_
        refine jt_icmp_lt (t := 63) d_GM_macro_58 rfl (by unfold jRi; omega) (by unfold jRi; omega) (fun c205 => ?_) (fun c205 => ?_)
        · skip
          refine jt_iinc (L' := [(0, .ref m), (1, .int (jI q)), (2, .int (jI n)), (3, .int (jI (k + 1)))]) d_GM_macro_63 rfl (Nat.le_of_ble_eq_true rfl) rfl ?_
          refine jt_goto (t := 33) d_GM_macro_66 rfl ?_
          refine ih _ b0 (by omega) (by omega) (fun j a b => ?_) (by omega)
          by_cases hj : j = k
          · rw [hj]; omega
          · exact hk j a (by omega)
        · skip
          refine jt_iconst d_GM_macro_61 ?_
          exact gm_ret d_GM_macro_62 rfl rfl (⟨fun _ => ⟨rfl, rfl, rfl⟩, fun h => absurd (Or.inr ⟨k, by omega, by omega, by omega, by omega⟩) h⟩)
set_option maxRecDepth 100000 in
set_option maxHeartbeats 4000000 in
theorem c_GM_macro (G : jG) (d m : Nat) (q : Int) (n : Int) (I : Nat → Int) (A : Nat → Int → Int)  (hq : jRi q) (hn : jRi n) (s0 : 0 ≤ I 0) (s1 : I 0 ≤ 120) (ht : ∀ k, 0 ≤ k → k < I 0 → gtok (A 16 k) (A 17 k)) : gct G Y_GM_macro (d + 1) m [.int (jI q), .int (jI n)] I A (fun rv I2 A2 => ((q < 0 ∨ 5 < q ∨ n < 0 ∨ 3 < n ∨ 40 < I 0) ∨ (∃ k, 0 ≤ k ∧ k < I 0 ∧ A 16 k = 2 ∧ n ≤ A 17 k) → rv = some (.int (jI (-1))) ∧ I2 = I ∧ A2 = A) ∧ (¬ ((q < 0 ∨ 5 < q ∨ n < 0 ∨ 3 < n ∨ 40 < I 0) ∨ (∃ k, 0 ≤ k ∧ k < I 0 ∧ A 16 k = 2 ∧ n ≤ A 17 k)) → rv = some (.int (jI 0)) ∧ I2 = va_up I 0 0 ∧ ∃ X Y : Int → Int, A2 = va_up (va_up (va_up (va_up A 18 X) 19 Y) 20 (ju (A 20) q (I 0))) 21 (ju (A 21) q n) ∧ (∀ z, X z = if q * 40 ≤ z ∧ z < q * 40 + I 0 then A 16 (z - q * 40) else A 18 z) ∧ ∀ z, Y z = if q * 40 ≤ z ∧ z < q * 40 + I 0 then A 17 (z - q * 40) else A 19 z)) := by
  refine gct_of (by decide) (Nat.le_of_ble_eq_true rfl) (fun f0 sz => ?_)
  show jt _ 0 [(0, .ref m), (1, .int (jI q)), (2, .int (jI n))] [] _ _ _ _
  unfold jRi at hq hn
  refine jt_aload_n d_GM_macro_0 rfl ?_
  refine jt_iload_n d_GM_macro_1 rfl ?_
  refine jt_iconst d_GM_macro_2 ?_
  refine jt_iconst d_GM_macro_3 ?_
  refine gct_call (Y := Y_GM_out) (As := [.int (jI q), .int (jI 0), .int (jI 5)]) (rest := []) d_GM_macro_4 GM_c152 yk_GM_out yv_GM_out rfl (Nat.le_of_ble_eq_true rfl) rfl rfl (Nat.le_of_ble_eq_true rfl) (c_GM_out G _ m q 0 5 I A (by unfold jRi; omega) (by unfold jRi; omega) (by unfold jRi; omega)) (fun rvq1 Iq1 Aq1 hq1 => ?_)
  obtain ⟨haq1, hbq1, hIq1, hAq1⟩ := hq1
  rw [hIq1, hAq1]
  by_cases gq1 : q < 0 ∨ 5 < q
  · skip
    obtain rfl := haq1 gq1
    show jt _ 7 [(0, .ref m), (1, .int (jI q)), (2, .int (jI n))] [.int (jI 1)] (gmf m f0 I A) _ _ _
    refine jt_if_ne (t := 29) d_GM_macro_7 rfl (by unfold jRi; omega) (fun c2 => ?_) (fun c2 => ?_)
    · skip
      refine jt_iconst d_GM_macro_29 ?_
      exact gm_ret d_GM_macro_30 rfl rfl (⟨fun _ => ⟨rfl, rfl, rfl⟩, fun h => absurd (Or.inl (by omega)) h⟩)
    · skip
      exfalso
      omega
  · skip
    obtain rfl := hbq1 gq1
    show jt _ 7 [(0, .ref m), (1, .int (jI q)), (2, .int (jI n))] [.int (jI 0)] (gmf m f0 I A) _ _ _
    refine jt_if_ne (t := 29) d_GM_macro_7 rfl (by unfold jRi; omega) (fun c3 => ?_) (fun c3 => ?_)
    · skip
      exfalso
      omega
    · skip
      refine jt_aload_n d_GM_macro_10 rfl ?_
      refine jt_iload_n d_GM_macro_11 rfl ?_
      refine jt_iconst d_GM_macro_12 ?_
      refine jt_iconst d_GM_macro_13 ?_
      refine gct_call (Y := Y_GM_out) (As := [.int (jI n), .int (jI 0), .int (jI 3)]) (rest := []) d_GM_macro_14 GM_c152 yk_GM_out yv_GM_out rfl (Nat.le_of_ble_eq_true rfl) rfl rfl (Nat.le_of_ble_eq_true rfl) (c_GM_out G _ m n 0 3 I A (by unfold jRi; omega) (by unfold jRi; omega) (by unfold jRi; omega)) (fun rvq4 Iq4 Aq4 hq4 => ?_)
      obtain ⟨haq4, hbq4, hIq4, hAq4⟩ := hq4
      rw [hIq4, hAq4]
      by_cases gq4 : n < 0 ∨ 3 < n
      · skip
        obtain rfl := haq4 gq4
        show jt _ 17 [(0, .ref m), (1, .int (jI q)), (2, .int (jI n))] [.int (jI 1)] (gmf m f0 I A) _ _ _
        refine jt_if_ne (t := 29) d_GM_macro_17 rfl (by unfold jRi; omega) (fun c5 => ?_) (fun c5 => ?_)
        · skip
          refine jt_iconst d_GM_macro_29 ?_
          exact gm_ret d_GM_macro_30 rfl rfl (⟨fun _ => ⟨rfl, rfl, rfl⟩, fun h => absurd (Or.inl (by omega)) h⟩)
        · skip
          exfalso
          omega
      · skip
        obtain rfl := hbq4 gq4
        show jt _ 17 [(0, .ref m), (1, .int (jI q)), (2, .int (jI n))] [.int (jI 0)] (gmf m f0 I A) _ _ _
        refine jt_if_ne (t := 29) d_GM_macro_17 rfl (by unfold jRi; omega) (fun c6 => ?_) (fun c6 => ?_)
        · skip
          exfalso
          omega
        · skip
          refine jt_aload_n d_GM_macro_20 rfl ?_
          refine gm_gI (k := 0) (v := I 0) d_GM_macro_21 GM_f7 (by decide) rfl ?_
          refine jt_bipush d_GM_macro_24 (by omega) ?_
          refine jt_icmp_le (t := 31) d_GM_macro_26 rfl (by unfold jRi; omega) (by unfold jRi; omega) (fun c7 => ?_) (fun c7 => ?_)
          · skip
            refine jt_iconst d_GM_macro_31 ?_
            refine jt_istore_n (L' := [(0, .ref m), (1, .int (jI q)), (2, .int (jI n)), (3, .int (jI 0))]) d_GM_macro_32 (Nat.le_of_ble_eq_true rfl) rfl ?_
            exact l33_GM_macro G d m q n I A  hq hn s0 s1 ht f0 sz 42 _ (by omega) (by omega) (by omega) (fun j a b => by omega) (by omega)
          · skip
            refine jt_iconst d_GM_macro_29 ?_
            exact gm_ret d_GM_macro_30 rfl rfl (⟨fun _ => ⟨rfl, rfl, rfl⟩, fun h => absurd (Or.inl (by omega)) h⟩)

set_option maxRecDepth 100000 in
set_option maxHeartbeats 4000000 in
theorem l43_GM_replaceIn (G : jG) (d m : Nat) (f : Int) (v : Int) (g : Int) (I : Nat → Int) (A : Nat → Int → Int)  (h0 : 0 ≤ f) (h1 : f < 400) (w0 : 0 ≤ v) (w1 : v < 12) (g0 : 0 ≤ g) (g1 : g < 400) (hne : f ≠ g) (hr : jRl (A 35 (f * 13 + v))) (f0 : jF) (sz : Nat) (t hi lo : Int) (ehi : hi = A 35 (f * 13 + v) / 65536) (elo : lo = A 35 (f * 13 + v) % 65536) : ∀ (n9 : Nat) (i : Int) (X : Int → Int) (Y : Int → Int), (0 ≤ i) → (i ≤ 13) → (∀ z, X z = if 0 ≤ z ∧ z < i then A 33 z + hi * A 35 (g * 13 + z) else A 33 z) → (∀ z, Y z = if 0 ≤ z ∧ z < i then A 34 z + lo * A 35 (g * 13 + z) else A 34 z) → 13 - i < (n9 : Int) → jt (jm G Y_GM_replaceIn (gR d) (gQ m f0 sz (fun rv I2 A2 => rv = none ∧ I2 = I ∧ ∃ X Y : Int → Int, A2 = va_up (va_up (va_up A 35 (ju (A 35) (f * 13 + v) 0)) 33 X) 34 Y ∧ (∀ z, X z = if 0 ≤ z ∧ z < 13 then A 33 z + A 35 (f * 13 + v) / 65536 * A 35 (g * 13 + z) else A 33 z) ∧ ∀ z, Y z = if 0 ≤ z ∧ z < 13 then A 34 z + A 35 (f * 13 + v) % 65536 * A 35 (g * 13 + z) else A 34 z))) 43 [(0, .ref m), (1, .int (jI f)), (2, .int (jI v)), (3, .int (jI g)), (4, .long (jL t)), (6, .long (jL hi)), (8, .long (jL lo)), (10, .int (jI i))] [] (gmf m f0 I (va_up (va_up (va_up A 35 (ju (A 35) (f * 13 + v) 0)) 33 X) 34 Y)) sz 0 0 := by
  intro n9
  induction n9 with
  | zero =>
    intro i X Y i0 i1 hX hY hmeas
    exfalso
    omega
  | succ n9 ih =>
    intro i X Y i0 i1 hX hY hmeas
    refine jt_iload d_GM_replaceIn_43 rfl ?_
    refine jt_bipush d_GM_replaceIn_45 (by omega) ?_
    refine jt_icmp_ge (t := 106) d_GM_replaceIn_47 rfl (by unfold jRi; omega) (by unfold jRi; omega) (fun c101 => ?_) (fun c101 => ?_)
    · skip
      exact gm_vret d_GM_replaceIn_106 rfl (by
    obtain rfl : i = 13 := by omega
    subst ehi
    subst elo
    exact ⟨rfl, rfl, X, Y, rfl, hX, hY⟩)
    · skip
      refine jt_aload_n d_GM_replaceIn_50 rfl ?_
      refine gm_gA (k := 33) (a := m + 18) d_GM_replaceIn_51 GM_f112 (by decide) (by decide) rfl ?_
      refine jt_iload d_GM_replaceIn_54 rfl ?_
      refine jt_dup2 d_GM_replaceIn_56 rfl rfl ?_
      refine gm_ld1 (k := 33) (n := 13) (v := X i) d_GM_replaceIn_57 rfl (by decide) (by decide) rfl rfl (by omega) (by omega) (by omega) rfl ?_
      refine jt_lload d_GM_replaceIn_58 rfl ?_
      refine jt_aload_n d_GM_replaceIn_60 rfl ?_
      refine gm_gA (k := 35) (a := m + 20) d_GM_replaceIn_61 GM_f118 (by decide) (by decide) rfl ?_
      refine jt_iload_n d_GM_replaceIn_64 rfl ?_
      refine jt_bipush d_GM_replaceIn_65 (by omega) ?_
      refine jt_imul d_GM_replaceIn_67 ?_
      refine jt_iload d_GM_replaceIn_68 rfl ?_
      refine jt_iadd d_GM_replaceIn_70 ?_
      refine gm_ld1 (k := 35) (n := 5200) (v := (ju (A 35) (f * 13 + v) 0) ((g * 13) + i)) d_GM_replaceIn_71 rfl (by decide) (by decide) rfl rfl (by omega) (by omega) (by omega) rfl ?_
      refine jt_lmul d_GM_replaceIn_72 ?_
      refine jt_ladd d_GM_replaceIn_73 ?_
      refine jt_topl (fun v102 ev102 => ?_)
      refine gm_st1 (k := 33) (n := 13) (B := va_up (va_up (va_up A 35 (ju (A 35) (f * 13 + v) 0)) 33 (ju X i v102)) 34 Y) d_GM_replaceIn_74 rfl (by decide) (by decide) rfl rfl (by omega) (by omega) (by omega) (gup3 _ _ _ _ (by decide)) ?_
      refine jt_aload_n d_GM_replaceIn_75 rfl ?_
      refine gm_gA (k := 34) (a := m + 19) d_GM_replaceIn_76 GM_f115 (by decide) (by decide) rfl ?_
      refine jt_iload d_GM_replaceIn_79 rfl ?_
      refine jt_dup2 d_GM_replaceIn_81 rfl rfl ?_
      refine gm_ld1 (k := 34) (n := 13) (v := Y i) d_GM_replaceIn_82 rfl (by decide) (by decide) rfl rfl (by omega) (by omega) (by omega) rfl ?_
      refine jt_lload d_GM_replaceIn_83 rfl ?_
      refine jt_aload_n d_GM_replaceIn_85 rfl ?_
      refine gm_gA (k := 35) (a := m + 20) d_GM_replaceIn_86 GM_f118 (by decide) (by decide) rfl ?_
      refine jt_iload_n d_GM_replaceIn_89 rfl ?_
      refine jt_bipush d_GM_replaceIn_90 (by omega) ?_
      refine jt_imul d_GM_replaceIn_92 ?_
      refine jt_iload d_GM_replaceIn_93 rfl ?_
      refine jt_iadd d_GM_replaceIn_95 ?_
      refine gm_ld1 (k := 35) (n := 5200) (v := (ju (A 35) (f * 13 + v) 0) ((g * 13) + i)) d_GM_replaceIn_96 rfl (by decide) (by decide) rfl rfl (by omega) (by omega) (by omega) rfl ?_
      refine jt_lmul d_GM_replaceIn_97 ?_
      refine jt_ladd d_GM_replaceIn_98 ?_
      refine jt_topl (fun v103 ev103 => ?_)
      refine gm_st1 (k := 34) (n := 13) (B := va_up (va_up (va_up A 35 (ju (A 35) (f * 13 + v) 0)) 33 (ju X i v102)) 34 (ju Y i v103)) d_GM_replaceIn_99 rfl (by decide) (by decide) rfl rfl (by omega) (by omega) (by omega) (bx_uu _ _ _ _) ?_
      refine jt_iinc (L' := [(0, .ref m), (1, .int (jI f)), (2, .int (jI v)), (3, .int (jI g)), (4, .long (jL t)), (6, .long (jL hi)), (8, .long (jL lo)), (10, .int (jI (i + 1)))]) d_GM_replaceIn_100 rfl (Nat.le_of_ble_eq_true rfl) rfl ?_
      refine jt_goto (t := 43) d_GM_replaceIn_103 rfl ?_
      refine ih _ _ _ (by omega) (by omega) (fun z => ?_) (fun z => ?_) (by omega)
      · unfold ju
        by_cases hz : z = i
        · rw [if_pos hz, if_pos (by omega), ev102, hX i, if_neg (by omega), ju_ne _ _ (show g * 13 + i ≠ f * 13 + v by omega), hz]
        · rw [if_neg hz, hX z]
          by_cases hy : 0 ≤ z ∧ z < i
          · rw [if_pos hy, if_pos (by omega)]
          · rw [if_neg hy, if_neg (by omega)]
      · unfold ju
        by_cases hz : z = i
        · rw [if_pos hz, if_pos (by omega), ev103, hY i, if_neg (by omega), ju_ne _ _ (show g * 13 + i ≠ f * 13 + v by omega), hz]
        · rw [if_neg hz, hY z]
          by_cases hy : 0 ≤ z ∧ z < i
          · rw [if_pos hy, if_pos (by omega)]
          · rw [if_neg hy, if_neg (by omega)]
set_option maxRecDepth 100000 in
set_option maxHeartbeats 4000000 in
theorem c_GM_replaceIn (G : jG) (d m : Nat) (f : Int) (v : Int) (g : Int) (I : Nat → Int) (A : Nat → Int → Int)  (h0 : 0 ≤ f) (h1 : f < 400) (w0 : 0 ≤ v) (w1 : v < 12) (g0 : 0 ≤ g) (g1 : g < 400) (hne : f ≠ g) (hr : jRl (A 35 (f * 13 + v))) : gct G Y_GM_replaceIn d m [.int (jI f), .int (jI v), .int (jI g)] I A (fun rv I2 A2 => rv = none ∧ I2 = I ∧ ∃ X Y : Int → Int, A2 = va_up (va_up (va_up A 35 (ju (A 35) (f * 13 + v) 0)) 33 X) 34 Y ∧ (∀ z, X z = if 0 ≤ z ∧ z < 13 then A 33 z + A 35 (f * 13 + v) / 65536 * A 35 (g * 13 + z) else A 33 z) ∧ ∀ z, Y z = if 0 ≤ z ∧ z < 13 then A 34 z + A 35 (f * 13 + v) % 65536 * A 35 (g * 13 + z) else A 34 z) := by
  refine gct_of (by decide) (Nat.le_of_ble_eq_true rfl) (fun f0 sz => ?_)
  show jt _ 0 [(0, .ref m), (1, .int (jI f)), (2, .int (jI v)), (3, .int (jI g))] [] _ _ _ _
  refine jt_aload_n d_GM_replaceIn_0 rfl ?_
  refine gm_gA (k := 35) (a := m + 20) d_GM_replaceIn_1 GM_f118 (by decide) (by decide) rfl ?_
  refine jt_iload_n d_GM_replaceIn_4 rfl ?_
  refine jt_bipush d_GM_replaceIn_5 (by omega) ?_
  refine jt_imul d_GM_replaceIn_7 ?_
  refine jt_iload_n d_GM_replaceIn_8 rfl ?_
  refine jt_iadd d_GM_replaceIn_9 ?_
  refine gm_ld1 (k := 35) (n := 5200) (v := (A 35) ((f * 13) + v)) d_GM_replaceIn_10 rfl (by decide) (by decide) rfl rfl (by omega) (by omega) (by omega) rfl ?_
  refine jt_topl (fun v1 ev1 => ?_)
  refine jt_lstore (L' := [(0, .ref m), (1, .int (jI f)), (2, .int (jI v)), (3, .int (jI g)), (4, .long (jL v1))]) d_GM_replaceIn_11 (Nat.le_of_ble_eq_true rfl) rfl ?_
  refine jt_lload d_GM_replaceIn_13 rfl ?_
  refine jt_bipush d_GM_replaceIn_15 (by omega) ?_
  refine jt_lshr16 d_GM_replaceIn_17 (by rw [ev1]; exact hr) ?_
  refine jt_topl (fun v2 ev2 => ?_)
  refine jt_lstore (L' := [(0, .ref m), (1, .int (jI f)), (2, .int (jI v)), (3, .int (jI g)), (4, .long (jL v1)), (6, .long (jL v2))]) d_GM_replaceIn_18 (Nat.le_of_ble_eq_true rfl) rfl ?_
  refine jt_lload d_GM_replaceIn_20 rfl ?_
  refine jt_ldc2 (z := 65535) d_GM_replaceIn_22 GM_k199 ?_
  refine jt_land16 d_GM_replaceIn_25 ?_
  refine jt_topl (fun v3 ev3 => ?_)
  refine jt_lstore (L' := [(0, .ref m), (1, .int (jI f)), (2, .int (jI v)), (3, .int (jI g)), (4, .long (jL v1)), (6, .long (jL v2)), (8, .long (jL v3))]) d_GM_replaceIn_26 (Nat.le_of_ble_eq_true rfl) rfl ?_
  refine jt_aload_n d_GM_replaceIn_28 rfl ?_
  refine gm_gA (k := 35) (a := m + 20) d_GM_replaceIn_29 GM_f118 (by decide) (by decide) rfl ?_
  refine jt_iload_n d_GM_replaceIn_32 rfl ?_
  refine jt_bipush d_GM_replaceIn_33 (by omega) ?_
  refine jt_imul d_GM_replaceIn_35 ?_
  refine jt_iload_n d_GM_replaceIn_36 rfl ?_
  refine jt_iadd d_GM_replaceIn_37 ?_
  refine jt_lconst (z := 0) d_GM_replaceIn_38 (by decide) ?_
  refine gm_st1 (k := 35) (n := 5200) (B := va_up A 35 (ju (A 35) ((f * 13) + v) 0)) d_GM_replaceIn_39 rfl (by decide) (by decide) rfl rfl (by omega) (by omega) (by omega) rfl ?_
  refine jt_iconst d_GM_replaceIn_40 ?_
  refine jt_istore (L' := [(0, .ref m), (1, .int (jI f)), (2, .int (jI v)), (3, .int (jI g)), (4, .long (jL v1)), (6, .long (jL v2)), (8, .long (jL v3)), (10, .int (jI 0))]) d_GM_replaceIn_41 (Nat.le_of_ble_eq_true rfl) rfl ?_
  refine gm_eA (B := va_up (va_up (va_up A 35 (ju (A 35) (f * 13 + v) 0)) 33 (A 33)) 34 (A 34)) ((gup_id (va_up A 35 (ju (A 35) (f * 13 + v) 0)) 33).trans (gup_id (va_up (va_up A 35 (ju (A 35) (f * 13 + v) 0)) 33 (A 33)) 34)) ?_
  exact l43_GM_replaceIn G d m f v g I A  h0 h1 w0 w1 g0 g1 hne hr f0 sz _ _ _ (by rw [ev2, ev1]) (by rw [ev3, ev1]) 14 _ _ _ (by omega) (by omega) (fun z => by rw [if_neg (by omega)]) (fun z => by rw [if_neg (by omega)]) (by omega)
set_option maxRecDepth 100000 in
set_option maxHeartbeats 4000000 in
theorem l2_GM_addSums (G : jG) (d m : Nat) (f : Int) (I : Nat → Int) (A : Nat → Int → Int)  (h0 : 0 ≤ f) (h1 : f < 400) (hb : ∀ j, 0 ≤ j → j < 13 → -2305843009213693952 ≤ A 35 (f * 13 + j) ∧ A 35 (f * 13 + j) ≤ 2305843009213693952 ∧ -2305843009213693952 ≤ A 33 j ∧ A 33 j ≤ 2305843009213693952 ∧ jRl (A 34 j)) (f0 : jF) (sz : Nat)  : ∀ (n9 : Nat) (i : Int) (r : Int) (W : Int → Int), (0 ≤ i) → (i ≤ 13) → (∀ z, W z = if f * 13 ≤ z ∧ z < f * 13 + i then gkp (A 35 (z) + A 33 (z - f * 13) + (A 34 (z - f * 13)).tdiv 65536) else A 35 z) → ((∀ j, 0 ≤ j → j < i → ((A 34 (j)).tmod 65536 = 0 ∧ gin (A 35 (f * 13 + j) + A 33 (j) + (A 34 (j)).tdiv 65536))) → r = I 15) → (¬ (∀ j, 0 ≤ j → j < i → ((A 34 (j)).tmod 65536 = 0 ∧ gin (A 35 (f * 13 + j) + A 33 (j) + (A 34 (j)).tdiv 65536))) → r = 1) → 13 - i < (n9 : Int) → jt (jm G Y_GM_addSums (gR (d + 1)) (gQ m f0 sz (fun rv I2 A2 => rv = none ∧ ∃ (r : Int) (W : Int → Int), I2 = va_up I 15 r ∧ A2 = va_up A 35 W ∧ (∀ z, W z = if f * 13 ≤ z ∧ z < f * 13 + 13 then gkp (A 35 (z) + A 33 (z - f * 13) + (A 34 (z - f * 13)).tdiv 65536) else A 35 z) ∧ ((∀ j, 0 ≤ j → j < 13 → ((A 34 (j)).tmod 65536 = 0 ∧ gin (A 35 (f * 13 + j) + A 33 (j) + (A 34 (j)).tdiv 65536))) → r = I 15) ∧ (¬ (∀ j, 0 ≤ j → j < 13 → ((A 34 (j)).tmod 65536 = 0 ∧ gin (A 35 (f * 13 + j) + A 33 (j) + (A 34 (j)).tdiv 65536))) → r = 1)))) 2 [(0, .ref m), (1, .int (jI f)), (2, .int (jI i))] [] (gmf m f0 (va_up I 15 r) (va_up A 35 W)) sz 0 0 := by
  intro n9
  induction n9 with
  | zero =>
    intro i r W i0 i1 hW ha hbb hmeas
    exfalso
    omega
  | succ n9 ih =>
    intro i r W i0 i1 hW ha hbb hmeas
    refine jt_iload_n d_GM_addSums_2 rfl ?_
    refine jt_bipush d_GM_addSums_3 (by omega) ?_
    refine jt_icmp_ge (t := 78) d_GM_addSums_5 rfl (by unfold jRi; omega) (by unfold jRi; omega) (fun c101 => ?_) (fun c101 => ?_)
    · skip
      exact gm_vret d_GM_addSums_78 rfl (by
    obtain rfl : i = 13 := by omega
    exact ⟨rfl, r, W, rfl, rfl, hW, ha, hbb⟩)
    · skip
      have e0 : W (f * 13 + i) = A 35 (f * 13 + i) := by rw [hW, if_neg (by omega)]
      have q0 := hb i (by omega) (by omega)
      unfold jRl at q0
      have q1 := gtd (A 34 i) 65536 (by omega)
      refine jt_aload_n d_GM_addSums_8 rfl ?_
      refine gm_gA (k := 34) (a := m + 19) d_GM_addSums_9 GM_f115 (by decide) (by decide) rfl ?_
      refine jt_iload_n d_GM_addSums_12 rfl ?_
      refine gm_ld1 (k := 34) (n := 13) (v := (A 34) i) d_GM_addSums_13 rfl (by decide) (by decide) rfl rfl (by omega) (by omega) (by omega) rfl ?_
      refine jt_ldc2 (z := 65536) d_GM_addSums_14 GM_k197 ?_
      refine jt_lrem d_GM_addSums_17 (by unfold jRl; omega) (by unfold jRl; omega) (by omega) ?_
      refine jt_lconst (z := 0) d_GM_addSums_18 (by decide) ?_
      refine jt_lif_eq (t := 28) d_GM_addSums_19 d_GM_addSums_20 rfl (by unfold jRl; omega) (by unfold jRl; omega) (fun c102 => ?_) (fun c102 => ?_)
      · skip
        refine jt_aload_n d_GM_addSums_28 rfl ?_
        refine gm_gA (k := 35) (a := m + 20) d_GM_addSums_29 GM_f118 (by decide) (by decide) rfl ?_
        refine jt_iload_n d_GM_addSums_32 rfl ?_
        refine jt_bipush d_GM_addSums_33 (by omega) ?_
        refine jt_imul d_GM_addSums_35 ?_
        refine jt_iload_n d_GM_addSums_36 rfl ?_
        refine jt_iadd d_GM_addSums_37 ?_
        refine jt_aload_n d_GM_addSums_38 rfl ?_
        refine jt_aload_n d_GM_addSums_39 rfl ?_
        refine gm_gA (k := 35) (a := m + 20) d_GM_addSums_40 GM_f118 (by decide) (by decide) rfl ?_
        refine jt_iload_n d_GM_addSums_43 rfl ?_
        refine jt_bipush d_GM_addSums_44 (by omega) ?_
        refine jt_imul d_GM_addSums_46 ?_
        refine jt_iload_n d_GM_addSums_47 rfl ?_
        refine jt_iadd d_GM_addSums_48 ?_
        refine gm_ld1 (k := 35) (n := 5200) (v := W ((f * 13) + i)) d_GM_addSums_49 rfl (by decide) (by decide) rfl rfl (by omega) (by omega) (by omega) rfl ?_
        refine jt_aload_n d_GM_addSums_50 rfl ?_
        refine gm_gA (k := 33) (a := m + 18) d_GM_addSums_51 GM_f112 (by decide) (by decide) rfl ?_
        refine jt_iload_n d_GM_addSums_54 rfl ?_
        refine gm_ld1 (k := 33) (n := 13) (v := (A 33) i) d_GM_addSums_55 rfl (by decide) (by decide) rfl rfl (by omega) (by omega) (by omega) rfl ?_
        refine jt_ladd d_GM_addSums_56 ?_
        refine jt_aload_n d_GM_addSums_57 rfl ?_
        refine gm_gA (k := 34) (a := m + 19) d_GM_addSums_58 GM_f115 (by decide) (by decide) rfl ?_
        refine jt_iload_n d_GM_addSums_61 rfl ?_
        refine gm_ld1 (k := 34) (n := 13) (v := (A 34) i) d_GM_addSums_62 rfl (by decide) (by decide) rfl rfl (by omega) (by omega) (by omega) rfl ?_
        refine jt_ldc2 (z := 65536) d_GM_addSums_63 GM_k197 ?_
        refine jt_ldiv d_GM_addSums_66 (by unfold jRl; omega) (by unfold jRl; omega) (by omega) ?_
        refine jt_ladd d_GM_addSums_67 ?_
        refine jt_topl (fun v103 ev103 => ?_)
        rw [e0] at ev103
        refine gct_call (Y := Y_GM_kept) (As := [.long (jL v103)]) (rest := [.int (jI ((f * 13) + i)), .ref (m + 20)]) d_GM_addSums_68 GM_c185 yk_GM_kept yv_GM_kept rfl (Nat.le_of_ble_eq_true rfl) rfl rfl (Nat.le_of_ble_eq_true rfl) (c_GM_kept G _ m v103 (va_up I 15 r) (va_up A 35 W) (by unfold jRl; omega)) (fun rvq104 Iq104 Aq104 hq104 => ?_)
        obtain ⟨rfl, hIq104, hAq104⟩ := hq104
        rw [hIq104, hAq104]
        refine gm_eI (J := va_up I 15 (gkr v103 r)) (bx_uu _ _ _ _) ?_
        show jt _ 71 [(0, .ref m), (1, .int (jI f)), (2, .int (jI i))] [.long (jL (gkp v103)), .int (jI ((f * 13) + i)), .ref (m + 20)] (gmf m f0 (va_up I 15 (gkr v103 r)) (va_up A 35 W)) _ _ _
        refine jt_topl (fun v105 ev105 => ?_)
        refine gm_st1 (k := 35) (n := 5200) (B := va_up A 35 (ju W ((f * 13) + i) v105)) d_GM_addSums_71 rfl (by decide) (by decide) rfl rfl (by omega) (by omega) (by omega) (bx_uu _ _ _ _) ?_
        refine jt_iinc (L' := [(0, .ref m), (1, .int (jI f)), (2, .int (jI (i + 1)))]) d_GM_addSums_72 rfl (Nat.le_of_ble_eq_true rfl) rfl ?_
        refine jt_goto (t := 2) d_GM_addSums_75 rfl ?_
        refine ih _ _ _ (by omega) (by omega) (fun z => ?_) (fun h => ?_) (fun h => ?_) (by omega)
        · unfold ju
          by_cases hz : z = f * 13 + i
          · rw [if_pos hz, if_pos (by omega), ev105, ev103, hz, show f * 13 + i - f * 13 = i by omega]
          · rw [if_neg hz, hW z]
            by_cases hy : f * 13 ≤ z ∧ z < f * 13 + i
            · rw [if_pos hy, if_pos (by omega)]
            · rw [if_neg hy, if_neg (by omega)]
        · have hi := h i (by omega) (by omega)
          unfold gkr
          rw [ev103, if_pos hi.2]
          exact ha (fun j a b => h j a (by omega))
        · unfold gkr
          rw [ev103]
          by_cases hq : gin (A 35 (f * 13 + i) + A 33 (i) + (A 34 (i)).tdiv 65536)
          · rw [if_pos hq]
            refine hbb (fun h2 => h (fun j a b => ?_))
            by_cases hj : j = i
            · rw [hj]; exact ⟨by assumption, hq⟩
            · exact h2 j a (by omega)
          · rw [if_neg hq]
      · skip
        refine jt_aload_n d_GM_addSums_23 rfl ?_
        refine jt_iconst d_GM_addSums_24 ?_
        refine gm_pI (k := 15) (v := 1) (J := va_up I 15 1) d_GM_addSums_25 (GM_w55 _ rfl) (by decide) (jnz (by omega)) rfl (bx_uu _ _ _ _) ?_
        refine jt_aload_n d_GM_addSums_28 rfl ?_
        refine gm_gA (k := 35) (a := m + 20) d_GM_addSums_29 GM_f118 (by decide) (by decide) rfl ?_
        refine jt_iload_n d_GM_addSums_32 rfl ?_
        refine jt_bipush d_GM_addSums_33 (by omega) ?_
        refine jt_imul d_GM_addSums_35 ?_
        refine jt_iload_n d_GM_addSums_36 rfl ?_
        refine jt_iadd d_GM_addSums_37 ?_
        refine jt_aload_n d_GM_addSums_38 rfl ?_
        refine jt_aload_n d_GM_addSums_39 rfl ?_
        refine gm_gA (k := 35) (a := m + 20) d_GM_addSums_40 GM_f118 (by decide) (by decide) rfl ?_
        refine jt_iload_n d_GM_addSums_43 rfl ?_
        refine jt_bipush d_GM_addSums_44 (by omega) ?_
        refine jt_imul d_GM_addSums_46 ?_
        refine jt_iload_n d_GM_addSums_47 rfl ?_
        refine jt_iadd d_GM_addSums_48 ?_
        refine gm_ld1 (k := 35) (n := 5200) (v := W ((f * 13) + i)) d_GM_addSums_49 rfl (by decide) (by decide) rfl rfl (by omega) (by omega) (by omega) rfl ?_
        refine jt_aload_n d_GM_addSums_50 rfl ?_
        refine gm_gA (k := 33) (a := m + 18) d_GM_addSums_51 GM_f112 (by decide) (by decide) rfl ?_
        refine jt_iload_n d_GM_addSums_54 rfl ?_
        refine gm_ld1 (k := 33) (n := 13) (v := (A 33) i) d_GM_addSums_55 rfl (by decide) (by decide) rfl rfl (by omega) (by omega) (by omega) rfl ?_
        refine jt_ladd d_GM_addSums_56 ?_
        refine jt_aload_n d_GM_addSums_57 rfl ?_
        refine gm_gA (k := 34) (a := m + 19) d_GM_addSums_58 GM_f115 (by decide) (by decide) rfl ?_
        refine jt_iload_n d_GM_addSums_61 rfl ?_
        refine gm_ld1 (k := 34) (n := 13) (v := (A 34) i) d_GM_addSums_62 rfl (by decide) (by decide) rfl rfl (by omega) (by omega) (by omega) rfl ?_
        refine jt_ldc2 (z := 65536) d_GM_addSums_63 GM_k197 ?_
        refine jt_ldiv d_GM_addSums_66 (by unfold jRl; omega) (by unfold jRl; omega) (by omega) ?_
        refine jt_ladd d_GM_addSums_67 ?_
        refine jt_topl (fun v106 ev106 => ?_)
        rw [e0] at ev106
        refine gct_call (Y := Y_GM_kept) (As := [.long (jL v106)]) (rest := [.int (jI ((f * 13) + i)), .ref (m + 20)]) d_GM_addSums_68 GM_c185 yk_GM_kept yv_GM_kept rfl (Nat.le_of_ble_eq_true rfl) rfl rfl (Nat.le_of_ble_eq_true rfl) (c_GM_kept G _ m v106 (va_up I 15 1) (va_up A 35 W) (by unfold jRl; omega)) (fun rvq107 Iq107 Aq107 hq107 => ?_)
        obtain ⟨rfl, hIq107, hAq107⟩ := hq107
        rw [hIq107, hAq107]
        refine gm_eI (J := va_up I 15 (gkr v106 1)) (bx_uu _ _ _ _) ?_
        show jt _ 71 [(0, .ref m), (1, .int (jI f)), (2, .int (jI i))] [.long (jL (gkp v106)), .int (jI ((f * 13) + i)), .ref (m + 20)] (gmf m f0 (va_up I 15 (gkr v106 1)) (va_up A 35 W)) _ _ _
        refine jt_topl (fun v108 ev108 => ?_)
        refine gm_st1 (k := 35) (n := 5200) (B := va_up A 35 (ju W ((f * 13) + i) v108)) d_GM_addSums_71 rfl (by decide) (by decide) rfl rfl (by omega) (by omega) (by omega) (bx_uu _ _ _ _) ?_
        refine jt_iinc (L' := [(0, .ref m), (1, .int (jI f)), (2, .int (jI (i + 1)))]) d_GM_addSums_72 rfl (Nat.le_of_ble_eq_true rfl) rfl ?_
        refine jt_goto (t := 2) d_GM_addSums_75 rfl ?_
        refine ih _ _ _ (by omega) (by omega) (fun z => ?_) (fun h => ?_) (fun h => ?_) (by omega)
        · unfold ju
          by_cases hz : z = f * 13 + i
          · rw [if_pos hz, if_pos (by omega), ev108, ev106, hz, show f * 13 + i - f * 13 = i by omega]
          · rw [if_neg hz, hW z]
            by_cases hy : f * 13 ≤ z ∧ z < f * 13 + i
            · rw [if_pos hy, if_pos (by omega)]
            · rw [if_neg hy, if_neg (by omega)]
        · have hi := h i (by omega) (by omega)
          unfold gkr
          rw [ev106, if_pos hi.2]
          exact absurd hi.1 (by assumption)
        · unfold gkr
          rw [ev106]
          by_cases hq : gin (A 35 (f * 13 + i) + A 33 (i) + (A 34 (i)).tdiv 65536)
          · rw [if_pos hq]
            try rfl
          · rw [if_neg hq]
set_option maxRecDepth 100000 in
set_option maxHeartbeats 4000000 in
theorem c_GM_addSums (G : jG) (d m : Nat) (f : Int) (I : Nat → Int) (A : Nat → Int → Int)  (h0 : 0 ≤ f) (h1 : f < 400) (hb : ∀ j, 0 ≤ j → j < 13 → -2305843009213693952 ≤ A 35 (f * 13 + j) ∧ A 35 (f * 13 + j) ≤ 2305843009213693952 ∧ -2305843009213693952 ≤ A 33 j ∧ A 33 j ≤ 2305843009213693952 ∧ jRl (A 34 j)) : gct G Y_GM_addSums (d + 1) m [.int (jI f)] I A (fun rv I2 A2 => rv = none ∧ ∃ (r : Int) (W : Int → Int), I2 = va_up I 15 r ∧ A2 = va_up A 35 W ∧ (∀ z, W z = if f * 13 ≤ z ∧ z < f * 13 + 13 then gkp (A 35 (z) + A 33 (z - f * 13) + (A 34 (z - f * 13)).tdiv 65536) else A 35 z) ∧ ((∀ j, 0 ≤ j → j < 13 → ((A 34 (j)).tmod 65536 = 0 ∧ gin (A 35 (f * 13 + j) + A 33 (j) + (A 34 (j)).tdiv 65536))) → r = I 15) ∧ (¬ (∀ j, 0 ≤ j → j < 13 → ((A 34 (j)).tmod 65536 = 0 ∧ gin (A 35 (f * 13 + j) + A 33 (j) + (A 34 (j)).tdiv 65536))) → r = 1)) := by
  refine gct_of (by decide) (Nat.le_of_ble_eq_true rfl) (fun f0 sz => ?_)
  show jt _ 0 [(0, .ref m), (1, .int (jI f))] [] _ _ _ _
  refine jt_iconst d_GM_addSums_0 ?_
  refine jt_istore_n (L' := [(0, .ref m), (1, .int (jI f)), (2, .int (jI 0))]) d_GM_addSums_1 (Nat.le_of_ble_eq_true rfl) rfl ?_
  refine gm_eI (J := va_up I 15 (I 15)) (gup_id I 15) ?_
  refine gm_eA (B := va_up A 35 (A 35)) (gup_id A 35) ?_
  exact l2_GM_addSums G d m f I A  h0 h1 hb f0 sz 14 _ _ _ (by omega) (by omega) (fun z => by rw [if_neg (by omega)]) (fun _ => rfl) (fun h => absurd (fun j a b => by omega) h) (by omega)

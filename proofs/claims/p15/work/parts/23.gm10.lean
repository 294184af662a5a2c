/-- the product of two numbers in 65536ths, where it is one; the flag behind it -/
abbrev gtP (x y : Int) : Prop := (x * y) % 65536 = 0 ∧ gin (x * y / 65536)
def gtm (x y : Int) : Int := if gtP x y then x * y / 65536 else 0
def gtr (x y r : Int) : Int := if gtP x y then r else 1
theorem gtm_two (a : Int) (h : a.tmod 2 = 0) : a = a.tdiv 2 * 2 := by
  have := gtd a 2 (by omega)
  omega
theorem gtm_odd (a : Int) (h : ¬ a.tmod 2 = 0) : a % 2 = 1 := by
  have := gtd a 2 (by omega)
  omega
theorem gdv (p q : Int) (hp : 0 ≤ p) (hq : 0 < q) : p ≤ Int.tdiv 68719476736 q ↔ p * q ≤ 68719476736 := by
  rw [Int.tdiv_eq_ediv_of_nonneg (by omega)]
  exact Int.le_ediv_iff_mul_le hq
theorem gdv2 (q : Int) (hq : 0 < q) : 0 ≤ Int.tdiv 68719476736 q ∧ Int.tdiv 68719476736 q ≤ 68719476736 := by
  rw [Int.tdiv_eq_ediv_of_nonneg (by omega)]
  exact ⟨Int.ediv_nonneg (by omega) (by omega), Int.ediv_le_self _ (by omega)⟩
theorem gpar (P : Int) (k : Nat) (hk : k < 16) (h : (P * 2 ^ k) % 65536 = 0) : P % 2 = 0 := by
  rcases (show k = 0 ∨ k = 1 ∨ k = 2 ∨ k = 3 ∨ k = 4 ∨ k = 5 ∨ k = 6 ∨ k = 7 ∨ k = 8 ∨ k = 9 ∨ k = 10 ∨ k = 11 ∨ k = 12 ∨ k = 13 ∨ k = 14 ∨ k = 15 by omega) with rfl | rfl | rfl | rfl | rfl | rfl | rfl | rfl | rfl | rfl | rfl | rfl | rfl | rfl | rfl | rfl <;> omega
theorem gtP_odd (x y a b : Int) (k l : Nat) (hx : x = a * 2 ^ k) (hy : y = b * 2 ^ l) (hs : k + l < 16) (ha : a % 2 = 1) (hb : b % 2 = 1) : ¬ gtP x y := by
  intro h
  have e : x * y = a * b * 2 ^ (k + l) := by rw [hx, hy, Int.pow_add]; simp only [Int.mul_assoc, Int.mul_left_comm, Int.mul_comm]
  have h1 := h.1
  rw [e] at h1
  have h2 := gpar _ _ hs h1
  have h3 := Int.mul_emod a b 2
  rw [ha, hb] at h3
  omega
theorem gtP_16 (x y a b : Int) (k l : Nat) (hx : x = a * 2 ^ k) (hy : y = b * 2 ^ l) (hs : k + l = 16) : (x * y) % 65536 = 0 ∧ x * y / 65536 = a * b := by
  have e : x * y = a * b * 2 ^ (k + l) := by rw [hx, hy, Int.pow_add]; simp only [Int.mul_assoc, Int.mul_left_comm, Int.mul_comm]
  rw [hs] at e
  rw [e, show (2 : Int) ^ 16 = 65536 by decide]
  omega
theorem ggin (a b p q : Int) (hp : p = if a < 0 then -a else a) (hq : q = if b < 0 then -b else b) : p * q ≤ 68719476736 ↔ gin (a * b) := by
  have e1 : (-a) * b = -(a * b) := Int.neg_mul a b
  have e2 : a * (-b) = -(a * b) := Int.mul_neg a b
  have e3 : (-a) * (-b) = a * b := Int.neg_mul_neg a b
  by_cases ha : a < 0
  · rw [if_pos ha] at hp
    by_cases hb : b < 0
    · rw [if_pos hb] at hq
      have h := Int.mul_pos_of_neg_of_neg ha hb
      rw [hp, hq, e3]
      omega
    · rw [if_neg hb] at hq
      have h := Int.mul_nonneg (show 0 ≤ -a by omega) (show 0 ≤ b by omega)
      rw [hp, hq, e1]
      rw [e1] at h
      omega
  · rw [if_neg ha] at hp
    by_cases hb : b < 0
    · rw [if_pos hb] at hq
      have h := Int.mul_nonneg (show 0 ≤ a by omega) (show 0 ≤ -b by omega)
      rw [hp, hq, e2]
      rw [e2] at h
      omega
    · rw [if_neg hb] at hq
      have h := Int.mul_nonneg (show 0 ≤ a by omega) (show 0 ≤ b by omega)
      rw [hp, hq]
      omega
set_option maxRecDepth 100000 in
set_option maxHeartbeats 4000000 in
theorem l55_GM_times (G : jG) (d m : Nat) (x : Int) (y : Int) (I : Nat → Int) (A : Nat → Int → Int)  (x0 : -4611686018427387904 ≤ x) (x1 : x ≤ 4611686018427387904) (y0 : -4611686018427387904 ≤ y) (y1 : y ≤ 4611686018427387904) (f0 : jF) (sz : Nat) (a : Int) (a0 : ¬ a = 0) (a1 : -4611686018427387904 ≤ a) (a2 : a ≤ 4611686018427387904) : ∀ (n9 : Nat) (b : Int) (s : Int), (0 ≤ s) → (s ≤ 16) → (¬ b = 0) → (-4611686018427387904 ≤ b) → (b ≤ 4611686018427387904) → (∃ k l : Nat, s = (k : Int) + (l : Int) ∧ x = a * 2 ^ k ∧ y = b * 2 ^ l) → (16 ≤ s ∨ a % 2 = 1) → 16 - s < (n9 : Int) → jt (jm G Y_GM_times (gR (d + 1)) (gQ m f0 sz (fun (rv : Option Value) (I2 : Nat → Int) (A2 : Nat → Int → Int) => rv = some (.long (jL (gtm x y))) ∧ I2 = va_up I 15 (gtr x y (I 15)) ∧ A2 = A))) 55 [(0, .ref m), (1, .long (jL x)), (3, .long (jL y)), (5, .long (jL a)), (7, .long (jL b)), (9, .int (jI s))] [] (gmf m f0 I A) sz 0 0 := by
  intro n9
  induction n9 with
  | zero =>
    intro b s s0 s1 b0 b1 b2 hkl hso hmeas
    exfalso
    omega
  | succ n9 ih =>
    intro b s s0 s1 b0 b1 b2 hkl hso hmeas
    refine jt_iload d_GM_times_55 rfl ?_
    refine jt_bipush d_GM_times_57 (by omega) ?_
    refine jt_icmp_ge (t := 87) d_GM_times_59 rfl (by unfold jRi; omega) (by unfold jRi; omega) (fun c101 => ?_) (fun c101 => ?_)
    · skip
      obtain ⟨k, l, hs, hx, hy⟩ := hkl
      have hfin : (s < 16 → ¬ gtP x y) ∧ (¬ s < 16 → ((x * y) % 65536 = 0 ∧ x * y / 65536 = a * b)) := ⟨fun z => by first | exact absurd z (by omega) | exact gtP_odd x y a b k l hx hy (by omega) (by omega) (gtm_odd b (by assumption)), fun z => gtP_16 x y a b k l hx hy (by omega)⟩
      refine jt_lload d_GM_times_87 rfl ?_
      refine jt_lconst (z := 0) d_GM_times_89 (by decide) ?_
      refine jt_lif_ge (t := 100) d_GM_times_90 d_GM_times_91 rfl (by unfold jRl; omega) (by unfold jRl; omega) (fun c102 => ?_) (fun c102 => ?_)
      · skip
        refine jt_lload d_GM_times_100 rfl ?_
        refine jt_lstore (L' := [(0, .ref m), (1, .long (jL x)), (3, .long (jL y)), (5, .long (jL a)), (7, .long (jL b)), (9, .int (jI s)), (10, .long (jL a))]) d_GM_times_102 (Nat.le_of_ble_eq_true rfl) rfl ?_
        refine jt_lload d_GM_times_104 rfl ?_
        refine jt_lconst (z := 0) d_GM_times_106 (by decide) ?_
        refine jt_lif_ge (t := 117) d_GM_times_107 d_GM_times_108 rfl (by unfold jRl; omega) (by unfold jRl; omega) (fun c103 => ?_) (fun c103 => ?_)
        · skip
          refine jt_lload d_GM_times_117 rfl ?_
          refine jt_lstore (L' := [(0, .ref m), (1, .long (jL x)), (3, .long (jL y)), (5, .long (jL a)), (7, .long (jL b)), (9, .int (jI s)), (10, .long (jL a)), (12, .long (jL b))]) d_GM_times_119 (Nat.le_of_ble_eq_true rfl) rfl ?_
          have gg := ggin a b a b (by split <;> omega) (by split <;> omega)
          have g0 : 0 < b := by omega
          have g1 := gdv a b (by omega) g0
          have g2 := gdv2 b g0
          refine jt_iload d_GM_times_121 rfl ?_
          refine jt_bipush d_GM_times_123 (by omega) ?_
          refine jt_icmp_lt (t := 140) d_GM_times_125 rfl (by unfold jRi; omega) (by unfold jRi; omega) (fun c104 => ?_) (fun c104 => ?_)
          · skip
            refine jt_aload_n d_GM_times_140 rfl ?_
            refine jt_iconst d_GM_times_141 ?_
            refine gm_pI (k := 15) (v := 1) (J := va_up I 15 1) d_GM_times_142 (GM_w55 _ rfl) (by decide) (jnz (by omega)) rfl rfl ?_
            refine jt_lconst (z := 0) d_GM_times_145 (by decide) ?_
            exact gm_lret d_GM_times_146 rfl (by
    have hp : ¬ gtP x y := by first | exact hfin.1 (by omega) | (intro h2; have h3 := h2.2; rw [(hfin.2 (by omega)).2] at h3; have h4 := gg.mpr h3; omega)
    exact ⟨by unfold gtm; rw [if_neg hp], by unfold gtr; rw [if_neg hp], rfl⟩)
          · skip
            refine jt_lload d_GM_times_128 rfl ?_
            refine jt_ldc2 (z := 68719476736) d_GM_times_130 GM_k179 ?_
            refine jt_lload d_GM_times_133 rfl ?_
            refine jt_ldiv d_GM_times_135 (by unfold jRl; omega) (by unfold jRl; omega) (by omega) ?_
            refine jt_lif_le (t := 147) d_GM_times_136 d_GM_times_137 rfl (by unfold jRl; omega) (by unfold jRl; omega) (fun c105 => ?_) (fun c105 => ?_)
            · skip
              refine jt_aload_n d_GM_times_147 rfl ?_
              refine jt_lload d_GM_times_148 rfl ?_
              refine jt_lload d_GM_times_150 rfl ?_
              refine jt_lmul d_GM_times_152 ?_
              refine jt_topl (fun v106 ev106 => ?_)
              have h4 := gg.mp (by omega)
              refine gct_call (Y := Y_GM_kept) (As := [.long (jL v106)]) (rest := []) d_GM_times_153 GM_c185 yk_GM_kept yv_GM_kept rfl (Nat.le_of_ble_eq_true rfl) rfl rfl (Nat.le_of_ble_eq_true rfl) (c_GM_kept G _ m v106 I A (by unfold jRl; rw [ev106]; omega)) (fun rvq107 Iq107 Aq107 hq107 => ?_)
              obtain ⟨rfl, hIq107, hAq107⟩ := hq107
              rw [hIq107, hAq107]
              show jt _ 156 [(0, .ref m), (1, .long (jL x)), (3, .long (jL y)), (5, .long (jL a)), (7, .long (jL b)), (9, .int (jI s)), (10, .long (jL a)), (12, .long (jL b))] [.long (jL (gkp v106))] (gmf m f0 (va_up I 15 (gkr v106 (I 15))) A) _ _ _
              exact gm_lret d_GM_times_156 rfl (by
    have h3 := hfin.2 (by omega)
    have h4 := gg.mp (by omega)
    have hp : gtP x y := ⟨h3.1, by rw [h3.2]; exact h4⟩
    exact ⟨by unfold gkp gtm; rw [if_pos hp, if_pos (by rw [ev106]; exact h4), ev106, h3.2], by unfold gkr gtr; rw [if_pos hp, if_pos (by rw [ev106]; exact h4)], rfl⟩)
            · skip
              refine jt_aload_n d_GM_times_140 rfl ?_
              refine jt_iconst d_GM_times_141 ?_
              refine gm_pI (k := 15) (v := 1) (J := va_up I 15 1) d_GM_times_142 (GM_w55 _ rfl) (by decide) (jnz (by omega)) rfl rfl ?_
              refine jt_lconst (z := 0) d_GM_times_145 (by decide) ?_
              exact gm_lret d_GM_times_146 rfl (by
    have hp : ¬ gtP x y := by first | exact hfin.1 (by omega) | (intro h2; have h3 := h2.2; rw [(hfin.2 (by omega)).2] at h3; have h4 := gg.mpr h3; omega)
    exact ⟨by unfold gtm; rw [if_neg hp], by unfold gtr; rw [if_neg hp], rfl⟩)
        · skip
          refine jt_lload d_GM_times_111 rfl ?_
          refine jt_lneg d_GM_times_113 ?_
          refine jt_goto (t := 119) d_GM_times_114 rfl ?_
          refine jt_topl (fun v108 ev108 => ?_)
          refine jt_lstore (L' := [(0, .ref m), (1, .long (jL x)), (3, .long (jL y)), (5, .long (jL a)), (7, .long (jL b)), (9, .int (jI s)), (10, .long (jL a)), (12, .long (jL v108))]) d_GM_times_119 (Nat.le_of_ble_eq_true rfl) rfl ?_
          have gg := ggin a b a v108 (by split <;> omega) (by split <;> omega)
          have g0 : 0 < v108 := by omega
          have g1 := gdv a v108 (by omega) g0
          have g2 := gdv2 v108 g0
          refine jt_iload d_GM_times_121 rfl ?_
          refine jt_bipush d_GM_times_123 (by omega) ?_
          refine jt_icmp_lt (t := 140) d_GM_times_125 rfl (by unfold jRi; omega) (by unfold jRi; omega) (fun c109 => ?_) (fun c109 => ?_)
          · skip
            refine jt_aload_n d_GM_times_140 rfl ?_
            refine jt_iconst d_GM_times_141 ?_
            refine gm_pI (k := 15) (v := 1) (J := va_up I 15 1) d_GM_times_142 (GM_w55 _ rfl) (by decide) (jnz (by omega)) rfl rfl ?_
            refine jt_lconst (z := 0) d_GM_times_145 (by decide) ?_
            exact gm_lret d_GM_times_146 rfl (by
    have hp : ¬ gtP x y := by first | exact hfin.1 (by omega) | (intro h2; have h3 := h2.2; rw [(hfin.2 (by omega)).2] at h3; have h4 := gg.mpr h3; omega)
    exact ⟨by unfold gtm; rw [if_neg hp], by unfold gtr; rw [if_neg hp], rfl⟩)
          · skip
            refine jt_lload d_GM_times_128 rfl ?_
            refine jt_ldc2 (z := 68719476736) d_GM_times_130 GM_k179 ?_
            refine jt_lload d_GM_times_133 rfl ?_
            refine jt_ldiv d_GM_times_135 (by unfold jRl; omega) (by unfold jRl; omega) (by omega) ?_
            refine jt_lif_le (t := 147) d_GM_times_136 d_GM_times_137 rfl (by unfold jRl; omega) (by unfold jRl; omega) (fun c110 => ?_) (fun c110 => ?_)
            · skip
              refine jt_aload_n d_GM_times_147 rfl ?_
              refine jt_lload d_GM_times_148 rfl ?_
              refine jt_lload d_GM_times_150 rfl ?_
              refine jt_lmul d_GM_times_152 ?_
              refine jt_topl (fun v111 ev111 => ?_)
              have h4 := gg.mp (by omega)
              refine gct_call (Y := Y_GM_kept) (As := [.long (jL v111)]) (rest := []) d_GM_times_153 GM_c185 yk_GM_kept yv_GM_kept rfl (Nat.le_of_ble_eq_true rfl) rfl rfl (Nat.le_of_ble_eq_true rfl) (c_GM_kept G _ m v111 I A (by unfold jRl; rw [ev111]; omega)) (fun rvq112 Iq112 Aq112 hq112 => ?_)
              obtain ⟨rfl, hIq112, hAq112⟩ := hq112
              rw [hIq112, hAq112]
              show jt _ 156 [(0, .ref m), (1, .long (jL x)), (3, .long (jL y)), (5, .long (jL a)), (7, .long (jL b)), (9, .int (jI s)), (10, .long (jL a)), (12, .long (jL v108))] [.long (jL (gkp v111))] (gmf m f0 (va_up I 15 (gkr v111 (I 15))) A) _ _ _
              exact gm_lret d_GM_times_156 rfl (by
    have h3 := hfin.2 (by omega)
    have h4 := gg.mp (by omega)
    have hp : gtP x y := ⟨h3.1, by rw [h3.2]; exact h4⟩
    exact ⟨by unfold gkp gtm; rw [if_pos hp, if_pos (by rw [ev111]; exact h4), ev111, h3.2], by unfold gkr gtr; rw [if_pos hp, if_pos (by rw [ev111]; exact h4)], rfl⟩)
            · skip
              refine jt_aload_n d_GM_times_140 rfl ?_
              refine jt_iconst d_GM_times_141 ?_
              refine gm_pI (k := 15) (v := 1) (J := va_up I 15 1) d_GM_times_142 (GM_w55 _ rfl) (by decide) (jnz (by omega)) rfl rfl ?_
              refine jt_lconst (z := 0) d_GM_times_145 (by decide) ?_
              exact gm_lret d_GM_times_146 rfl (by
    have hp : ¬ gtP x y := by first | exact hfin.1 (by omega) | (intro h2; have h3 := h2.2; rw [(hfin.2 (by omega)).2] at h3; have h4 := gg.mpr h3; omega)
    exact ⟨by unfold gtm; rw [if_neg hp], by unfold gtr; rw [if_neg hp], rfl⟩)
      · skip
        refine jt_lload d_GM_times_94 rfl ?_
        refine jt_lneg d_GM_times_96 ?_
        refine jt_goto (t := 102) d_GM_times_97 rfl ?_
        refine jt_topl (fun v113 ev113 => ?_)
        refine jt_lstore (L' := [(0, .ref m), (1, .long (jL x)), (3, .long (jL y)), (5, .long (jL a)), (7, .long (jL b)), (9, .int (jI s)), (10, .long (jL v113))]) d_GM_times_102 (Nat.le_of_ble_eq_true rfl) rfl ?_
        refine jt_lload d_GM_times_104 rfl ?_
        refine jt_lconst (z := 0) d_GM_times_106 (by decide) ?_
        refine jt_lif_ge (t := 117) d_GM_times_107 d_GM_times_108 rfl (by unfold jRl; omega) (by unfold jRl; omega) (fun c114 => ?_) (fun c114 => ?_)
        · skip
          refine jt_lload d_GM_times_117 rfl ?_
          refine jt_lstore (L' := [(0, .ref m), (1, .long (jL x)), (3, .long (jL y)), (5, .long (jL a)), (7, .long (jL b)), (9, .int (jI s)), (10, .long (jL v113)), (12, .long (jL b))]) d_GM_times_119 (Nat.le_of_ble_eq_true rfl) rfl ?_
          have gg := ggin a b v113 b (by split <;> omega) (by split <;> omega)
          have g0 : 0 < b := by omega
          have g1 := gdv v113 b (by omega) g0
          have g2 := gdv2 b g0
          refine jt_iload d_GM_times_121 rfl ?_
          refine jt_bipush d_GM_times_123 (by omega) ?_
          refine jt_icmp_lt (t := 140) d_GM_times_125 rfl (by unfold jRi; omega) (by unfold jRi; omega) (fun c115 => ?_) (fun c115 => ?_)
          · skip
            refine jt_aload_n d_GM_times_140 rfl ?_
            refine jt_iconst d_GM_times_141 ?_
            refine gm_pI (k := 15) (v := 1) (J := va_up I 15 1) d_GM_times_142 (GM_w55 _ rfl) (by decide) (jnz (by omega)) rfl rfl ?_
            refine jt_lconst (z := 0) d_GM_times_145 (by decide) ?_
            exact gm_lret d_GM_times_146 rfl (by
    have hp : ¬ gtP x y := by first | exact hfin.1 (by omega) | (intro h2; have h3 := h2.2; rw [(hfin.2 (by omega)).2] at h3; have h4 := gg.mpr h3; omega)
    exact ⟨by unfold gtm; rw [if_neg hp], by unfold gtr; rw [if_neg hp], rfl⟩)
          · skip
            refine jt_lload d_GM_times_128 rfl ?_
            refine jt_ldc2 (z := 68719476736) d_GM_times_130 GM_k179 ?_
            refine jt_lload d_GM_times_133 rfl ?_
            refine jt_ldiv d_GM_times_135 (by unfold jRl; omega) (by unfold jRl; omega) (by omega) ?_
            refine jt_lif_le (t := 147) d_GM_times_136 d_GM_times_137 rfl (by unfold jRl; omega) (by unfold jRl; omega) (fun c116 => ?_) (fun c116 => ?_)
            · skip
              refine jt_aload_n d_GM_times_147 rfl ?_
              refine jt_lload d_GM_times_148 rfl ?_
              refine jt_lload d_GM_times_150 rfl ?_
              refine jt_lmul d_GM_times_152 ?_
              refine jt_topl (fun v117 ev117 => ?_)
              have h4 := gg.mp (by omega)
              refine gct_call (Y := Y_GM_kept) (As := [.long (jL v117)]) (rest := []) d_GM_times_153 GM_c185 yk_GM_kept yv_GM_kept rfl (Nat.le_of_ble_eq_true rfl) rfl rfl (Nat.le_of_ble_eq_true rfl) (c_GM_kept G _ m v117 I A (by unfold jRl; rw [ev117]; omega)) (fun rvq118 Iq118 Aq118 hq118 => ?_)
              obtain ⟨rfl, hIq118, hAq118⟩ := hq118
              rw [hIq118, hAq118]
              show jt _ 156 [(0, .ref m), (1, .long (jL x)), (3, .long (jL y)), (5, .long (jL a)), (7, .long (jL b)), (9, .int (jI s)), (10, .long (jL v113)), (12, .long (jL b))] [.long (jL (gkp v117))] (gmf m f0 (va_up I 15 (gkr v117 (I 15))) A) _ _ _
              exact gm_lret d_GM_times_156 rfl (by
    have h3 := hfin.2 (by omega)
    have h4 := gg.mp (by omega)
    have hp : gtP x y := ⟨h3.1, by rw [h3.2]; exact h4⟩
    exact ⟨by unfold gkp gtm; rw [if_pos hp, if_pos (by rw [ev117]; exact h4), ev117, h3.2], by unfold gkr gtr; rw [if_pos hp, if_pos (by rw [ev117]; exact h4)], rfl⟩)
            · skip
              refine jt_aload_n d_GM_times_140 rfl ?_
              refine jt_iconst d_GM_times_141 ?_
              refine gm_pI (k := 15) (v := 1) (J := va_up I 15 1) d_GM_times_142 (GM_w55 _ rfl) (by decide) (jnz (by omega)) rfl rfl ?_
              refine jt_lconst (z := 0) d_GM_times_145 (by decide) ?_
              exact gm_lret d_GM_times_146 rfl (by
    have hp : ¬ gtP x y := by first | exact hfin.1 (by omega) | (intro h2; have h3 := h2.2; rw [(hfin.2 (by omega)).2] at h3; have h4 := gg.mpr h3; omega)
    exact ⟨by unfold gtm; rw [if_neg hp], by unfold gtr; rw [if_neg hp], rfl⟩)
        · skip
          refine jt_lload d_GM_times_111 rfl ?_
          refine jt_lneg d_GM_times_113 ?_
          refine jt_goto (t := 119) d_GM_times_114 rfl ?_
          refine jt_topl (fun v119 ev119 => ?_)
          refine jt_lstore (L' := [(0, .ref m), (1, .long (jL x)), (3, .long (jL y)), (5, .long (jL a)), (7, .long (jL b)), (9, .int (jI s)), (10, .long (jL v113)), (12, .long (jL v119))]) d_GM_times_119 (Nat.le_of_ble_eq_true rfl) rfl ?_
          have gg := ggin a b v113 v119 (by split <;> omega) (by split <;> omega)
          have g0 : 0 < v119 := by omega
          have g1 := gdv v113 v119 (by omega) g0
          have g2 := gdv2 v119 g0
          refine jt_iload d_GM_times_121 rfl ?_
          refine jt_bipush d_GM_times_123 (by omega) ?_
          refine jt_icmp_lt (t := 140) d_GM_times_125 rfl (by unfold jRi; omega) (by unfold jRi; omega) (fun c120 => ?_) (fun c120 => ?_)
          · skip
            refine jt_aload_n d_GM_times_140 rfl ?_
            refine jt_iconst d_GM_times_141 ?_
            refine gm_pI (k := 15) (v := 1) (J := va_up I 15 1) d_GM_times_142 (GM_w55 _ rfl) (by decide) (jnz (by omega)) rfl rfl ?_
            refine jt_lconst (z := 0) d_GM_times_145 (by decide) ?_
            exact gm_lret d_GM_times_146 rfl (by
    have hp : ¬ gtP x y := by first | exact hfin.1 (by omega) | (intro h2; have h3 := h2.2; rw [(hfin.2 (by omega)).2] at h3; have h4 := gg.mpr h3; omega)
    exact ⟨by unfold gtm; rw [if_neg hp], by unfold gtr; rw [if_neg hp], rfl⟩)
          · skip
            refine jt_lload d_GM_times_128 rfl ?_
            refine jt_ldc2 (z := 68719476736) d_GM_times_130 GM_k179 ?_
            refine jt_lload d_GM_times_133 rfl ?_
            refine jt_ldiv d_GM_times_135 (by unfold jRl; omega) (by unfold jRl; omega) (by omega) ?_
            refine jt_lif_le (t := 147) d_GM_times_136 d_GM_times_137 rfl (by unfold jRl; omega) (by unfold jRl; omega) (fun c121 => ?_) (fun c121 => ?_)
            · skip
              refine jt_aload_n d_GM_times_147 rfl ?_
              refine jt_lload d_GM_times_148 rfl ?_
              refine jt_lload d_GM_times_150 rfl ?_
              refine jt_lmul d_GM_times_152 ?_
              refine jt_topl (fun v122 ev122 => ?_)
              have h4 := gg.mp (by omega)
              refine gct_call (Y := Y_GM_kept) (As := [.long (jL v122)]) (rest := []) d_GM_times_153 GM_c185 yk_GM_kept yv_GM_kept rfl (Nat.le_of_ble_eq_true rfl) rfl rfl (Nat.le_of_ble_eq_true rfl) (c_GM_kept G _ m v122 I A (by unfold jRl; rw [ev122]; omega)) (fun rvq123 Iq123 Aq123 hq123 => ?_)
              obtain ⟨rfl, hIq123, hAq123⟩ := hq123
              rw [hIq123, hAq123]
              show jt _ 156 [(0, .ref m), (1, .long (jL x)), (3, .long (jL y)), (5, .long (jL a)), (7, .long (jL b)), (9, .int (jI s)), (10, .long (jL v113)), (12, .long (jL v119))] [.long (jL (gkp v122))] (gmf m f0 (va_up I 15 (gkr v122 (I 15))) A) _ _ _
              exact gm_lret d_GM_times_156 rfl (by
    have h3 := hfin.2 (by omega)
    have h4 := gg.mp (by omega)
    have hp : gtP x y := ⟨h3.1, by rw [h3.2]; exact h4⟩
    exact ⟨by unfold gkp gtm; rw [if_pos hp, if_pos (by rw [ev122]; exact h4), ev122, h3.2], by unfold gkr gtr; rw [if_pos hp, if_pos (by rw [ev122]; exact h4)], rfl⟩)
            · skip
              refine jt_aload_n d_GM_times_140 rfl ?_
              refine jt_iconst d_GM_times_141 ?_
              refine gm_pI (k := 15) (v := 1) (J := va_up I 15 1) d_GM_times_142 (GM_w55 _ rfl) (by decide) (jnz (by omega)) rfl rfl ?_
              refine jt_lconst (z := 0) d_GM_times_145 (by decide) ?_
              exact gm_lret d_GM_times_146 rfl (by
    have hp : ¬ gtP x y := by first | exact hfin.1 (by omega) | (intro h2; have h3 := h2.2; rw [(hfin.2 (by omega)).2] at h3; have h4 := gg.mpr h3; omega)
    exact ⟨by unfold gtm; rw [if_neg hp], by unfold gtr; rw [if_neg hp], rfl⟩)
    · skip
      have hm := gtd b 2 (by omega)
      refine jt_lload d_GM_times_62 rfl ?_
      refine jt_ldc2 (z := 2) d_GM_times_64 GM_k183 ?_
      refine jt_lrem d_GM_times_67 (by unfold jRl; omega) (by unfold jRl; omega) (by omega) ?_
      refine jt_lconst (z := 0) d_GM_times_68 (by decide) ?_
      refine jt_lif_ne (t := 87) d_GM_times_69 d_GM_times_70 rfl (by unfold jRl; omega) (by unfold jRl; omega) (fun c124 => ?_) (fun c124 => ?_)
      · skip
        obtain ⟨k, l, hs, hx, hy⟩ := hkl
        have hfin : (s < 16 → ¬ gtP x y) ∧ (¬ s < 16 → ((x * y) % 65536 = 0 ∧ x * y / 65536 = a * b)) := ⟨fun z => by first | exact absurd z (by omega) | exact gtP_odd x y a b k l hx hy (by omega) (by omega) (gtm_odd b (by assumption)), fun z => gtP_16 x y a b k l hx hy (by omega)⟩
        refine jt_lload d_GM_times_87 rfl ?_
        refine jt_lconst (z := 0) d_GM_times_89 (by decide) ?_
        refine jt_lif_ge (t := 100) d_GM_times_90 d_GM_times_91 rfl (by unfold jRl; omega) (by unfold jRl; omega) (fun c125 => ?_) (fun c125 => ?_)
        · skip
          refine jt_lload d_GM_times_100 rfl ?_
          refine jt_lstore (L' := [(0, .ref m), (1, .long (jL x)), (3, .long (jL y)), (5, .long (jL a)), (7, .long (jL b)), (9, .int (jI s)), (10, .long (jL a))]) d_GM_times_102 (Nat.le_of_ble_eq_true rfl) rfl ?_
          refine jt_lload d_GM_times_104 rfl ?_
          refine jt_lconst (z := 0) d_GM_times_106 (by decide) ?_
          refine jt_lif_ge (t := 117) d_GM_times_107 d_GM_times_108 rfl (by unfold jRl; omega) (by unfold jRl; omega) (fun c126 => ?_) (fun c126 => ?_)
          · skip
            refine jt_lload d_GM_times_117 rfl ?_
            refine jt_lstore (L' := [(0, .ref m), (1, .long (jL x)), (3, .long (jL y)), (5, .long (jL a)), (7, .long (jL b)), (9, .int (jI s)), (10, .long (jL a)), (12, .long (jL b))]) d_GM_times_119 (Nat.le_of_ble_eq_true rfl) rfl ?_
            have gg := ggin a b a b (by split <;> omega) (by split <;> omega)
            have g0 : 0 < b := by omega
            have g1 := gdv a b (by omega) g0
            have g2 := gdv2 b g0
            refine jt_iload d_GM_times_121 rfl ?_
            refine jt_bipush d_GM_times_123 (by omega) ?_
            refine jt_icmp_lt (t := 140) d_GM_times_125 rfl (by unfold jRi; omega) (by unfold jRi; omega) (fun c127 => ?_) (fun c127 => ?_)
            · skip
              refine jt_aload_n d_GM_times_140 rfl ?_
              refine jt_iconst d_GM_times_141 ?_
              refine gm_pI (k := 15) (v := 1) (J := va_up I 15 1) d_GM_times_142 (GM_w55 _ rfl) (by decide) (jnz (by omega)) rfl rfl ?_
              refine jt_lconst (z := 0) d_GM_times_145 (by decide) ?_
              exact gm_lret d_GM_times_146 rfl (by
    have hp : ¬ gtP x y := by first | exact hfin.1 (by omega) | (intro h2; have h3 := h2.2; rw [(hfin.2 (by omega)).2] at h3; have h4 := gg.mpr h3; omega)
    exact ⟨by unfold gtm; rw [if_neg hp], by unfold gtr; rw [if_neg hp], rfl⟩)
            · skip
              refine jt_lload d_GM_times_128 rfl ?_
              refine jt_ldc2 (z := 68719476736) d_GM_times_130 GM_k179 ?_
              refine jt_lload d_GM_times_133 rfl ?_
              refine jt_ldiv d_GM_times_135 (by unfold jRl; omega) (by unfold jRl; omega) (by omega) ?_
              refine jt_lif_le (t := 147) d_GM_times_136 d_GM_times_137 rfl (by unfold jRl; omega) (by unfold jRl; omega) (fun c128 => ?_) (fun c128 => ?_)
              · skip
                refine jt_aload_n d_GM_times_147 rfl ?_
                refine jt_lload d_GM_times_148 rfl ?_
                refine jt_lload d_GM_times_150 rfl ?_
                refine jt_lmul d_GM_times_152 ?_
                refine jt_topl (fun v129 ev129 => ?_)
                have h4 := gg.mp (by omega)
                refine gct_call (Y := Y_GM_kept) (As := [.long (jL v129)]) (rest := []) d_GM_times_153 GM_c185 yk_GM_kept yv_GM_kept rfl (Nat.le_of_ble_eq_true rfl) rfl rfl (Nat.le_of_ble_eq_true rfl) (c_GM_kept G _ m v129 I A (by unfold jRl; rw [ev129]; omega)) (fun rvq130 Iq130 Aq130 hq130 => ?_)
                obtain ⟨rfl, hIq130, hAq130⟩ := hq130
                rw [hIq130, hAq130]
                show jt _ 156 [(0, .ref m), (1, .long (jL x)), (3, .long (jL y)), (5, .long (jL a)), (7, .long (jL b)), (9, .int (jI s)), (10, .long (jL a)), (12, .long (jL b))] [.long (jL (gkp v129))] (gmf m f0 (va_up I 15 (gkr v129 (I 15))) A) _ _ _
                exact gm_lret d_GM_times_156 rfl (by
    have h3 := hfin.2 (by omega)
    have h4 := gg.mp (by omega)
    have hp : gtP x y := ⟨h3.1, by rw [h3.2]; exact h4⟩
    exact ⟨by unfold gkp gtm; rw [if_pos hp, if_pos (by rw [ev129]; exact h4), ev129, h3.2], by unfold gkr gtr; rw [if_pos hp, if_pos (by rw [ev129]; exact h4)], rfl⟩)
              · skip
                refine jt_aload_n d_GM_times_140 rfl ?_
                refine jt_iconst d_GM_times_141 ?_
                refine gm_pI (k := 15) (v := 1) (J := va_up I 15 1) d_GM_times_142 (GM_w55 _ rfl) (by decide) (jnz (by omega)) rfl rfl ?_
                refine jt_lconst (z := 0) d_GM_times_145 (by decide) ?_
                exact gm_lret d_GM_times_146 rfl (by
    have hp : ¬ gtP x y := by first | exact hfin.1 (by omega) | (intro h2; have h3 := h2.2; rw [(hfin.2 (by omega)).2] at h3; have h4 := gg.mpr h3; omega)
    exact ⟨by unfold gtm; rw [if_neg hp], by unfold gtr; rw [if_neg hp], rfl⟩)
          · skip
            refine jt_lload d_GM_times_111 rfl ?_
            refine jt_lneg d_GM_times_113 ?_
            refine jt_goto (t := 119) d_GM_times_114 rfl ?_
            refine jt_topl (fun v131 ev131 => ?_)
            refine jt_lstore (L' := [(0, .ref m), (1, .long (jL x)), (3, .long (jL y)), (5, .long (jL a)), (7, .long (jL b)), (9, .int (jI s)), (10, .long (jL a)), (12, .long (jL v131))]) d_GM_times_119 (Nat.le_of_ble_eq_true rfl) rfl ?_
            have gg := ggin a b a v131 (by split <;> omega) (by split <;> omega)
            have g0 : 0 < v131 := by omega
            have g1 := gdv a v131 (by omega) g0
            have g2 := gdv2 v131 g0
            refine jt_iload d_GM_times_121 rfl ?_
            refine jt_bipush d_GM_times_123 (by omega) ?_
            refine jt_icmp_lt (t := 140) d_GM_times_125 rfl (by unfold jRi; omega) (by unfold jRi; omega) (fun c132 => ?_) (fun c132 => ?_)
            · skip
              refine jt_aload_n d_GM_times_140 rfl ?_
              refine jt_iconst d_GM_times_141 ?_
              refine gm_pI (k := 15) (v := 1) (J := va_up I 15 1) d_GM_times_142 (GM_w55 _ rfl) (by decide) (jnz (by omega)) rfl rfl ?_
              refine jt_lconst (z := 0) d_GM_times_145 (by decide) ?_
              exact gm_lret d_GM_times_146 rfl (by
    have hp : ¬ gtP x y := by first | exact hfin.1 (by omega) | (intro h2; have h3 := h2.2; rw [(hfin.2 (by omega)).2] at h3; have h4 := gg.mpr h3; omega)
    exact ⟨by unfold gtm; rw [if_neg hp], by unfold gtr; rw [if_neg hp], rfl⟩)
            · skip
              refine jt_lload d_GM_times_128 rfl ?_
              refine jt_ldc2 (z := 68719476736) d_GM_times_130 GM_k179 ?_
              refine jt_lload d_GM_times_133 rfl ?_
              refine jt_ldiv d_GM_times_135 (by unfold jRl; omega) (by unfold jRl; omega) (by omega) ?_
              refine jt_lif_le (t := 147) d_GM_times_136 d_GM_times_137 rfl (by unfold jRl; omega) (by unfold jRl; omega) (fun c133 => ?_) (fun c133 => ?_)
              · skip
                refine jt_aload_n d_GM_times_147 rfl ?_
                refine jt_lload d_GM_times_148 rfl ?_
                refine jt_lload d_GM_times_150 rfl ?_
                refine jt_lmul d_GM_times_152 ?_
                refine jt_topl (fun v134 ev134 => ?_)
                have h4 := gg.mp (by omega)
                refine gct_call (Y := Y_GM_kept) (As := [.long (jL v134)]) (rest := []) d_GM_times_153 GM_c185 yk_GM_kept yv_GM_kept rfl (Nat.le_of_ble_eq_true rfl) rfl rfl (Nat.le_of_ble_eq_true rfl) (c_GM_kept G _ m v134 I A (by unfold jRl; rw [ev134]; omega)) (fun rvq135 Iq135 Aq135 hq135 => ?_)
                obtain ⟨rfl, hIq135, hAq135⟩ := hq135
                rw [hIq135, hAq135]
                show jt _ 156 [(0, .ref m), (1, .long (jL x)), (3, .long (jL y)), (5, .long (jL a)), (7, .long (jL b)), (9, .int (jI s)), (10, .long (jL a)), (12, .long (jL v131))] [.long (jL (gkp v134))] (gmf m f0 (va_up I 15 (gkr v134 (I 15))) A) _ _ _
                exact gm_lret d_GM_times_156 rfl (by
    have h3 := hfin.2 (by omega)
    have h4 := gg.mp (by omega)
    have hp : gtP x y := ⟨h3.1, by rw [h3.2]; exact h4⟩
    exact ⟨by unfold gkp gtm; rw [if_pos hp, if_pos (by rw [ev134]; exact h4), ev134, h3.2], by unfold gkr gtr; rw [if_pos hp, if_pos (by rw [ev134]; exact h4)], rfl⟩)
              · skip
                refine jt_aload_n d_GM_times_140 rfl ?_
                refine jt_iconst d_GM_times_141 ?_
                refine gm_pI (k := 15) (v := 1) (J := va_up I 15 1) d_GM_times_142 (GM_w55 _ rfl) (by decide) (jnz (by omega)) rfl rfl ?_
                refine jt_lconst (z := 0) d_GM_times_145 (by decide) ?_
                exact gm_lret d_GM_times_146 rfl (by
    have hp : ¬ gtP x y := by first | exact hfin.1 (by omega) | (intro h2; have h3 := h2.2; rw [(hfin.2 (by omega)).2] at h3; have h4 := gg.mpr h3; omega)
    exact ⟨by unfold gtm; rw [if_neg hp], by unfold gtr; rw [if_neg hp], rfl⟩)
        · skip
          refine jt_lload d_GM_times_94 rfl ?_
          refine jt_lneg d_GM_times_96 ?_
          refine jt_goto (t := 102) d_GM_times_97 rfl ?_
          refine jt_topl (fun v136 ev136 => ?_)
          refine jt_lstore (L' := [(0, .ref m), (1, .long (jL x)), (3, .long (jL y)), (5, .long (jL a)), (7, .long (jL b)), (9, .int (jI s)), (10, .long (jL v136))]) d_GM_times_102 (Nat.le_of_ble_eq_true rfl) rfl ?_
          refine jt_lload d_GM_times_104 rfl ?_
          refine jt_lconst (z := 0) d_GM_times_106 (by decide) ?_
          refine jt_lif_ge (t := 117) d_GM_times_107 d_GM_times_108 rfl (by unfold jRl; omega) (by unfold jRl; omega) (fun c137 => ?_) (fun c137 => ?_)
          · skip
            refine jt_lload d_GM_times_117 rfl ?_
            refine jt_lstore (L' := [(0, .ref m), (1, .long (jL x)), (3, .long (jL y)), (5, .long (jL a)), (7, .long (jL b)), (9, .int (jI s)), (10, .long (jL v136)), (12, .long (jL b))]) d_GM_times_119 (Nat.le_of_ble_eq_true rfl) rfl ?_
            have gg := ggin a b v136 b (by split <;> omega) (by split <;> omega)
            have g0 : 0 < b := by omega
            have g1 := gdv v136 b (by omega) g0
            have g2 := gdv2 b g0
            refine jt_iload d_GM_times_121 rfl ?_
            refine jt_bipush d_GM_times_123 (by omega) ?_
            refine jt_icmp_lt (t := 140) d_GM_times_125 rfl (by unfold jRi; omega) (by unfold jRi; omega) (fun c138 => ?_) (fun c138 => ?_)
            · skip
              refine jt_aload_n d_GM_times_140 rfl ?_
              refine jt_iconst d_GM_times_141 ?_
              refine gm_pI (k := 15) (v := 1) (J := va_up I 15 1) d_GM_times_142 (GM_w55 _ rfl) (by decide) (jnz (by omega)) rfl rfl ?_
              refine jt_lconst (z := 0) d_GM_times_145 (by decide) ?_
              exact gm_lret d_GM_times_146 rfl (by
    have hp : ¬ gtP x y := by first | exact hfin.1 (by omega) | (intro h2; have h3 := h2.2; rw [(hfin.2 (by omega)).2] at h3; have h4 := gg.mpr h3; omega)
    exact ⟨by unfold gtm; rw [if_neg hp], by unfold gtr; rw [if_neg hp], rfl⟩)
            · skip
              refine jt_lload d_GM_times_128 rfl ?_
              refine jt_ldc2 (z := 68719476736) d_GM_times_130 GM_k179 ?_
              refine jt_lload d_GM_times_133 rfl ?_
              refine jt_ldiv d_GM_times_135 (by unfold jRl; omega) (by unfold jRl; omega) (by omega) ?_
              refine jt_lif_le (t := 147) d_GM_times_136 d_GM_times_137 rfl (by unfold jRl; omega) (by unfold jRl; omega) (fun c139 => ?_) (fun c139 => ?_)
              · skip
                refine jt_aload_n d_GM_times_147 rfl ?_
                refine jt_lload d_GM_times_148 rfl ?_
                refine jt_lload d_GM_times_150 rfl ?_
                refine jt_lmul d_GM_times_152 ?_
                refine jt_topl (fun v140 ev140 => ?_)
                have h4 := gg.mp (by omega)
                refine gct_call (Y := Y_GM_kept) (As := [.long (jL v140)]) (rest := []) d_GM_times_153 GM_c185 yk_GM_kept yv_GM_kept rfl (Nat.le_of_ble_eq_true rfl) rfl rfl (Nat.le_of_ble_eq_true rfl) (c_GM_kept G _ m v140 I A (by unfold jRl; rw [ev140]; omega)) (fun rvq141 Iq141 Aq141 hq141 => ?_)
                obtain ⟨rfl, hIq141, hAq141⟩ := hq141
                rw [hIq141, hAq141]
                show jt _ 156 [(0, .ref m), (1, .long (jL x)), (3, .long (jL y)), (5, .long (jL a)), (7, .long (jL b)), (9, .int (jI s)), (10, .long (jL v136)), (12, .long (jL b))] [.long (jL (gkp v140))] (gmf m f0 (va_up I 15 (gkr v140 (I 15))) A) _ _ _
                exact gm_lret d_GM_times_156 rfl (by
    have h3 := hfin.2 (by omega)
    have h4 := gg.mp (by omega)
    have hp : gtP x y := ⟨h3.1, by rw [h3.2]; exact h4⟩
    exact ⟨by unfold gkp gtm; rw [if_pos hp, if_pos (by rw [ev140]; exact h4), ev140, h3.2], by unfold gkr gtr; rw [if_pos hp, if_pos (by rw [ev140]; exact h4)], rfl⟩)
              · skip
                refine jt_aload_n d_GM_times_140 rfl ?_
                refine jt_iconst d_GM_times_141 ?_
                refine gm_pI (k := 15) (v := 1) (J := va_up I 15 1) d_GM_times_142 (GM_w55 _ rfl) (by decide) (jnz (by omega)) rfl rfl ?_
                refine jt_lconst (z := 0) d_GM_times_145 (by decide) ?_
                exact gm_lret d_GM_times_146 rfl (by
    have hp : ¬ gtP x y := by first | exact hfin.1 (by omega) | (intro h2; have h3 := h2.2; rw [(hfin.2 (by omega)).2] at h3; have h4 := gg.mpr h3; omega)
    exact ⟨by unfold gtm; rw [if_neg hp], by unfold gtr; rw [if_neg hp], rfl⟩)
          · skip
            refine jt_lload d_GM_times_111 rfl ?_
            refine jt_lneg d_GM_times_113 ?_
            refine jt_goto (t := 119) d_GM_times_114 rfl ?_
            refine jt_topl (fun v142 ev142 => ?_)
            refine jt_lstore (L' := [(0, .ref m), (1, .long (jL x)), (3, .long (jL y)), (5, .long (jL a)), (7, .long (jL b)), (9, .int (jI s)), (10, .long (jL v136)), (12, .long (jL v142))]) d_GM_times_119 (Nat.le_of_ble_eq_true rfl) rfl ?_
            have gg := ggin a b v136 v142 (by split <;> omega) (by split <;> omega)
            have g0 : 0 < v142 := by omega
            have g1 := gdv v136 v142 (by omega) g0
            have g2 := gdv2 v142 g0
            refine jt_iload d_GM_times_121 rfl ?_
            refine jt_bipush d_GM_times_123 (by omega) ?_
            refine jt_icmp_lt (t := 140) d_GM_times_125 rfl (by unfold jRi; omega) (by unfold jRi; omega) (fun c143 => ?_) (fun c143 => ?_)
            · skip
              refine jt_aload_n d_GM_times_140 rfl ?_
              refine jt_iconst d_GM_times_141 ?_
              refine gm_pI (k := 15) (v := 1) (J := va_up I 15 1) d_GM_times_142 (GM_w55 _ rfl) (by decide) (jnz (by omega)) rfl rfl ?_
              refine jt_lconst (z := 0) d_GM_times_145 (by decide) ?_
              exact gm_lret d_GM_times_146 rfl (by
    have hp : ¬ gtP x y := by first | exact hfin.1 (by omega) | (intro h2; have h3 := h2.2; rw [(hfin.2 (by omega)).2] at h3; have h4 := gg.mpr h3; omega)
    exact ⟨by unfold gtm; rw [if_neg hp], by unfold gtr; rw [if_neg hp], rfl⟩)
            · skip
              refine jt_lload d_GM_times_128 rfl ?_
              refine jt_ldc2 (z := 68719476736) d_GM_times_130 GM_k179 ?_
              refine jt_lload d_GM_times_133 rfl ?_
              refine jt_ldiv d_GM_times_135 (by unfold jRl; omega) (by unfold jRl; omega) (by omega) ?_
              refine jt_lif_le (t := 147) d_GM_times_136 d_GM_times_137 rfl (by unfold jRl; omega) (by unfold jRl; omega) (fun c144 => ?_) (fun c144 => ?_)
              · skip
                refine jt_aload_n d_GM_times_147 rfl ?_
                refine jt_lload d_GM_times_148 rfl ?_
                refine jt_lload d_GM_times_150 rfl ?_
                refine jt_lmul d_GM_times_152 ?_
                refine jt_topl (fun v145 ev145 => ?_)
                have h4 := gg.mp (by omega)
                refine gct_call (Y := Y_GM_kept) (As := [.long (jL v145)]) (rest := []) d_GM_times_153 GM_c185 yk_GM_kept yv_GM_kept rfl (Nat.le_of_ble_eq_true rfl) rfl rfl (Nat.le_of_ble_eq_true rfl) (c_GM_kept G _ m v145 I A (by unfold jRl; rw [ev145]; omega)) (fun rvq146 Iq146 Aq146 hq146 => ?_)
                obtain ⟨rfl, hIq146, hAq146⟩ := hq146
                rw [hIq146, hAq146]
                show jt _ 156 [(0, .ref m), (1, .long (jL x)), (3, .long (jL y)), (5, .long (jL a)), (7, .long (jL b)), (9, .int (jI s)), (10, .long (jL v136)), (12, .long (jL v142))] [.long (jL (gkp v145))] (gmf m f0 (va_up I 15 (gkr v145 (I 15))) A) _ _ _
                exact gm_lret d_GM_times_156 rfl (by
    have h3 := hfin.2 (by omega)
    have h4 := gg.mp (by omega)
    have hp : gtP x y := ⟨h3.1, by rw [h3.2]; exact h4⟩
    exact ⟨by unfold gkp gtm; rw [if_pos hp, if_pos (by rw [ev145]; exact h4), ev145, h3.2], by unfold gkr gtr; rw [if_pos hp, if_pos (by rw [ev145]; exact h4)], rfl⟩)
              · skip
                refine jt_aload_n d_GM_times_140 rfl ?_
                refine jt_iconst d_GM_times_141 ?_
                refine gm_pI (k := 15) (v := 1) (J := va_up I 15 1) d_GM_times_142 (GM_w55 _ rfl) (by decide) (jnz (by omega)) rfl rfl ?_
                refine jt_lconst (z := 0) d_GM_times_145 (by decide) ?_
                exact gm_lret d_GM_times_146 rfl (by
    have hp : ¬ gtP x y := by first | exact hfin.1 (by omega) | (intro h2; have h3 := h2.2; rw [(hfin.2 (by omega)).2] at h3; have h4 := gg.mpr h3; omega)
    exact ⟨by unfold gtm; rw [if_neg hp], by unfold gtr; rw [if_neg hp], rfl⟩)
      · skip
        have ht := gtm_two b c124
        refine jt_lload d_GM_times_73 rfl ?_
        refine jt_ldc2 (z := 2) d_GM_times_75 GM_k183 ?_
        refine jt_ldiv d_GM_times_78 (by unfold jRl; omega) (by unfold jRl; omega) (by omega) ?_
        refine jt_topl (fun v147 ev147 => ?_)
        refine jt_lstore (L' := [(0, .ref m), (1, .long (jL x)), (3, .long (jL y)), (5, .long (jL a)), (7, .long (jL v147)), (9, .int (jI s))]) d_GM_times_79 (Nat.le_of_ble_eq_true rfl) rfl ?_
        refine jt_iinc (L' := [(0, .ref m), (1, .long (jL x)), (3, .long (jL y)), (5, .long (jL a)), (7, .long (jL v147)), (9, .int (jI (s + 1)))]) d_GM_times_81 rfl (Nat.le_of_ble_eq_true rfl) rfl ?_
        refine jt_goto (t := 55) d_GM_times_84 rfl ?_
        refine ih _ _ (by omega) (by omega) (by omega) (by omega) (by omega) ?_ (by omega) (by omega)
        obtain ⟨k, l, hs, hx, hy⟩ := hkl
        exact ⟨k, l + 1, by omega, hx, by rw [ev147, Int.pow_succ, Int.mul_comm (2 ^ l) 2, ← Int.mul_assoc, ← ht]; exact hy⟩
set_option maxRecDepth 100000 in
set_option maxHeartbeats 4000000 in
theorem l23_GM_times (G : jG) (d m : Nat) (x : Int) (y : Int) (I : Nat → Int) (A : Nat → Int → Int)  (x0 : -4611686018427387904 ≤ x) (x1 : x ≤ 4611686018427387904) (y0 : -4611686018427387904 ≤ y) (y1 : y ≤ 4611686018427387904) (f0 : jF) (sz : Nat)  : ∀ (n9 : Nat) (a : Int) (s : Int), (0 ≤ s) → (s ≤ 16) → (¬ a = 0) → (-4611686018427387904 ≤ a) → (a ≤ 4611686018427387904) → (¬ y = 0) → (∃ k : Nat, s = (k : Int) ∧ x = a * 2 ^ k) → 16 - s < (n9 : Int) → jt (jm G Y_GM_times (gR (d + 1)) (gQ m f0 sz (fun (rv : Option Value) (I2 : Nat → Int) (A2 : Nat → Int → Int) => rv = some (.long (jL (gtm x y))) ∧ I2 = va_up I 15 (gtr x y (I 15)) ∧ A2 = A))) 23 [(0, .ref m), (1, .long (jL x)), (3, .long (jL y)), (5, .long (jL a)), (7, .long (jL y)), (9, .int (jI s))] [] (gmf m f0 I A) sz 0 0 := by
  intro n9
  induction n9 with
  | zero =>
    intro a s s0 s1 a0 a1 a2 yn hk hmeas
    exfalso
    omega
  | succ n9 ih =>
    intro a s s0 s1 a0 a1 a2 yn hk hmeas
    refine jt_iload d_GM_times_23 rfl ?_
    refine jt_bipush d_GM_times_25 (by omega) ?_
    refine jt_icmp_ge (t := 55) d_GM_times_27 rfl (by unfold jRi; omega) (by unfold jRi; omega) (fun c201 => ?_) (fun c201 => ?_)
    · skip
      refine l55_GM_times G d m x y I A  x0 x1 y0 y1 f0 sz a a0 a1 a2 17 _ _ (by omega) (by omega) yn (by omega) (by omega) ?_ (by first | exact Or.inl (by omega) | exact Or.inr (gtm_odd a (by assumption))) (by omega)
      obtain ⟨k, hs, hx⟩ := hk
      exact ⟨k, 0, by rw [hs]; rfl, hx, by rw [Int.pow_zero, Int.mul_one]⟩
    · skip
      have hm := gtd a 2 (by omega)
      refine jt_lload d_GM_times_30 rfl ?_
      refine jt_ldc2 (z := 2) d_GM_times_32 GM_k183 ?_
      refine jt_lrem d_GM_times_35 (by unfold jRl; omega) (by unfold jRl; omega) (by omega) ?_
      refine jt_lconst (z := 0) d_GM_times_36 (by decide) ?_
      refine jt_lif_ne (t := 55) d_GM_times_37 d_GM_times_38 rfl (by unfold jRl; omega) (by unfold jRl; omega) (fun c202 => ?_) (fun c202 => ?_)
      · skip
        refine l55_GM_times G d m x y I A  x0 x1 y0 y1 f0 sz a a0 a1 a2 17 _ _ (by omega) (by omega) yn (by omega) (by omega) ?_ (by first | exact Or.inl (by omega) | exact Or.inr (gtm_odd a (by assumption))) (by omega)
        obtain ⟨k, hs, hx⟩ := hk
        exact ⟨k, 0, by rw [hs]; rfl, hx, by rw [Int.pow_zero, Int.mul_one]⟩
      · skip
        have ht := gtm_two a c202
        refine jt_lload d_GM_times_41 rfl ?_
        refine jt_ldc2 (z := 2) d_GM_times_43 GM_k183 ?_
        refine jt_ldiv d_GM_times_46 (by unfold jRl; omega) (by unfold jRl; omega) (by omega) ?_
        refine jt_topl (fun v203 ev203 => ?_)
        refine jt_lstore (L' := [(0, .ref m), (1, .long (jL x)), (3, .long (jL y)), (5, .long (jL v203)), (7, .long (jL y)), (9, .int (jI s))]) d_GM_times_47 (Nat.le_of_ble_eq_true rfl) rfl ?_
        refine jt_iinc (L' := [(0, .ref m), (1, .long (jL x)), (3, .long (jL y)), (5, .long (jL v203)), (7, .long (jL y)), (9, .int (jI (s + 1)))]) d_GM_times_49 rfl (Nat.le_of_ble_eq_true rfl) rfl ?_
        refine jt_goto (t := 23) d_GM_times_52 rfl ?_
        refine ih _ _ (by omega) (by omega) (by omega) (by omega) (by omega) yn ?_ (by omega)
        obtain ⟨k, hs, hx⟩ := hk
        exact ⟨k + 1, by omega, by rw [ev203, Int.pow_succ, Int.mul_comm (2 ^ k) 2, ← Int.mul_assoc, ← ht]; exact hx⟩
set_option maxRecDepth 100000 in
set_option maxHeartbeats 4000000 in
theorem c_GM_times (G : jG) (d m : Nat) (x : Int) (y : Int) (I : Nat → Int) (A : Nat → Int → Int)  (x0 : -4611686018427387904 ≤ x) (x1 : x ≤ 4611686018427387904) (y0 : -4611686018427387904 ≤ y) (y1 : y ≤ 4611686018427387904) : gct G Y_GM_times (d + 1) m [.long (jL x), .long (jL y)] I A (fun (rv : Option Value) (I2 : Nat → Int) (A2 : Nat → Int → Int) => rv = some (.long (jL (gtm x y))) ∧ I2 = va_up I 15 (gtr x y (I 15)) ∧ A2 = A) := by
  refine gct_of (by decide) (Nat.le_of_ble_eq_true rfl) (fun f0 sz => ?_)
  show jt _ 0 [(0, .ref m), (1, .long (jL x)), (3, .long (jL y))] [] _ _ _ _
  refine jt_lload_n d_GM_times_0 rfl ?_
  refine jt_lconst (z := 0) d_GM_times_1 (by decide) ?_
  refine jt_lif_eq (t := 12) d_GM_times_2 d_GM_times_3 rfl (by unfold jRl; omega) (by unfold jRl; omega) (fun c1 => ?_) (fun c1 => ?_)
  · skip
    have hz : x * y = 0 := by rw [c1, Int.zero_mul]
    refine jt_lconst (z := 0) d_GM_times_12 (by decide) ?_
    exact gm_lret d_GM_times_13 rfl (by
    have hp : gtP x y := by unfold gtP; rw [hz]; decide
    exact ⟨by unfold gtm; rw [if_pos hp, hz]; rfl, by unfold gtr; rw [if_pos hp]; exact gup_id I 15, rfl⟩)
  · skip
    refine jt_lload_n d_GM_times_6 rfl ?_
    refine jt_lconst (z := 0) d_GM_times_7 (by decide) ?_
    refine jt_lif_ne (t := 14) d_GM_times_8 d_GM_times_9 rfl (by unfold jRl; omega) (by unfold jRl; omega) (fun c2 => ?_) (fun c2 => ?_)
    · skip
      refine jt_lload_n d_GM_times_14 rfl ?_
      refine jt_lstore (L' := [(0, .ref m), (1, .long (jL x)), (3, .long (jL y)), (5, .long (jL x))]) d_GM_times_15 (Nat.le_of_ble_eq_true rfl) rfl ?_
      refine jt_lload_n d_GM_times_17 rfl ?_
      refine jt_lstore (L' := [(0, .ref m), (1, .long (jL x)), (3, .long (jL y)), (5, .long (jL x)), (7, .long (jL y))]) d_GM_times_18 (Nat.le_of_ble_eq_true rfl) rfl ?_
      refine jt_iconst d_GM_times_20 ?_
      refine jt_istore (L' := [(0, .ref m), (1, .long (jL x)), (3, .long (jL y)), (5, .long (jL x)), (7, .long (jL y)), (9, .int (jI 0))]) d_GM_times_21 (Nat.le_of_ble_eq_true rfl) rfl ?_
      exact l23_GM_times G d m x y I A  x0 x1 y0 y1 f0 sz 17 _ _ (by omega) (by omega) (by assumption) (by omega) (by omega) (by assumption) ⟨0, rfl, by rw [Int.pow_zero, Int.mul_one]⟩ (by omega)
    · skip
      have hz : x * y = 0 := by rw [c2, Int.mul_zero]
      refine jt_lconst (z := 0) d_GM_times_12 (by decide) ?_
      exact gm_lret d_GM_times_13 rfl (by
    have hp : gtP x y := by unfold gtP; rw [hz]; decide
    exact ⟨by unfold gtm; rw [if_pos hp, hz]; rfl, by unfold gtr; rw [if_pos hp]; exact gup_id I 15, rfl⟩)
set_option maxRecDepth 100000 in
set_option maxHeartbeats 4000000 in
theorem l3_GM_scale (G : jG) (d m : Nat) (f : Int) (t : Int) (I : Nat → Int) (A : Nat → Int → Int)  (h0 : 0 ≤ f) (h1 : f < 400) (hr : ∀ j, 0 ≤ j → j < 13 → -4611686018427387904 ≤ A 35 (f * 13 + j) ∧ A 35 (f * 13 + j) ≤ 4611686018427387904) (t0 : -4611686018427387904 ≤ t) (t1 : t ≤ 4611686018427387904) (f0 : jF) (sz : Nat)  : ∀ (n9 : Nat) (i : Int) (r : Int) (W : Int → Int), (0 ≤ i) → (i ≤ 13) → (∀ z, W z = if f * 13 ≤ z ∧ z < f * 13 + i then gtm (A 35 z) t else A 35 z) → ((∀ j, 0 ≤ j → j < i → gtP (A 35 (f * 13 + j)) t) → r = I 15) → (¬ (∀ j, 0 ≤ j → j < i → gtP (A 35 (f * 13 + j)) t) → r = 1) → 13 - i < (n9 : Int) → jt (jm G Y_GM_scale (gR (d + 2)) (gQ m f0 sz (fun rv I2 A2 => rv = none ∧ ∃ (r : Int) (W : Int → Int), I2 = va_up I 15 r ∧ A2 = va_up A 35 W ∧ (∀ z, W z = if f * 13 ≤ z ∧ z < f * 13 + 13 then gtm (A 35 z) t else A 35 z) ∧ ((∀ j, 0 ≤ j → j < 13 → gtP (A 35 (f * 13 + j)) t) → r = I 15) ∧ (¬ (∀ j, 0 ≤ j → j < 13 → gtP (A 35 (f * 13 + j)) t) → r = 1)))) 3 [(0, .ref m), (1, .int (jI f)), (2, .long (jL t)), (4, .int (jI i))] [] (gmf m f0 (va_up I 15 r) (va_up A 35 W)) sz 0 0 := by
  intro n9
  induction n9 with
  | zero =>
    intro i r W i0 i1 hW ha hb hmeas
    exfalso
    omega
  | succ n9 ih =>
    intro i r W i0 i1 hW ha hb hmeas
    refine jt_iload d_GM_scale_3 rfl ?_
    refine jt_bipush d_GM_scale_5 (by omega) ?_
    refine jt_icmp_ge (t := 45) d_GM_scale_7 rfl (by unfold jRi; omega) (by unfold jRi; omega) (fun c101 => ?_) (fun c101 => ?_)
    · skip
      exact gm_vret d_GM_scale_45 rfl (by
    obtain rfl : i = 13 := by omega
    exact ⟨rfl, r, W, rfl, rfl, hW, ha, hb⟩)
    · skip
      have e0 : W (f * 13 + i) = A 35 (f * 13 + i) := by rw [hW, if_neg (by omega)]
      have q0 := hr i (by omega) (by omega)
      refine jt_aload_n d_GM_scale_10 rfl ?_
      refine gm_gA (k := 35) (a := m + 20) d_GM_scale_11 GM_f118 (by decide) (by decide) rfl ?_
      refine jt_iload_n d_GM_scale_14 rfl ?_
      refine jt_bipush d_GM_scale_15 (by omega) ?_
      refine jt_imul d_GM_scale_17 ?_
      refine jt_iload d_GM_scale_18 rfl ?_
      refine jt_iadd d_GM_scale_20 ?_
      refine jt_aload_n d_GM_scale_21 rfl ?_
      refine jt_aload_n d_GM_scale_22 rfl ?_
      refine gm_gA (k := 35) (a := m + 20) d_GM_scale_23 GM_f118 (by decide) (by decide) rfl ?_
      refine jt_iload_n d_GM_scale_26 rfl ?_
      refine jt_bipush d_GM_scale_27 (by omega) ?_
      refine jt_imul d_GM_scale_29 ?_
      refine jt_iload d_GM_scale_30 rfl ?_
      refine jt_iadd d_GM_scale_32 ?_
      refine gm_ld1 (k := 35) (n := 5200) (v := W ((f * 13) + i)) d_GM_scale_33 rfl (by decide) (by decide) rfl rfl (by omega) (by omega) (by omega) rfl ?_
      refine jt_topl (fun v102 ev102 => ?_)
      refine jt_lload_n d_GM_scale_34 rfl ?_
      refine gct_call (Y := Y_GM_times) (As := [.long (jL v102), .long (jL t)]) (rest := [.int (jI ((f * 13) + i)), .ref (m + 20)]) d_GM_scale_35 GM_c189 yk_GM_times yv_GM_times rfl (Nat.le_of_ble_eq_true rfl) rfl rfl (Nat.le_of_ble_eq_true rfl) (c_GM_times G _ m v102 t (va_up I 15 r) (va_up A 35 W) (by omega) (by omega) t0 t1) (fun rvq103 Iq103 Aq103 hq103 => ?_)
      obtain ⟨rfl, hIq103, hAq103⟩ := hq103
      rw [hIq103, hAq103]
      refine gm_eI (J := va_up I 15 (gtr v102 t r)) (bx_uu _ _ _ _) ?_
      show jt _ 38 [(0, .ref m), (1, .int (jI f)), (2, .long (jL t)), (4, .int (jI i))] [.long (jL (gtm v102 t)), .int (jI ((f * 13) + i)), .ref (m + 20)] (gmf m f0 (va_up I 15 (gtr v102 t r)) (va_up A 35 W)) _ _ _
      refine jt_topl (fun v104 ev104 => ?_)
      refine gm_st1 (k := 35) (n := 5200) (B := va_up A 35 (ju W ((f * 13) + i) v104)) d_GM_scale_38 rfl (by decide) (by decide) rfl rfl (by omega) (by omega) (by omega) (bx_uu _ _ _ _) ?_
      refine jt_iinc (L' := [(0, .ref m), (1, .int (jI f)), (2, .long (jL t)), (4, .int (jI (i + 1)))]) d_GM_scale_39 rfl (Nat.le_of_ble_eq_true rfl) rfl ?_
      refine jt_goto (t := 3) d_GM_scale_42 rfl ?_
      have ev : v102 = A 35 (f * 13 + i) := by rw [ev102, e0]
      refine ih _ _ _ (by omega) (by omega) (fun z => ?_) (fun h => ?_) (fun h => ?_) (by omega)
      · unfold ju
        by_cases hz : z = f * 13 + i
        · rw [if_pos hz, if_pos (by omega), ev104, ev, hz]
        · rw [if_neg hz, hW z]
          by_cases hy : f * 13 ≤ z ∧ z < f * 13 + i
          · rw [if_pos hy, if_pos (by omega)]
          · rw [if_neg hy, if_neg (by omega)]
      · unfold gtr
        rw [ev, if_pos (h i (by omega) (by omega))]
        exact ha (fun j a b => h j a (by omega))
      · unfold gtr
        rw [ev]
        by_cases hq : gtP (A 35 (f * 13 + i)) t
        · rw [if_pos hq]
          refine hb (fun h2 => h (fun j a b => ?_))
          by_cases hj : j = i
          · rw [hj]; exact hq
          · exact h2 j a (by omega)
        · rw [if_neg hq]
set_option maxRecDepth 100000 in
set_option maxHeartbeats 4000000 in
theorem c_GM_scale (G : jG) (d m : Nat) (f : Int) (t : Int) (I : Nat → Int) (A : Nat → Int → Int)  (h0 : 0 ≤ f) (h1 : f < 400) (hr : ∀ j, 0 ≤ j → j < 13 → -4611686018427387904 ≤ A 35 (f * 13 + j) ∧ A 35 (f * 13 + j) ≤ 4611686018427387904) (t0 : -4611686018427387904 ≤ t) (t1 : t ≤ 4611686018427387904) : gct G Y_GM_scale (d + 2) m [.int (jI f), .long (jL t)] I A (fun rv I2 A2 => rv = none ∧ ∃ (r : Int) (W : Int → Int), I2 = va_up I 15 r ∧ A2 = va_up A 35 W ∧ (∀ z, W z = if f * 13 ≤ z ∧ z < f * 13 + 13 then gtm (A 35 z) t else A 35 z) ∧ ((∀ j, 0 ≤ j → j < 13 → gtP (A 35 (f * 13 + j)) t) → r = I 15) ∧ (¬ (∀ j, 0 ≤ j → j < 13 → gtP (A 35 (f * 13 + j)) t) → r = 1)) := by
  refine gct_of (by decide) (Nat.le_of_ble_eq_true rfl) (fun f0 sz => ?_)
  show jt _ 0 [(0, .ref m), (1, .int (jI f)), (2, .long (jL t))] [] _ _ _ _
  refine jt_iconst d_GM_scale_0 ?_
  refine jt_istore (L' := [(0, .ref m), (1, .int (jI f)), (2, .long (jL t)), (4, .int (jI 0))]) d_GM_scale_1 (Nat.le_of_ble_eq_true rfl) rfl ?_
  refine gm_eI (J := va_up I 15 (I 15)) (gup_id I 15) ?_
  refine gm_eA (B := va_up A 35 (A 35)) (gup_id A 35) ?_
  exact l3_GM_scale G d m f t I A  h0 h1 hr t0 t1 f0 sz 14 _ _ _ (by omega) (by omega) (fun z => by rw [if_neg (by omega)]) (fun _ => rfl) (fun h => absurd (fun j a b => by omega) h) (by omega)

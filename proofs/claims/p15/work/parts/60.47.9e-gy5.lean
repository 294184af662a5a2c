set_option maxRecDepth 100000 in
set_option maxHeartbeats 1000000 in
theorem l42_GM_refreshy (G : jG) (d m : Nat) (f : Int) (I : Nat → Int) (A : Nat → Int → Int) (hI : gSI I) (hA : gSA A) (h0 : 0 ≤ f) (h1 : f < 400) (hne : f ≠ 398) (F9 : Int → Int) (hF9 : ∀ i, 0 ≤ i → i < 13 → A 35 (f * 13 + i) = F9 i) (hFi : inr F9) (V9 : Int → Int → Int) (hV : gVr V9 A) (hI9 : VI (A 30) V9) (f0 : jF) (sz : Nat) (v : Int) (v0 : 0 ≤ v) (v1 : v < 12) (hout : ∀ (i : Int) (J : Nat → Int) (B : Nat → Int → Int), gPo [15] [33, 34, 35] I A J B → (0 ≤ i) → (i ≤ 13) → (J 15 = I 15) → (∀ j, 0 ≤ j → j < 13 → B 33 j = rW (A 30) F9 V9 j v) → (∀ j, 0 ≤ j → j < 13 → B 34 j = rP (A 30) F9 V9 j v) → (∀ z, 0 ≤ z → z < 13 → B 35 (f * 13 + z) = fr (A 30) F9 v z) → (∀ z, ¬ (f * 13 ≤ z ∧ z < f * 13 + 13) → ¬ (5174 ≤ z ∧ z < 5187) → B 35 z = A 35 z) → (∀ j, 0 ≤ j → j < i → B 35 (5174 + j) = A 31 (v * 13 + j)) → (i = 13) → jt (jm G Y_GM_refresh (gR (d + 2)) (gQ m f0 sz (fun (rv : Option Value) (I2 : Nat → Int) (A2 : Nat → Int → Int) => rv = none ∧ gPo [15] [33, 34, 35] I A I2 A2 ∧ rfQ f F9 V9 I A I2 A2))) 75 [(0, .ref m), (1, .int (jI f)), (2, .int (jI v)), (3, .int (jI i))] [] (gmf m f0 J B) sz 0 0) : ∀ (n9 : Nat) (i : Int) (J : Nat → Int) (B : Nat → Int → Int), gPo [15] [33, 34, 35] I A J B → (0 ≤ i) → (i ≤ 13) → (J 15 = I 15) → (∀ j, 0 ≤ j → j < 13 → B 33 j = rW (A 30) F9 V9 j v) → (∀ j, 0 ≤ j → j < 13 → B 34 j = rP (A 30) F9 V9 j v) → (∀ z, 0 ≤ z → z < 13 → B 35 (f * 13 + z) = fr (A 30) F9 v z) → (∀ z, ¬ (f * 13 ≤ z ∧ z < f * 13 + 13) → ¬ (5174 ≤ z ∧ z < 5187) → B 35 z = A 35 z) → (∀ j, 0 ≤ j → j < i → B 35 (5174 + j) = A 31 (v * 13 + j)) → 13 - i < (n9 : Int) → jt (jm G Y_GM_refresh (gR (d + 2)) (gQ m f0 sz (fun (rv : Option Value) (I2 : Nat → Int) (A2 : Nat → Int → Int) => rv = none ∧ gPo [15] [33, 34, 35] I A I2 A2 ∧ rfQ f F9 V9 I A I2 A2))) 42 [(0, .ref m), (1, .int (jI f)), (2, .int (jI v)), (3, .int (jI i))] [] (gmf m f0 J B) sz 0 0 := by
  intro n9
  induction n9 with
  | zero =>
    intro i J B hJ i0 i1 j15 h33 h34 hf ho hk hmeas
    have f30 : B 30 = A 30 := hJ.2.2.2 30 rfl
    have f31 : B 31 = A 31 := hJ.2.2.2 31 rfl
    exfalso
    omega
  | succ n9 ih =>
    intro i J B hJ i0 i1 j15 h33 h34 hf ho hk hmeas
    have f30 : B 30 = A 30 := hJ.2.2.2 30 rfl
    have f31 : B 31 = A 31 := hJ.2.2.2 31 rfl
    refine jt_iload_n d_GM_refresh_42 rfl ?_
    refine jt_bipush d_GM_refresh_43 (by omega) ?_
    refine jt_icmp_ge (t := 75) d_GM_refresh_45 rfl (by unfold jRi; omega) (by unfold jRi; omega) (fun c101 => ?_) (fun c101 => ?_)
    · skip
      exact hout i J B hJ i0 i1 j15 h33 h34 hf ho hk (by omega)
    · skip
      refine jt_aload_n d_GM_refresh_48 rfl ?_
      refine gm_gA (k := 35) (a := m + 20) d_GM_refresh_49 GM_f118 (by decide) (by decide) rfl ?_
      refine jt_sipush d_GM_refresh_52 (by omega) ?_
      refine jt_iload_n d_GM_refresh_55 rfl ?_
      refine jt_iadd d_GM_refresh_56 ?_
      refine jt_aload_n d_GM_refresh_57 rfl ?_
      refine gm_gA (k := 31) (a := m + 16) d_GM_refresh_58 GM_f105 (by decide) (by decide) rfl ?_
      refine jt_iload_n d_GM_refresh_61 rfl ?_
      refine jt_bipush d_GM_refresh_62 (by omega) ?_
      refine jt_imul d_GM_refresh_64 ?_
      refine jt_iload_n d_GM_refresh_65 rfl ?_
      refine jt_iadd d_GM_refresh_66 ?_
      refine gm_ld1 (k := 31) (n := 156) (v := (B 31) ((v * 13) + i)) d_GM_refresh_67 rfl (by decide) (by decide) rfl rfl (by omega) (by omega) (by omega) rfl ?_
      refine jt_topl (fun v102 ev102 => ?_)
      have bv102 : (-9223372036854775808) ≤ v102 ∧ v102 ≤ 9223372036854775807 := by rw [ev102]; exact hJ.2.1 31 ((v * 13) + i)
      rw [f31] at ev102
      refine gm_st1 (k := 35) (n := 5200) (B := va_up B 35 (ju (B 35) (5174 + i) v102)) d_GM_refresh_68 rfl (by decide) (by decide) rfl rfl (by omega) (by omega) (by omega) rfl ?_
      have p103 := gPo.A 35 (ju (B 35) (5174 + i) v102) hJ rfl (gju (hJ.2.1 35) (show -9223372036854775808 ≤ v102 ∧ v102 ≤ 9223372036854775807 by omega))
      refine jt_iinc (L' := [(0, .ref m), (1, .int (jI f)), (2, .int (jI v)), (3, .int (jI (i + 1)))]) d_GM_refresh_69 rfl (Nat.le_of_ble_eq_true rfl) rfl ?_
      refine jt_goto (t := 42) d_GM_refresh_72 rfl ?_
      exact ih (i + 1) J (va_up B 35 (ju (B 35) (5174 + i) v102)) p103 (by omega) (by omega) j15 (fun j a c => h33 j a c) (fun j a c => h34 j a c) (fun z a c => (ju_ne _ _ (by omega)).trans (hf z a c)) (fun z z1 z2 => (ju_ne _ _ (by omega)).trans (ho z z1 z2)) (fun j a c => by rcases Classical.em (j = i) with e9 | e9; exact (by rw [e9]; exact (ju_self _ _ _).trans (by rw [ev102])); exact (ju_ne _ _ (by omega)).trans (hk j a (by omega))) (by omega)
set_option maxRecDepth 100000 in
set_option maxHeartbeats 1000000 in
theorem l6_GM_refreshy (G : jG) (d m : Nat) (f : Int) (I : Nat → Int) (A : Nat → Int → Int) (hI : gSI I) (hA : gSA A) (h0 : 0 ≤ f) (h1 : f < 400) (hne : f ≠ 398) (F9 : Int → Int) (hF9 : ∀ i, 0 ≤ i → i < 13 → A 35 (f * 13 + i) = F9 i) (hFi : inr F9) (V9 : Int → Int → Int) (hV : gVr V9 A) (hI9 : VI (A 30) V9) (f0 : jF) (sz : Nat)  : ∀ (n9 : Nat) (v : Int) (J : Nat → Int) (B : Nat → Int → Int), gPo [15] [33, 34, 35] I A J B → (0 ≤ v) → (v ≤ 12) → (J 15 = I 15) → (∀ j, 0 ≤ j → j < 13 → B 33 j = rW (A 30) F9 V9 j v) → (∀ j, 0 ≤ j → j < 13 → B 34 j = rP (A 30) F9 V9 j v) → (∀ z, 0 ≤ z → z < 13 → B 35 (f * 13 + z) = fr (A 30) F9 v z) → (∀ z, ¬ (f * 13 ≤ z ∧ z < f * 13 + 13) → ¬ (5174 ≤ z ∧ z < 5187) → B 35 z = A 35 z) → 12 - v < (n9 : Int) → jt (jm G Y_GM_refresh (gR (d + 2)) (gQ m f0 sz (fun (rv : Option Value) (I2 : Nat → Int) (A2 : Nat → Int → Int) => rv = none ∧ gPo [15] [33, 34, 35] I A I2 A2 ∧ rfQ f F9 V9 I A I2 A2))) 6 [(0, .ref m), (1, .int (jI f)), (2, .int (jI v))] [] (gmf m f0 J B) sz 0 0 := by
  intro n9
  induction n9 with
  | zero =>
    intro v J B hJ v0 v1 j15 h33 h34 hf ho hmeas
    have f30 : B 30 = A 30 := hJ.2.2.2 30 rfl
    have f31 : B 31 = A 31 := hJ.2.2.2 31 rfl
    exfalso
    omega
  | succ n9 ih =>
    intro v J B hJ v0 v1 j15 h33 h34 hf ho hmeas
    have f30 : B 30 = A 30 := hJ.2.2.2 30 rfl
    have f31 : B 31 = A 31 := hJ.2.2.2 31 rfl
    refine jt_iload_n d_GM_refresh_6 rfl ?_
    refine jt_bipush d_GM_refresh_7 (by omega) ?_
    refine jt_icmp_ge (t := 90) d_GM_refresh_9 rfl (by unfold jRi; omega) (by unfold jRi; omega) (fun c201 => ?_) (fun c201 => ?_)
    · skip
      refine jt_aload_n d_GM_refresh_90 rfl ?_
      refine jt_iload_n d_GM_refresh_91 rfl ?_
      refine gct_call (Y := Y_GM_addSums) (As := [.int (jI f)]) (rest := []) d_GM_refresh_92 GM_c301 yk_GM_addSums yv_GM_addSums rfl (Nat.le_of_ble_eq_true rfl) rfl rfl (Nat.le_of_ble_eq_true rfl) (y_GM_addSums G _ m f J B hJ.1 hJ.2.1 (by omega) (by omega) (fun j a c => by rw [hf j a c, h33 j a c]; have q1 := rW_b (s := A 30) hFi (fun v a c => (hV v a c).1) (show 0 ≤ v by omega) (by omega) a c; have q3 := hFi j a c; unfold fr; split <;> omega)) (fun rvq202 Iq202 Aq202 hq202 => ?_)
      obtain ⟨rfl, hqq202, hxq202⟩ := hq202
      have hpq202 := gPo.trans hJ hqq202 rfl rfl
      have f1q202 : Iq202 1 = I 1 := hpq202.2.2.1 1 rfl
      show jt _ 95 [(0, .ref m), (1, .int (jI f)), (2, .int (jI v))] [] (gmf m f0 Iq202 Aq202) _ _ _
      exact gm_vret d_GM_refresh_95 rfl (⟨rfl, hpq202, by obtain rfl : v = 12 := (by omega); exact rf_end hI9 j15 h33 h34 hf ho hxq202⟩)
    · skip
      refine jt_aload_n d_GM_refresh_12 rfl ?_
      refine gm_gA (k := 30) (a := m + 15) d_GM_refresh_13 GM_f102 (by decide) (by decide) rfl ?_
      refine jt_iload_n d_GM_refresh_16 rfl ?_
      refine gm_ld0 (k := 30) (n := 12) (v := (B 30) v) d_GM_refresh_17 rfl (by decide) (by decide) rfl rfl (by omega) (by omega) (by omega) rfl ?_
      refine jt_topi (fun v203 ev203 => ?_)
      have bv203 : (-2147483648) ≤ v203 ∧ v203 ≤ 2147483647 := by rw [ev203]; exact hJ.2.1 30 v
      rw [f30] at ev203
      refine jt_if_eq (t := 84) d_GM_refresh_18 rfl (by unfold jRi; omega) (fun c204 => ?_) (fun c204 => ?_)
      · skip
        refine jt_iinc (L' := [(0, .ref m), (1, .int (jI f)), (2, .int (jI (v + 1)))]) d_GM_refresh_84 rfl (Nat.le_of_ble_eq_true rfl) rfl ?_
        refine jt_goto (t := 6) d_GM_refresh_87 rfl ?_
        exact ih (v + 1) J B hJ (by omega) (by omega) j15 (fun j a c => by first | (rw [h33 j a c, rW_s (by omega), if_pos (by omega)]; omega) | (rw [h33 j a c, rW_s (by omega), if_neg (by omega), show F9 v = 0 by omega]; omega)) (fun j a c => by first | (rw [h34 j a c, rP_s (by omega), if_pos (by omega)]; omega) | (rw [h34 j a c, rP_s (by omega), if_neg (by omega), show F9 v = 0 by omega]; omega)) (fun z a c => by rw [hf z a c]; exact (fr_s (by first | exact Or.inl (by omega) | exact Or.inr (by omega))).symm) ho (by omega)
      · skip
        refine jt_aload_n d_GM_refresh_21 rfl ?_
        refine gm_gA (k := 35) (a := m + 20) d_GM_refresh_22 GM_f118 (by decide) (by decide) rfl ?_
        refine jt_iload_n d_GM_refresh_25 rfl ?_
        refine jt_bipush d_GM_refresh_26 (by omega) ?_
        refine jt_imul d_GM_refresh_28 ?_
        refine jt_iload_n d_GM_refresh_29 rfl ?_
        refine jt_iadd d_GM_refresh_30 ?_
        refine gm_ld1 (k := 35) (n := 5200) (v := (B 35) ((f * 13) + v)) d_GM_refresh_31 rfl (by decide) (by decide) rfl rfl (by omega) (by omega) (by omega) rfl ?_
        refine jt_topl (fun v205 ev205 => ?_)
        have bv205 : (-9223372036854775808) ≤ v205 ∧ v205 ≤ 9223372036854775807 := by rw [ev205]; exact hJ.2.1 35 ((f * 13) + v)
        have ew : v205 = F9 v := by rw [ev205, hf v (by omega) (by omega)]; exact fr_v
        refine jt_lconst (z := 0) d_GM_refresh_32 (by decide) ?_
        refine jt_lif_ne (t := 40) d_GM_refresh_33 d_GM_refresh_34 rfl (by unfold jRl; omega) (by unfold jRl; omega) (fun c206 => ?_) (fun c206 => ?_)
        · skip
          refine jt_iconst d_GM_refresh_40 ?_
          refine jt_istore_n (L' := [(0, .ref m), (1, .int (jI f)), (2, .int (jI v)), (3, .int (jI 0))]) d_GM_refresh_41 (Nat.le_of_ble_eq_true rfl) rfl ?_
          refine l42_GM_refreshy G d m f I A hI hA h0 h1 hne F9 hF9 hFi V9 hV hI9 f0 sz v ((by omega)) ((by omega)) (fun io207 Jo207 Bo207 hJo207 i0o207 i1o207 j15o207 h33o207 h34o207 hfo207 hoo207 hko207 izo207 => ?_) 14 0 J B hJ (by omega) (by omega) j15 h33 h34 hf ho (fun j a c => by omega) (by omega)
          have ew2 : Bo207 35 (f * 13 + v) = F9 v := by rw [hfo207 v (by omega) (by omega)]; exact fr_v
          have ek : ∀ j, 0 ≤ j → j < 13 → Bo207 35 (398 * 13 + j) = V9 v j := fun j a c => by rw [show (398 : Int) * 13 + j = 5174 + j by omega, hko207 j a (by omega)]; exact ((hV v (by omega) (by omega)).2.2 (by omega) j a c).symm
          have nb : ∀ j, 0 ≤ j → j < 13 → Bo207 33 j + F9 v / 65536 * V9 v j = rW (A 30) F9 V9 j (v + 1) ∧ Bo207 34 j + F9 v % 65536 * V9 v j = rP (A 30) F9 V9 j (v + 1) := fun j a c => ⟨by rw [h33o207 j a c, rW_s (by omega), if_neg (by omega)], by rw [h34o207 j a c, rP_s (by omega), if_neg (by omega)]⟩
          refine jt_aload_n d_GM_refresh_75 rfl ?_
          refine jt_iload_n d_GM_refresh_76 rfl ?_
          refine jt_iload_n d_GM_refresh_77 rfl ?_
          refine jt_sipush d_GM_refresh_78 (by omega) ?_
          refine gct_call (Y := Y_GM_replaceIn) (As := [.int (jI f), .int (jI v), .int (jI 398)]) (rest := []) d_GM_refresh_81 GM_c298 yk_GM_replaceIn yv_GM_replaceIn rfl (Nat.le_of_ble_eq_true rfl) rfl rfl (Nat.le_of_ble_eq_true rfl) (y_GM_replaceIn G _ m f v 398 Jo207 Bo207 hJo207.1 hJo207.2.1 (by omega) (by omega) (by omega) (by omega) (by omega) (by omega) (by omega) (fun j a c => by rw [ew2, ek j a c, (nb j a c).1, (nb j a c).2]; have q1 := rW_b (s := A 30) hFi (fun v a c => (hV v a c).1) (show 0 ≤ v + 1 by omega) (by omega) a c; have q2 := rP_b (s := A 30) hFi (fun v a c => (hV v a c).1) (show 0 ≤ v + 1 by omega) (by omega) a c; omega)) (fun rvq208 Iq208 Aq208 hq208 => ?_)
          obtain ⟨rfl, hqq208, hxq208⟩ := hq208
          have hpq208 := gPo.trans hJo207 hqq208 rfl rfl
          have f1q208 : Iq208 1 = I 1 := hpq208.2.2.1 1 rfl
          show jt _ 84 [(0, .ref m), (1, .int (jI f)), (2, .int (jI v)), (3, .int (jI io207))] [] (gmf m f0 Iq208 Aq208) _ _ _
          refine jt_iinc (L' := [(0, .ref m), (1, .int (jI f)), (2, .int (jI (v + 1))), (3, .int (jI io207))]) d_GM_refresh_84 rfl (Nat.le_of_ble_eq_true rfl) rfl ?_
          refine jt_goto (t := 6) d_GM_refresh_87 rfl ?_
          refine jt_sub (L' := [(0, .ref m), (1, .int (jI f)), (2, .int (jI (v + 1)))]) (fun _ h => List.mem_append_left [(3, Value.int (jI io207))] h) ?_
          exact ih (v + 1) Iq208 Aq208 hpq208 (by omega) (by omega) ((hqq208.2.2.1 15 rfl).trans j15o207) (fun j a c => by rw [(hxq208.2 j a c).1, ew2, ek j a c]; exact (nb j a c).1) (fun j a c => by rw [(hxq208.2 j a c).2, ew2, ek j a c]; exact (nb j a c).2) (fun z a c => by rw [hxq208.1, fr_z (by omega)]; rcases Classical.em (z = v) with e9 | e9; exact (by rw [e9, if_pos rfl]; exact ju_self _ _ _); exact (by rw [if_neg e9, ju_ne _ _ (by omega)]; exact hfo207 z a c)) (fun z z1 z2 => by rw [hxq208.1, ju_ne _ _ (by omega)]; exact hoo207 z z1 z2) (by omega)
        · skip
          refine jt_goto (t := 84) d_GM_refresh_37 rfl ?_
          refine jt_iinc (L' := [(0, .ref m), (1, .int (jI f)), (2, .int (jI (v + 1)))]) d_GM_refresh_84 rfl (Nat.le_of_ble_eq_true rfl) rfl ?_
          refine jt_goto (t := 6) d_GM_refresh_87 rfl ?_
          exact ih (v + 1) J B hJ (by omega) (by omega) j15 (fun j a c => by first | (rw [h33 j a c, rW_s (by omega), if_pos (by omega)]; omega) | (rw [h33 j a c, rW_s (by omega), if_neg (by omega), show F9 v = 0 by omega]; omega)) (fun j a c => by first | (rw [h34 j a c, rP_s (by omega), if_pos (by omega)]; omega) | (rw [h34 j a c, rP_s (by omega), if_neg (by omega), show F9 v = 0 by omega]; omega)) (fun z a c => by rw [hf z a c]; exact (fr_s (by first | exact Or.inl (by omega) | exact Or.inr (by omega))).symm) ho (by omega)
set_option maxRecDepth 100000 in
set_option maxHeartbeats 1000000 in
theorem y_GM_refresh (G : jG) (d m : Nat) (f : Int) (I : Nat → Int) (A : Nat → Int → Int) (hI : gSI I) (hA : gSA A) (h0 : 0 ≤ f) (h1 : f < 400) (hne : f ≠ 398) (F9 : Int → Int) (hF9 : ∀ i, 0 ≤ i → i < 13 → A 35 (f * 13 + i) = F9 i) (hFi : inr F9) (V9 : Int → Int → Int) (hV : gVr V9 A) (hI9 : VI (A 30) V9) : gct G Y_GM_refresh (d + 2) m [.int (jI f)] I A (fun (rv : Option Value) (I2 : Nat → Int) (A2 : Nat → Int → Int) => rv = none ∧ gPo [15] [33, 34, 35] I A I2 A2 ∧ rfQ f F9 V9 I A I2 A2) := by
  refine gct_of (by decide) (Nat.le_of_ble_eq_true rfl) (fun f0 sz => ?_)
  show jt _ 0 [(0, .ref m), (1, .int (jI f))] [] _ _ _ _
  have hz0 : gPo [15] [33, 34, 35] I A I A := gPo.refl hI hA
  refine jt_aload_n d_GM_refresh_0 rfl ?_
  refine gct_call (Y := Y_GM_beginSums) (As := []) (rest := []) d_GM_refresh_1 GM_c295 yk_GM_beginSums yv_GM_beginSums rfl (Nat.le_of_ble_eq_true rfl) rfl rfl (Nat.le_of_ble_eq_true rfl) (y_GM_beginSums G _ m  I A hz0.1 hz0.2.1 ) (fun rvq1 Iq1 Aq1 hq1 => ?_)
  obtain ⟨rfl, hqq1, hxq1⟩ := hq1
  have hpq1 := gPo.trans hz0 hqq1 rfl rfl
  have f1q1 : Iq1 1 = I 1 := hpq1.2.2.1 1 rfl
  show jt _ 4 [(0, .ref m), (1, .int (jI f))] [] (gmf m f0 Iq1 Aq1) _ _ _
  refine jt_iconst d_GM_refresh_4 ?_
  refine jt_istore_n (L' := [(0, .ref m), (1, .int (jI f)), (2, .int (jI 0))]) d_GM_refresh_5 (Nat.le_of_ble_eq_true rfl) rfl ?_
  exact l6_GM_refreshy G d m f I A hI hA h0 h1 hne F9 hF9 hFi V9 hV hI9 f0 sz  13 0 Iq1 Aq1 hpq1 (by omega) (by omega) (hqq1.2.2.1 15 rfl) (fun j a c => (hxq1 j a c).1) (fun j a c => (hxq1 j a c).2) (fun z a c => by rw [hqq1.2.2.2 35 rfl, hF9 z a c]; exact (fr_0 a).symm) (fun z _ _ => by rw [hqq1.2.2.2 35 rfl]) (by omega)
set_option maxRecDepth 100000 in
set_option maxHeartbeats 1000000 in
theorem l7_GM_pivoty (G : jG) (d m : Nat) (f : Int) (I : Nat → Int) (A : Nat → Int → Int) (hI : gSI I) (hA : gSA A) (h0 : 0 ≤ f) (h1 : f < 400) (D9 : Int → Int) (hD9 : ∀ i, 0 ≤ i → i < 13 → A 35 (f * 13 + i) = D9 i) (hw : wid D9) (f0 : jF) (sz : Nat)  : ∀ (n9 : Nat) (b : Int) (q : Int) (v : Int) (J : Nat → Int) (B : Nat → Int → Int), gPo [] [] I A J B → (-1 ≤ b) → (b ≤ 11) → (0 ≤ q ∧ q ≤ 9223372036854775807) → (0 ≤ v) → (v ≤ 12) → (CS D9 b q v) → 12 - v < (n9 : Int) → jt (jm G Y_GM_pivot (gR d) (gQ m f0 sz (fun (rv : Option Value) (I2 : Nat → Int) (A2 : Nat → Int → Int) => ∃ y : Int, rv = some (.int (jI y)) ∧ (-1 ≤ y ∧ y ≤ 11) ∧ gPo [] [] I A I2 A2 ∧ (y < 0 → PV0 D9) ∧ (0 ≤ y → PVt D9 y)))) 7 [(0, .ref m), (1, .int (jI f)), (2, .int (jI b)), (3, .long (jL q)), (5, .int (jI v))] [] (gmf m f0 J B) sz 0 0 := by
  intro n9
  induction n9 with
  | zero =>
    intro b q v J B hJ b0 b1 q0 v0 v1 hc hmeas
    have f35 : B 35 = A 35 := hJ.2.2.2 35 rfl
    exfalso
    omega
  | succ n9 ih =>
    intro b q v J B hJ b0 b1 q0 v0 v1 hc hmeas
    have f35 : B 35 = A 35 := hJ.2.2.2 35 rfl
    refine jt_iload d_GM_pivot_7 rfl ?_
    refine jt_bipush d_GM_pivot_9 (by omega) ?_
    refine jt_icmp_ge (t := 95) d_GM_pivot_11 rfl (by unfold jRi; omega) (by unfold jRi; omega) (fun c101 => ?_) (fun c101 => ?_)
    · skip
      refine jt_iload_n d_GM_pivot_95 rfl ?_
      exact gm_ret d_GM_pivot_96 rfl rfl (⟨b, rfl, by omega, hJ, fun z => CS_n (by rw [show v = 12 by omega] at hc; exact hc) z, fun z => CS_p (by rw [show v = 12 by omega] at hc; exact hc) z⟩)
    · skip
      refine jt_aload_n d_GM_pivot_14 rfl ?_
      refine gm_gA (k := 35) (a := m + 20) d_GM_pivot_15 GM_f118 (by decide) (by decide) rfl ?_
      refine jt_iload_n d_GM_pivot_18 rfl ?_
      refine jt_bipush d_GM_pivot_19 (by omega) ?_
      refine jt_imul d_GM_pivot_21 ?_
      refine jt_iload d_GM_pivot_22 rfl ?_
      refine jt_iadd d_GM_pivot_24 ?_
      refine gm_ld1 (k := 35) (n := 5200) (v := (B 35) ((f * 13) + v)) d_GM_pivot_25 rfl (by decide) (by decide) rfl rfl (by omega) (by omega) (by omega) rfl ?_
      refine jt_topl (fun v102 ev102 => ?_)
      have bv102 : (-9223372036854775808) ≤ v102 ∧ v102 ≤ 9223372036854775807 := by rw [ev102]; exact hJ.2.1 35 ((f * 13) + v)
      have ed : v102 = D9 v := by rw [ev102, f35]; exact hD9 v (by omega) (by omega)
      have wv := hw v (by omega) (by omega)
      refine jt_lstore (L' := [(0, .ref m), (1, .int (jI f)), (2, .int (jI b)), (3, .long (jL q)), (5, .int (jI v)), (6, .long (jL v102))]) d_GM_pivot_26 (Nat.le_of_ble_eq_true rfl) rfl ?_
      refine jt_lload d_GM_pivot_28 rfl ?_
      refine jt_lconst (z := 0) d_GM_pivot_30 (by decide) ?_
      refine jt_lif_ge (t := 41) d_GM_pivot_31 d_GM_pivot_32 rfl (by unfold jRl; omega) (by unfold jRl; omega) (fun c103 => ?_) (fun c103 => ?_)
      · skip
        refine jt_lload d_GM_pivot_41 rfl ?_
        refine jt_lstore (L' := [(0, .ref m), (1, .int (jI f)), (2, .int (jI b)), (3, .long (jL q)), (5, .int (jI v)), (6, .long (jL v102)), (8, .long (jL v102))]) d_GM_pivot_43 (Nat.le_of_ble_eq_true rfl) rfl ?_
        have hy : v102 = ((D9 v).natAbs : Int) := by omega
        refine jt_lload d_GM_pivot_45 rfl ?_
        refine jt_lconst (z := 0) d_GM_pivot_47 (by decide) ?_
        refine jt_lif_eq (t := 89) d_GM_pivot_48 d_GM_pivot_49 rfl (by unfold jRl; omega) (by unfold jRl; omega) (fun c104 => ?_) (fun c104 => ?_)
        · skip
          refine jt_iinc (L' := [(0, .ref m), (1, .int (jI f)), (2, .int (jI b)), (3, .long (jL q)), (5, .int (jI (v + 1))), (6, .long (jL v102)), (8, .long (jL v102))]) d_GM_pivot_89 rfl (Nat.le_of_ble_eq_true rfl) rfl ?_
          refine jt_goto (t := 7) d_GM_pivot_92 rfl ?_
          refine jt_sub (L' := [(0, .ref m), (1, .int (jI f)), (2, .int (jI b)), (3, .long (jL q)), (5, .int (jI (v + 1)))]) (fun _ h => List.mem_append_left [(6, Value.long (jL v102)), (8, Value.long (jL v102))] h) ?_
          exact ih b q (v + 1) J B hJ (by omega) (by omega) (by omega) (by omega) (by omega) (CS_2 hc (by omega) hy (by first | exact Or.inr (Or.inl (by omega)) | exact Or.inl (fun z => by obtain ⟨k9, hk9⟩ := z; have h9 := Nat.two_pow_pos k9; omega))) (by omega)
        · skip
          refine jt_lload d_GM_pivot_52 rfl ?_
          refine jt_ldc2 (z := 68719476736) d_GM_pivot_54 GM_k179 ?_
          refine jt_lif_gt (t := 89) d_GM_pivot_57 d_GM_pivot_58 rfl (by unfold jRl; omega) (by unfold jRl; omega) (fun c105 => ?_) (fun c105 => ?_)
          · skip
            refine jt_iinc (L' := [(0, .ref m), (1, .int (jI f)), (2, .int (jI b)), (3, .long (jL q)), (5, .int (jI (v + 1))), (6, .long (jL v102)), (8, .long (jL v102))]) d_GM_pivot_89 rfl (Nat.le_of_ble_eq_true rfl) rfl ?_
            refine jt_goto (t := 7) d_GM_pivot_92 rfl ?_
            refine jt_sub (L' := [(0, .ref m), (1, .int (jI f)), (2, .int (jI b)), (3, .long (jL q)), (5, .int (jI (v + 1)))]) (fun _ h => List.mem_append_left [(6, Value.long (jL v102)), (8, Value.long (jL v102))] h) ?_
            exact ih b q (v + 1) J B hJ (by omega) (by omega) (by omega) (by omega) (by omega) (CS_2 hc (by omega) hy (by first | exact Or.inr (Or.inl (by omega)) | exact Or.inl (fun z => by obtain ⟨k9, hk9⟩ := z; have h9 := Nat.two_pow_pos k9; omega))) (by omega)
          · skip
            refine jt_lload d_GM_pivot_61 rfl ?_
            refine jt_lload d_GM_pivot_63 rfl ?_
            refine jt_lconst (z := 1) d_GM_pivot_65 (by decide) ?_
            refine jt_lsub d_GM_pivot_66 ?_
            refine jt_topln (fun v106 bv106 ev106 => ?_)
            refine jt_landP d_GM_pivot_67 (by omega) (by omega) (fun v107 bv107 ev107 => ?_)
            have hp2 := p2_iff (t := v102) (by omega)
            rw [← show v106 = v102 - 1 by omega, ← ev107, show (v102 : Int).natAbs = (D9 v).natAbs by omega] at hp2
            replace hp2 : Hd _ := hp2
            refine jt_lconst (z := 0) d_GM_pivot_68 (by decide) ?_
            refine jt_lif_ne (t := 89) d_GM_pivot_69 d_GM_pivot_70 rfl (by unfold jRl; omega) (by unfold jRl; omega) (fun c108 => ?_) (fun c108 => ?_)
            · skip
              refine jt_iinc (L' := [(0, .ref m), (1, .int (jI f)), (2, .int (jI b)), (3, .long (jL q)), (5, .int (jI (v + 1))), (6, .long (jL v102)), (8, .long (jL v102))]) d_GM_pivot_89 rfl (Nat.le_of_ble_eq_true rfl) rfl ?_
              refine jt_goto (t := 7) d_GM_pivot_92 rfl ?_
              refine jt_sub (L' := [(0, .ref m), (1, .int (jI f)), (2, .int (jI b)), (3, .long (jL q)), (5, .int (jI (v + 1)))]) (fun _ h => List.mem_append_left [(6, Value.long (jL v102)), (8, Value.long (jL v102))] h) ?_
              exact ih b q (v + 1) J B hJ (by omega) (by omega) (by omega) (by omega) (by omega) (CS_2 hc (by omega) hy (by first | exact Or.inl (fun z => absurd (hp2.mpr z) (by omega)) | exact Or.inr (Or.inr (by omega)))) (by omega)
            · skip
              refine jt_lload d_GM_pivot_73 rfl ?_
              refine jt_lload_n d_GM_pivot_75 rfl ?_
              refine jt_lif_gt (t := 83) d_GM_pivot_76 d_GM_pivot_77 rfl (by unfold jRl; omega) (by unfold jRl; omega) (fun c109 => ?_) (fun c109 => ?_)
              · skip
                refine jt_iload d_GM_pivot_83 rfl ?_
                refine jt_istore_n (L' := [(0, .ref m), (1, .int (jI f)), (2, .int (jI v)), (3, .long (jL q)), (5, .int (jI v)), (6, .long (jL v102)), (8, .long (jL v102))]) d_GM_pivot_85 (Nat.le_of_ble_eq_true rfl) rfl ?_
                refine jt_lload d_GM_pivot_86 rfl ?_
                refine jt_lstore_n (L' := [(0, .ref m), (1, .int (jI f)), (2, .int (jI v)), (3, .long (jL v102)), (5, .int (jI v)), (6, .long (jL v102)), (8, .long (jL v102))]) d_GM_pivot_88 (Nat.le_of_ble_eq_true rfl) rfl ?_
                refine jt_iinc (L' := [(0, .ref m), (1, .int (jI f)), (2, .int (jI v)), (3, .long (jL v102)), (5, .int (jI (v + 1))), (6, .long (jL v102)), (8, .long (jL v102))]) d_GM_pivot_89 rfl (Nat.le_of_ble_eq_true rfl) rfl ?_
                refine jt_goto (t := 7) d_GM_pivot_92 rfl ?_
                refine jt_sub (L' := [(0, .ref m), (1, .int (jI f)), (2, .int (jI v)), (3, .long (jL v102)), (5, .int (jI (v + 1)))]) (fun _ h => List.mem_append_left [(6, Value.long (jL v102)), (8, Value.long (jL v102))] h) ?_
                exact ih v v102 (v + 1) J B hJ (by omega) (by omega) (by omega) (by omega) (by omega) (CS_1 hc (by omega) hy (hp2.mp (by omega)) (by omega) (by omega)) (by omega)
              · skip
                refine jt_goto (t := 89) d_GM_pivot_80 rfl ?_
                refine jt_iinc (L' := [(0, .ref m), (1, .int (jI f)), (2, .int (jI b)), (3, .long (jL q)), (5, .int (jI (v + 1))), (6, .long (jL v102)), (8, .long (jL v102))]) d_GM_pivot_89 rfl (Nat.le_of_ble_eq_true rfl) rfl ?_
                refine jt_goto (t := 7) d_GM_pivot_92 rfl ?_
                refine jt_sub (L' := [(0, .ref m), (1, .int (jI f)), (2, .int (jI b)), (3, .long (jL q)), (5, .int (jI (v + 1)))]) (fun _ h => List.mem_append_left [(6, Value.long (jL v102)), (8, Value.long (jL v102))] h) ?_
                exact ih b q (v + 1) J B hJ (by omega) (by omega) (by omega) (by omega) (by omega) (CS_2 hc (by omega) hy (by first | exact Or.inl (fun z => absurd (hp2.mpr z) (by omega)) | exact Or.inr (Or.inr (by omega)))) (by omega)
      · skip
        refine jt_lload d_GM_pivot_35 rfl ?_
        refine jt_lneg d_GM_pivot_37 ?_
        refine jt_topln (fun v110 bv110 ev110 => ?_)
        refine jt_goto (t := 43) d_GM_pivot_38 rfl ?_
        refine jt_lstore (L' := [(0, .ref m), (1, .int (jI f)), (2, .int (jI b)), (3, .long (jL q)), (5, .int (jI v)), (6, .long (jL v102)), (8, .long (jL v110))]) d_GM_pivot_43 (Nat.le_of_ble_eq_true rfl) rfl ?_
        have hy : v110 = ((D9 v).natAbs : Int) := by omega
        refine jt_lload d_GM_pivot_45 rfl ?_
        refine jt_lconst (z := 0) d_GM_pivot_47 (by decide) ?_
        refine jt_lif_eq (t := 89) d_GM_pivot_48 d_GM_pivot_49 rfl (by unfold jRl; omega) (by unfold jRl; omega) (fun c111 => ?_) (fun c111 => ?_)
        · skip
          refine jt_iinc (L' := [(0, .ref m), (1, .int (jI f)), (2, .int (jI b)), (3, .long (jL q)), (5, .int (jI (v + 1))), (6, .long (jL v102)), (8, .long (jL v110))]) d_GM_pivot_89 rfl (Nat.le_of_ble_eq_true rfl) rfl ?_
          refine jt_goto (t := 7) d_GM_pivot_92 rfl ?_
          refine jt_sub (L' := [(0, .ref m), (1, .int (jI f)), (2, .int (jI b)), (3, .long (jL q)), (5, .int (jI (v + 1)))]) (fun _ h => List.mem_append_left [(6, Value.long (jL v102)), (8, Value.long (jL v110))] h) ?_
          exact ih b q (v + 1) J B hJ (by omega) (by omega) (by omega) (by omega) (by omega) (CS_2 hc (by omega) hy (by first | exact Or.inr (Or.inl (by omega)) | exact Or.inl (fun z => by obtain ⟨k9, hk9⟩ := z; have h9 := Nat.two_pow_pos k9; omega))) (by omega)
        · skip
          refine jt_lload d_GM_pivot_52 rfl ?_
          refine jt_ldc2 (z := 68719476736) d_GM_pivot_54 GM_k179 ?_
          refine jt_lif_gt (t := 89) d_GM_pivot_57 d_GM_pivot_58 rfl (by unfold jRl; omega) (by unfold jRl; omega) (fun c112 => ?_) (fun c112 => ?_)
          · skip
            refine jt_iinc (L' := [(0, .ref m), (1, .int (jI f)), (2, .int (jI b)), (3, .long (jL q)), (5, .int (jI (v + 1))), (6, .long (jL v102)), (8, .long (jL v110))]) d_GM_pivot_89 rfl (Nat.le_of_ble_eq_true rfl) rfl ?_
            refine jt_goto (t := 7) d_GM_pivot_92 rfl ?_
            refine jt_sub (L' := [(0, .ref m), (1, .int (jI f)), (2, .int (jI b)), (3, .long (jL q)), (5, .int (jI (v + 1)))]) (fun _ h => List.mem_append_left [(6, Value.long (jL v102)), (8, Value.long (jL v110))] h) ?_
            exact ih b q (v + 1) J B hJ (by omega) (by omega) (by omega) (by omega) (by omega) (CS_2 hc (by omega) hy (by first | exact Or.inr (Or.inl (by omega)) | exact Or.inl (fun z => by obtain ⟨k9, hk9⟩ := z; have h9 := Nat.two_pow_pos k9; omega))) (by omega)
          · skip
            refine jt_lload d_GM_pivot_61 rfl ?_
            refine jt_lload d_GM_pivot_63 rfl ?_
            refine jt_lconst (z := 1) d_GM_pivot_65 (by decide) ?_
            refine jt_lsub d_GM_pivot_66 ?_
            refine jt_topln (fun v113 bv113 ev113 => ?_)
            refine jt_landP d_GM_pivot_67 (by omega) (by omega) (fun v114 bv114 ev114 => ?_)
            have hp2 := p2_iff (t := v110) (by omega)
            rw [← show v113 = v110 - 1 by omega, ← ev114, show (v110 : Int).natAbs = (D9 v).natAbs by omega] at hp2
            replace hp2 : Hd _ := hp2
            refine jt_lconst (z := 0) d_GM_pivot_68 (by decide) ?_
            refine jt_lif_ne (t := 89) d_GM_pivot_69 d_GM_pivot_70 rfl (by unfold jRl; omega) (by unfold jRl; omega) (fun c115 => ?_) (fun c115 => ?_)
            · skip
              refine jt_iinc (L' := [(0, .ref m), (1, .int (jI f)), (2, .int (jI b)), (3, .long (jL q)), (5, .int (jI (v + 1))), (6, .long (jL v102)), (8, .long (jL v110))]) d_GM_pivot_89 rfl (Nat.le_of_ble_eq_true rfl) rfl ?_
              refine jt_goto (t := 7) d_GM_pivot_92 rfl ?_
              refine jt_sub (L' := [(0, .ref m), (1, .int (jI f)), (2, .int (jI b)), (3, .long (jL q)), (5, .int (jI (v + 1)))]) (fun _ h => List.mem_append_left [(6, Value.long (jL v102)), (8, Value.long (jL v110))] h) ?_
              exact ih b q (v + 1) J B hJ (by omega) (by omega) (by omega) (by omega) (by omega) (CS_2 hc (by omega) hy (by first | exact Or.inl (fun z => absurd (hp2.mpr z) (by omega)) | exact Or.inr (Or.inr (by omega)))) (by omega)
            · skip
              refine jt_lload d_GM_pivot_73 rfl ?_
              refine jt_lload_n d_GM_pivot_75 rfl ?_
              refine jt_lif_gt (t := 83) d_GM_pivot_76 d_GM_pivot_77 rfl (by unfold jRl; omega) (by unfold jRl; omega) (fun c116 => ?_) (fun c116 => ?_)
              · skip
                refine jt_iload d_GM_pivot_83 rfl ?_
                refine jt_istore_n (L' := [(0, .ref m), (1, .int (jI f)), (2, .int (jI v)), (3, .long (jL q)), (5, .int (jI v)), (6, .long (jL v102)), (8, .long (jL v110))]) d_GM_pivot_85 (Nat.le_of_ble_eq_true rfl) rfl ?_
                refine jt_lload d_GM_pivot_86 rfl ?_
                refine jt_lstore_n (L' := [(0, .ref m), (1, .int (jI f)), (2, .int (jI v)), (3, .long (jL v110)), (5, .int (jI v)), (6, .long (jL v102)), (8, .long (jL v110))]) d_GM_pivot_88 (Nat.le_of_ble_eq_true rfl) rfl ?_
                refine jt_iinc (L' := [(0, .ref m), (1, .int (jI f)), (2, .int (jI v)), (3, .long (jL v110)), (5, .int (jI (v + 1))), (6, .long (jL v102)), (8, .long (jL v110))]) d_GM_pivot_89 rfl (Nat.le_of_ble_eq_true rfl) rfl ?_
                refine jt_goto (t := 7) d_GM_pivot_92 rfl ?_
                refine jt_sub (L' := [(0, .ref m), (1, .int (jI f)), (2, .int (jI v)), (3, .long (jL v110)), (5, .int (jI (v + 1)))]) (fun _ h => List.mem_append_left [(6, Value.long (jL v102)), (8, Value.long (jL v110))] h) ?_
                exact ih v v110 (v + 1) J B hJ (by omega) (by omega) (by omega) (by omega) (by omega) (CS_1 hc (by omega) hy (hp2.mp (by omega)) (by omega) (by omega)) (by omega)
              · skip
                refine jt_goto (t := 89) d_GM_pivot_80 rfl ?_
                refine jt_iinc (L' := [(0, .ref m), (1, .int (jI f)), (2, .int (jI b)), (3, .long (jL q)), (5, .int (jI (v + 1))), (6, .long (jL v102)), (8, .long (jL v110))]) d_GM_pivot_89 rfl (Nat.le_of_ble_eq_true rfl) rfl ?_
                refine jt_goto (t := 7) d_GM_pivot_92 rfl ?_
                refine jt_sub (L' := [(0, .ref m), (1, .int (jI f)), (2, .int (jI b)), (3, .long (jL q)), (5, .int (jI (v + 1)))]) (fun _ h => List.mem_append_left [(6, Value.long (jL v102)), (8, Value.long (jL v110))] h) ?_
                exact ih b q (v + 1) J B hJ (by omega) (by omega) (by omega) (by omega) (by omega) (CS_2 hc (by omega) hy (by first | exact Or.inl (fun z => absurd (hp2.mpr z) (by omega)) | exact Or.inr (Or.inr (by omega)))) (by omega)
set_option maxRecDepth 100000 in
set_option maxHeartbeats 1000000 in
theorem y_GM_pivot (G : jG) (d m : Nat) (f : Int) (I : Nat → Int) (A : Nat → Int → Int) (hI : gSI I) (hA : gSA A) (h0 : 0 ≤ f) (h1 : f < 400) (D9 : Int → Int) (hD9 : ∀ i, 0 ≤ i → i < 13 → A 35 (f * 13 + i) = D9 i) (hw : wid D9) : gct G Y_GM_pivot d m [.int (jI f)] I A (fun (rv : Option Value) (I2 : Nat → Int) (A2 : Nat → Int → Int) => ∃ y : Int, rv = some (.int (jI y)) ∧ (-1 ≤ y ∧ y ≤ 11) ∧ gPo [] [] I A I2 A2 ∧ (y < 0 → PV0 D9) ∧ (0 ≤ y → PVt D9 y)) := by
  refine gct_of (by decide) (Nat.le_of_ble_eq_true rfl) (fun f0 sz => ?_)
  show jt _ 0 [(0, .ref m), (1, .int (jI f))] [] _ _ _ _
  have hz0 : gPo [] [] I A I A := gPo.refl hI hA
  refine jt_iconst d_GM_pivot_0 ?_
  refine jt_istore_n (L' := [(0, .ref m), (1, .int (jI f)), (2, .int (jI (-1)))]) d_GM_pivot_1 (Nat.le_of_ble_eq_true rfl) rfl ?_
  refine jt_lconst (z := 0) d_GM_pivot_2 (by decide) ?_
  refine jt_lstore_n (L' := [(0, .ref m), (1, .int (jI f)), (2, .int (jI (-1))), (3, .long (jL 0))]) d_GM_pivot_3 (Nat.le_of_ble_eq_true rfl) rfl ?_
  refine jt_iconst d_GM_pivot_4 ?_
  refine jt_istore (L' := [(0, .ref m), (1, .int (jI f)), (2, .int (jI (-1))), (3, .long (jL 0)), (5, .int (jI 0))]) d_GM_pivot_5 (Nat.le_of_ble_eq_true rfl) rfl ?_
  exact l7_GM_pivoty G d m f I A hI hA h0 h1 D9 hD9 hw f0 sz  13 (-1) 0 0 I A hz0 (by omega) (by omega) (by omega) (by omega) (by omega) (CS_0 _ (by omega)) (by omega)
set_option maxRecDepth 100000 in
set_option maxHeartbeats 1000000 in
theorem y_GM_over (G : jG) (d m : Nat) (x : Int) (f : Int) (I : Nat → Int) (A : Nat → Int → Int) (hI : gSI I) (hA : gSA A) (hx : -137438953472 ≤ x ∧ x ≤ 137438953472) (hf : pw f) : gct G Y_GM_over (d + 1) m [.long (jL x), .long (jL f)] I A (fun (rv : Option Value) (I2 : Nat → Int) (A2 : Nat → Int → Int) => ∃ y : Int, rv = some (.long (jL y)) ∧ (-9223372036854775808 ≤ y ∧ y ≤ 9223372036854775807) ∧ gPo [15] [] I A I2 A2 ∧ ((∃ r : Int, gin r ∧ r * f = x * 65536) → I2 15 = I 15 ∧ y * f = x * 65536 ∧ gin y) ∧ (¬ (∃ r : Int, gin r ∧ r * f = x * 65536) → I2 15 = 1)) := by
  refine gct_of (by decide) (Nat.le_of_ble_eq_true rfl) (fun f0 sz => ?_)
  show jt _ 0 [(0, .ref m), (1, .long (jL x)), (3, .long (jL f))] [] _ _ _ _
  have hos := ov_s hf
  have hf1 := hf.1
  have hf2 := hf.2.1
  have hf0 := pw_nz hf
  have q15 : 0 ≤ I 15 ∧ I 15 ≤ 1 := hI 15
  have hz0 : gPo [15] [] I A I A := gPo.refl hI hA
  refine jt_lload_n d_GM_over_0 rfl ?_
  refine jt_lconst (z := 0) d_GM_over_1 (by decide) ?_
  refine jt_lif_ge (t := 11) d_GM_over_2 d_GM_over_3 rfl (by unfold jRl; omega) (by unfold jRl; omega) (fun c1 => ?_) (fun c1 => ?_)
  · skip
    refine jt_lload_n d_GM_over_11 rfl ?_
    refine jt_lstore (L' := [(0, .ref m), (1, .long (jL x)), (3, .long (jL f)), (5, .long (jL f))]) d_GM_over_12 (Nat.le_of_ble_eq_true rfl) rfl ?_
    refine jt_lload_n d_GM_over_14 rfl ?_
    refine jt_lconst (z := 0) d_GM_over_15 (by decide) ?_
    refine jt_lif_ge (t := 25) d_GM_over_16 d_GM_over_17 rfl (by unfold jRl; omega) (by unfold jRl; omega) (fun c2 => ?_) (fun c2 => ?_)
    · skip
      refine jt_lload_n d_GM_over_25 rfl ?_
      refine jt_lstore (L' := [(0, .ref m), (1, .long (jL x)), (3, .long (jL f)), (5, .long (jL f)), (7, .long (jL x))]) d_GM_over_26 (Nat.le_of_ble_eq_true rfl) rfl ?_
      have hsg : Hd ((f < 0 ∧ f = -f ∧ x = -x) ∨ (0 ≤ f ∧ f = f ∧ x = x)) := by first | exact Or.inl ⟨by omega, by omega, by omega⟩ | exact Or.inr ⟨by omega, by omega, by omega⟩
      have hsn : f = (f.natAbs : Int) := by omega
      have hvb : -137438953472 ≤ x ∧ x ≤ 137438953472 := by omega
      refine jt_lload d_GM_over_28 rfl ?_
      refine jt_ldc2 (z := 65536) d_GM_over_30 GM_k197 ?_
      refine jt_lif_gt (t := 82) d_GM_over_33 d_GM_over_34 rfl (by unfold jRl; omega) (by unfold jRl; omega) (fun c3 => ?_) (fun c3 => ?_)
      · skip
        obtain ⟨bb, b0, b1, hb, d1⟩ := hos.2 (by omega)
        rw [← hsn] at hb d1
        have hob := ov_big hsg b0 hb
        clear hb
        refine jt_lload d_GM_over_82 rfl ?_
        refine jt_ldc2 (z := 65536) d_GM_over_84 GM_k197 ?_
        refine jt_ldiv d_GM_over_87 (by unfold jRl; omega) (by unfold jRl; omega) (by omega) ?_
        have td4 := gtd f 65536 (by omega)
        refine jt_topln (fun v5 bv5 ev5 => ?_)
        obtain rfl : v5 = bb := by omega
        refine jt_lstore (L' := [(0, .ref m), (1, .long (jL x)), (3, .long (jL f)), (5, .long (jL f)), (7, .long (jL x)), (9, .long (jL v5))]) d_GM_over_88 (Nat.le_of_ble_eq_true rfl) rfl ?_
        refine jt_lload d_GM_over_90 rfl ?_
        refine jt_lload d_GM_over_92 rfl ?_
        refine jt_lrem d_GM_over_94 (by unfold jRl; omega) (by unfold jRl; omega) (by omega) ?_
        refine jt_topln (fun v6 bv6 ev6 => ?_)
        have tm := ss_m x v5
        have tr : v6 = Int.tmod x v5 := by omega
        refine jt_lconst (z := 0) d_GM_over_95 (by decide) ?_
        refine jt_lif_eq (t := 105) d_GM_over_96 d_GM_over_97 rfl (by unfold jRl; omega) (by unfold jRl; omega) (fun c7 => ?_) (fun c7 => ?_)
        · skip
          refine jt_aload_n d_GM_over_105 rfl ?_
          refine jt_lload d_GM_over_106 rfl ?_
          refine jt_lload d_GM_over_108 rfl ?_
          refine jt_ldiv d_GM_over_110 (by unfold jRl; omega) (by unfold jRl; omega) (by omega) ?_
          refine jt_topln (fun v8 bv8 ev8 => ?_)
          have tb := ss_b x v5
          have ty : v8 = Int.tdiv x v5 := by omega
          refine gct_call (Y := Y_GM_kept) (As := [.long (jL v8)]) (rest := []) d_GM_over_111 GM_c185 yk_GM_kept yv_GM_kept rfl (Nat.le_of_ble_eq_true rfl) rfl rfl (Nat.le_of_ble_eq_true rfl) (c_GM_kept G _ m v8 I A (by unfold jRl; omega)) (fun rvq9 Iq9 Aq9 hq9 => ?_)
          obtain ⟨rfl, hIq9, hAq9⟩ := hq9
          rw [hIq9, hAq9]
          have gbq9 : 0 ≤ gkr v8 (I 15) ∧ gkr v8 (I 15) ≤ 1 := by unfold gkr; split <;> omega
          have p10 := gPo.I 15 (gkr v8 (I 15)) hz0 rfl (show 0 ≤ gkr v8 (I 15) ∧ gkr v8 (I 15) ≤ 1 by omega)
          show jt _ 114 [(0, .ref m), (1, .long (jL x)), (3, .long (jL f)), (5, .long (jL f)), (7, .long (jL x)), (9, .long (jL v5))] [.long (jL (gkp v8))] (gmf m f0 (va_up I 15 (gkr v8 (I 15))) A) _ _ _
          exact gm_lret d_GM_over_114 rfl (by
        have hq9 := hob.1 (by omega)
        rw [← ty] at hq9
        refine ⟨gkp v8, rfl, by have h9 := gkp_gin v8; omega, p10, fun ⟨r9, g9, h9⟩ => ?_, fun z => ?_⟩
        · have h8 := (hob.2 r9 h9).2
          rw [← ty] at h8
          rw [← h8] at g9
          refine ⟨by show gkr v8 (I 15) = I 15; unfold gkr; rw [if_pos g9], ?_, gkp_gin _⟩
          unfold gkp; rw [if_pos g9]; exact hq9
        · show gkr v8 (I 15) = 1
          unfold gkr
          rw [if_neg (fun g9 => z ⟨_, g9, hq9⟩)])
        · skip
          refine jt_aload_n d_GM_over_100 rfl ?_
          refine jt_iconst d_GM_over_101 ?_
          refine gm_pI (k := 15) (v := 1) (J := va_up I 15 1) d_GM_over_102 (GM_w55 _ rfl) (by decide) (jnz (by omega)) rfl rfl ?_
          have p11 := gPo.I 15 1 hz0 rfl (show 0 ≤ 1 ∧ 1 ≤ 1 by omega)
          refine jt_aload_n d_GM_over_105 rfl ?_
          refine jt_lload d_GM_over_106 rfl ?_
          refine jt_lload d_GM_over_108 rfl ?_
          refine jt_ldiv d_GM_over_110 (by unfold jRl; omega) (by unfold jRl; omega) (by omega) ?_
          refine jt_topln (fun v12 bv12 ev12 => ?_)
          have tb := ss_b x v5
          have ty : v12 = Int.tdiv x v5 := by omega
          refine gct_call (Y := Y_GM_kept) (As := [.long (jL v12)]) (rest := []) d_GM_over_111 GM_c185 yk_GM_kept yv_GM_kept rfl (Nat.le_of_ble_eq_true rfl) rfl rfl (Nat.le_of_ble_eq_true rfl) (c_GM_kept G _ m v12 (va_up I 15 1) A (by unfold jRl; omega)) (fun rvq13 Iq13 Aq13 hq13 => ?_)
          obtain ⟨rfl, hIq13, hAq13⟩ := hq13
          rw [hIq13, hAq13]
          have gbq13 : 0 ≤ gkr v12 1 ∧ gkr v12 1 ≤ 1 := by unfold gkr; split <;> omega
          have p14 := gPo.I 15 (gkr v12 1) p11 rfl (show 0 ≤ gkr v12 1 ∧ gkr v12 1 ≤ 1 by omega)
          show jt _ 114 [(0, .ref m), (1, .long (jL x)), (3, .long (jL f)), (5, .long (jL f)), (7, .long (jL x)), (9, .long (jL v5))] [.long (jL (gkp v12))] (gmf m f0 (va_up (va_up I 15 1) 15 (gkr v12 1)) A) _ _ _
          exact gm_lret d_GM_over_114 rfl (by
        have hno : ¬ (∃ r : Int, gin r ∧ r * f = x * 65536) := fun ⟨r9, g9, h9⟩ => by have h8 := (hob.2 r9 h9).1; omega
        exact ⟨gkp v12, rfl, by have h9 := gkp_gin v12; omega, p14, fun z => absurd z hno, fun _ => by show gkr v12 1 = 1; unfold gkr; split <;> rfl⟩)
      · skip
        obtain ⟨bb, mm, b0, b1, m0, m1, hb, hm, d1, d2, d3⟩ := hos.1 (by omega)
        rw [← hsn] at hb d1
        have hoi := ov_in hsg b0 hb hm
        clear hb hm
        refine jt_ldc2 (z := 65536) d_GM_over_37 GM_k197 ?_
        refine jt_lload d_GM_over_40 rfl ?_
        refine jt_ldiv d_GM_over_42 (by unfold jRl; omega) (by unfold jRl; omega) (by omega) ?_
        refine jt_topln (fun v15 bv15 ev15 => ?_)
        obtain rfl : v15 = bb := by omega
        refine jt_lstore (L' := [(0, .ref m), (1, .long (jL x)), (3, .long (jL f)), (5, .long (jL f)), (7, .long (jL x)), (9, .long (jL v15))]) d_GM_over_43 (Nat.le_of_ble_eq_true rfl) rfl ?_
        refine jt_lload d_GM_over_45 rfl ?_
        refine jt_ldc2 (z := 68719476736) d_GM_over_47 GM_k179 ?_
        refine jt_lload d_GM_over_50 rfl ?_
        refine jt_ldiv d_GM_over_52 (by unfold jRl; omega) (by unfold jRl; omega) (by omega) ?_
        refine jt_topln (fun v16 bv16 ev16 => ?_)
        refine jt_lif_gt (t := 69) d_GM_over_53 d_GM_over_54 rfl (by unfold jRl; omega) (by unfold jRl; omega) (fun c17 => ?_) (fun c17 => ?_)
        · skip
          refine jt_aload_n d_GM_over_69 rfl ?_
          refine jt_iconst d_GM_over_70 ?_
          refine gm_pI (k := 15) (v := 1) (J := va_up I 15 1) d_GM_over_71 (GM_w55 _ rfl) (by decide) (jnz (by omega)) rfl rfl ?_
          have p18 := gPo.I 15 1 hz0 rfl (show 0 ≤ 1 ∧ 1 ≤ 1 by omega)
          refine jt_lconst (z := 0) d_GM_over_74 (by decide) ?_
          exact gm_lret d_GM_over_75 rfl (⟨0, rfl, by omega, p18, fun z => absurd z (hoi.2 (by omega)), fun _ => rfl⟩)
        · skip
          refine jt_lload d_GM_over_57 rfl ?_
          refine jt_ldc2 (z := -68719476736) d_GM_over_59 GM_k181 ?_
          refine jt_lload d_GM_over_62 rfl ?_
          refine jt_ldiv d_GM_over_64 (by unfold jRl; omega) (by unfold jRl; omega) (by omega) ?_
          refine jt_topln (fun v19 bv19 ev19 => ?_)
          refine jt_lif_ge (t := 76) d_GM_over_65 d_GM_over_66 rfl (by unfold jRl; omega) (by unfold jRl; omega) (fun c20 => ?_) (fun c20 => ?_)
          · skip
            refine jt_lload d_GM_over_76 rfl ?_
            refine jt_lload d_GM_over_78 rfl ?_
            refine jt_lmul d_GM_over_80 ?_
            refine jt_topln (fun v21 bv21 ev21 => ?_)
            have hin := hoi.1 (by omega)
            have ey : v21 = x * v15 := by have h9 := hin.2; omega
            exact gm_lret d_GM_over_81 rfl (⟨v21, rfl, by omega, hz0, fun _ => ⟨rfl, by rw [ey]; exact hin.1, by rw [ey]; exact hin.2⟩, fun z => absurd ⟨_, hin.2, hin.1⟩ z⟩)
          · skip
            refine jt_aload_n d_GM_over_69 rfl ?_
            refine jt_iconst d_GM_over_70 ?_
            refine gm_pI (k := 15) (v := 1) (J := va_up I 15 1) d_GM_over_71 (GM_w55 _ rfl) (by decide) (jnz (by omega)) rfl rfl ?_
            have p22 := gPo.I 15 1 hz0 rfl (show 0 ≤ 1 ∧ 1 ≤ 1 by omega)
            refine jt_lconst (z := 0) d_GM_over_74 (by decide) ?_
            exact gm_lret d_GM_over_75 rfl (⟨0, rfl, by omega, p22, fun z => absurd z (hoi.2 (by omega)), fun _ => rfl⟩)
    · skip
      refine jt_lload_n d_GM_over_20 rfl ?_
      refine jt_lneg d_GM_over_21 ?_
      refine jt_topln (fun v23 bv23 ev23 => ?_)
      refine jt_goto (t := 26) d_GM_over_22 rfl ?_
      refine jt_lstore (L' := [(0, .ref m), (1, .long (jL x)), (3, .long (jL f)), (5, .long (jL f)), (7, .long (jL v23))]) d_GM_over_26 (Nat.le_of_ble_eq_true rfl) rfl ?_
      have hsg : Hd ((f < 0 ∧ f = -f ∧ v23 = -x) ∨ (0 ≤ f ∧ f = f ∧ v23 = x)) := by first | exact Or.inl ⟨by omega, by omega, by omega⟩ | exact Or.inr ⟨by omega, by omega, by omega⟩
      have hsn : f = (f.natAbs : Int) := by omega
      have hvb : -137438953472 ≤ v23 ∧ v23 ≤ 137438953472 := by omega
      refine jt_lload d_GM_over_28 rfl ?_
      refine jt_ldc2 (z := 65536) d_GM_over_30 GM_k197 ?_
      refine jt_lif_gt (t := 82) d_GM_over_33 d_GM_over_34 rfl (by unfold jRl; omega) (by unfold jRl; omega) (fun c24 => ?_) (fun c24 => ?_)
      · skip
        obtain ⟨bb, b0, b1, hb, d1⟩ := hos.2 (by omega)
        rw [← hsn] at hb d1
        have hob := ov_big hsg b0 hb
        clear hb
        refine jt_lload d_GM_over_82 rfl ?_
        refine jt_ldc2 (z := 65536) d_GM_over_84 GM_k197 ?_
        refine jt_ldiv d_GM_over_87 (by unfold jRl; omega) (by unfold jRl; omega) (by omega) ?_
        have td25 := gtd f 65536 (by omega)
        refine jt_topln (fun v26 bv26 ev26 => ?_)
        obtain rfl : v26 = bb := by omega
        refine jt_lstore (L' := [(0, .ref m), (1, .long (jL x)), (3, .long (jL f)), (5, .long (jL f)), (7, .long (jL v23)), (9, .long (jL v26))]) d_GM_over_88 (Nat.le_of_ble_eq_true rfl) rfl ?_
        refine jt_lload d_GM_over_90 rfl ?_
        refine jt_lload d_GM_over_92 rfl ?_
        refine jt_lrem d_GM_over_94 (by unfold jRl; omega) (by unfold jRl; omega) (by omega) ?_
        refine jt_topln (fun v27 bv27 ev27 => ?_)
        have tm := ss_m v23 v26
        have tr : v27 = Int.tmod v23 v26 := by omega
        refine jt_lconst (z := 0) d_GM_over_95 (by decide) ?_
        refine jt_lif_eq (t := 105) d_GM_over_96 d_GM_over_97 rfl (by unfold jRl; omega) (by unfold jRl; omega) (fun c28 => ?_) (fun c28 => ?_)
        · skip
          refine jt_aload_n d_GM_over_105 rfl ?_
          refine jt_lload d_GM_over_106 rfl ?_
          refine jt_lload d_GM_over_108 rfl ?_
          refine jt_ldiv d_GM_over_110 (by unfold jRl; omega) (by unfold jRl; omega) (by omega) ?_
          refine jt_topln (fun v29 bv29 ev29 => ?_)
          have tb := ss_b v23 v26
          have ty : v29 = Int.tdiv v23 v26 := by omega
          refine gct_call (Y := Y_GM_kept) (As := [.long (jL v29)]) (rest := []) d_GM_over_111 GM_c185 yk_GM_kept yv_GM_kept rfl (Nat.le_of_ble_eq_true rfl) rfl rfl (Nat.le_of_ble_eq_true rfl) (c_GM_kept G _ m v29 I A (by unfold jRl; omega)) (fun rvq30 Iq30 Aq30 hq30 => ?_)
          obtain ⟨rfl, hIq30, hAq30⟩ := hq30
          rw [hIq30, hAq30]
          have gbq30 : 0 ≤ gkr v29 (I 15) ∧ gkr v29 (I 15) ≤ 1 := by unfold gkr; split <;> omega
          have p31 := gPo.I 15 (gkr v29 (I 15)) hz0 rfl (show 0 ≤ gkr v29 (I 15) ∧ gkr v29 (I 15) ≤ 1 by omega)
          show jt _ 114 [(0, .ref m), (1, .long (jL x)), (3, .long (jL f)), (5, .long (jL f)), (7, .long (jL v23)), (9, .long (jL v26))] [.long (jL (gkp v29))] (gmf m f0 (va_up I 15 (gkr v29 (I 15))) A) _ _ _
          exact gm_lret d_GM_over_114 rfl (by
        have hq9 := hob.1 (by omega)
        rw [← ty] at hq9
        refine ⟨gkp v29, rfl, by have h9 := gkp_gin v29; omega, p31, fun ⟨r9, g9, h9⟩ => ?_, fun z => ?_⟩
        · have h8 := (hob.2 r9 h9).2
          rw [← ty] at h8
          rw [← h8] at g9
          refine ⟨by show gkr v29 (I 15) = I 15; unfold gkr; rw [if_pos g9], ?_, gkp_gin _⟩
          unfold gkp; rw [if_pos g9]; exact hq9
        · show gkr v29 (I 15) = 1
          unfold gkr
          rw [if_neg (fun g9 => z ⟨_, g9, hq9⟩)])
        · skip
          refine jt_aload_n d_GM_over_100 rfl ?_
          refine jt_iconst d_GM_over_101 ?_
          refine gm_pI (k := 15) (v := 1) (J := va_up I 15 1) d_GM_over_102 (GM_w55 _ rfl) (by decide) (jnz (by omega)) rfl rfl ?_
          have p32 := gPo.I 15 1 hz0 rfl (show 0 ≤ 1 ∧ 1 ≤ 1 by omega)
          refine jt_aload_n d_GM_over_105 rfl ?_
          refine jt_lload d_GM_over_106 rfl ?_
          refine jt_lload d_GM_over_108 rfl ?_
          refine jt_ldiv d_GM_over_110 (by unfold jRl; omega) (by unfold jRl; omega) (by omega) ?_
          refine jt_topln (fun v33 bv33 ev33 => ?_)
          have tb := ss_b v23 v26
          have ty : v33 = Int.tdiv v23 v26 := by omega
          refine gct_call (Y := Y_GM_kept) (As := [.long (jL v33)]) (rest := []) d_GM_over_111 GM_c185 yk_GM_kept yv_GM_kept rfl (Nat.le_of_ble_eq_true rfl) rfl rfl (Nat.le_of_ble_eq_true rfl) (c_GM_kept G _ m v33 (va_up I 15 1) A (by unfold jRl; omega)) (fun rvq34 Iq34 Aq34 hq34 => ?_)
          obtain ⟨rfl, hIq34, hAq34⟩ := hq34
          rw [hIq34, hAq34]
          have gbq34 : 0 ≤ gkr v33 1 ∧ gkr v33 1 ≤ 1 := by unfold gkr; split <;> omega
          have p35 := gPo.I 15 (gkr v33 1) p32 rfl (show 0 ≤ gkr v33 1 ∧ gkr v33 1 ≤ 1 by omega)
          show jt _ 114 [(0, .ref m), (1, .long (jL x)), (3, .long (jL f)), (5, .long (jL f)), (7, .long (jL v23)), (9, .long (jL v26))] [.long (jL (gkp v33))] (gmf m f0 (va_up (va_up I 15 1) 15 (gkr v33 1)) A) _ _ _
          exact gm_lret d_GM_over_114 rfl (by
        have hno : ¬ (∃ r : Int, gin r ∧ r * f = x * 65536) := fun ⟨r9, g9, h9⟩ => by have h8 := (hob.2 r9 h9).1; omega
        exact ⟨gkp v33, rfl, by have h9 := gkp_gin v33; omega, p35, fun z => absurd z hno, fun _ => by show gkr v33 1 = 1; unfold gkr; split <;> rfl⟩)
      · skip
        obtain ⟨bb, mm, b0, b1, m0, m1, hb, hm, d1, d2, d3⟩ := hos.1 (by omega)
        rw [← hsn] at hb d1
        have hoi := ov_in hsg b0 hb hm
        clear hb hm
        refine jt_ldc2 (z := 65536) d_GM_over_37 GM_k197 ?_
        refine jt_lload d_GM_over_40 rfl ?_
        refine jt_ldiv d_GM_over_42 (by unfold jRl; omega) (by unfold jRl; omega) (by omega) ?_
        refine jt_topln (fun v36 bv36 ev36 => ?_)
        obtain rfl : v36 = bb := by omega
        refine jt_lstore (L' := [(0, .ref m), (1, .long (jL x)), (3, .long (jL f)), (5, .long (jL f)), (7, .long (jL v23)), (9, .long (jL v36))]) d_GM_over_43 (Nat.le_of_ble_eq_true rfl) rfl ?_
        refine jt_lload d_GM_over_45 rfl ?_
        refine jt_ldc2 (z := 68719476736) d_GM_over_47 GM_k179 ?_
        refine jt_lload d_GM_over_50 rfl ?_
        refine jt_ldiv d_GM_over_52 (by unfold jRl; omega) (by unfold jRl; omega) (by omega) ?_
        refine jt_topln (fun v37 bv37 ev37 => ?_)
        refine jt_lif_gt (t := 69) d_GM_over_53 d_GM_over_54 rfl (by unfold jRl; omega) (by unfold jRl; omega) (fun c38 => ?_) (fun c38 => ?_)
        · skip
          refine jt_aload_n d_GM_over_69 rfl ?_
          refine jt_iconst d_GM_over_70 ?_
          refine gm_pI (k := 15) (v := 1) (J := va_up I 15 1) d_GM_over_71 (GM_w55 _ rfl) (by decide) (jnz (by omega)) rfl rfl ?_
          have p39 := gPo.I 15 1 hz0 rfl (show 0 ≤ 1 ∧ 1 ≤ 1 by omega)
          refine jt_lconst (z := 0) d_GM_over_74 (by decide) ?_
          exact gm_lret d_GM_over_75 rfl (⟨0, rfl, by omega, p39, fun z => absurd z (hoi.2 (by omega)), fun _ => rfl⟩)
        · skip
          refine jt_lload d_GM_over_57 rfl ?_
          refine jt_ldc2 (z := -68719476736) d_GM_over_59 GM_k181 ?_
          refine jt_lload d_GM_over_62 rfl ?_
          refine jt_ldiv d_GM_over_64 (by unfold jRl; omega) (by unfold jRl; omega) (by omega) ?_
          refine jt_topln (fun v40 bv40 ev40 => ?_)
          refine jt_lif_ge (t := 76) d_GM_over_65 d_GM_over_66 rfl (by unfold jRl; omega) (by unfold jRl; omega) (fun c41 => ?_) (fun c41 => ?_)
          · skip
            refine jt_lload d_GM_over_76 rfl ?_
            refine jt_lload d_GM_over_78 rfl ?_
            refine jt_lmul d_GM_over_80 ?_
            refine jt_topln (fun v42 bv42 ev42 => ?_)
            have hin := hoi.1 (by omega)
            have ey : v42 = v23 * v36 := by have h9 := hin.2; omega
            exact gm_lret d_GM_over_81 rfl (⟨v42, rfl, by omega, hz0, fun _ => ⟨rfl, by rw [ey]; exact hin.1, by rw [ey]; exact hin.2⟩, fun z => absurd ⟨_, hin.2, hin.1⟩ z⟩)
          · skip
            refine jt_aload_n d_GM_over_69 rfl ?_
            refine jt_iconst d_GM_over_70 ?_
            refine gm_pI (k := 15) (v := 1) (J := va_up I 15 1) d_GM_over_71 (GM_w55 _ rfl) (by decide) (jnz (by omega)) rfl rfl ?_
            have p43 := gPo.I 15 1 hz0 rfl (show 0 ≤ 1 ∧ 1 ≤ 1 by omega)
            refine jt_lconst (z := 0) d_GM_over_74 (by decide) ?_
            exact gm_lret d_GM_over_75 rfl (⟨0, rfl, by omega, p43, fun z => absurd z (hoi.2 (by omega)), fun _ => rfl⟩)
  · skip
    refine jt_lload_n d_GM_over_6 rfl ?_
    refine jt_lneg d_GM_over_7 ?_
    refine jt_topln (fun v44 bv44 ev44 => ?_)
    refine jt_goto (t := 12) d_GM_over_8 rfl ?_
    refine jt_lstore (L' := [(0, .ref m), (1, .long (jL x)), (3, .long (jL f)), (5, .long (jL v44))]) d_GM_over_12 (Nat.le_of_ble_eq_true rfl) rfl ?_
    refine jt_lload_n d_GM_over_14 rfl ?_
    refine jt_lconst (z := 0) d_GM_over_15 (by decide) ?_
    refine jt_lif_ge (t := 25) d_GM_over_16 d_GM_over_17 rfl (by unfold jRl; omega) (by unfold jRl; omega) (fun c45 => ?_) (fun c45 => ?_)
    · skip
      refine jt_lload_n d_GM_over_25 rfl ?_
      refine jt_lstore (L' := [(0, .ref m), (1, .long (jL x)), (3, .long (jL f)), (5, .long (jL v44)), (7, .long (jL x))]) d_GM_over_26 (Nat.le_of_ble_eq_true rfl) rfl ?_
      have hsg : Hd ((f < 0 ∧ v44 = -f ∧ x = -x) ∨ (0 ≤ f ∧ v44 = f ∧ x = x)) := by first | exact Or.inl ⟨by omega, by omega, by omega⟩ | exact Or.inr ⟨by omega, by omega, by omega⟩
      have hsn : v44 = (f.natAbs : Int) := by omega
      have hvb : -137438953472 ≤ x ∧ x ≤ 137438953472 := by omega
      refine jt_lload d_GM_over_28 rfl ?_
      refine jt_ldc2 (z := 65536) d_GM_over_30 GM_k197 ?_
      refine jt_lif_gt (t := 82) d_GM_over_33 d_GM_over_34 rfl (by unfold jRl; omega) (by unfold jRl; omega) (fun c46 => ?_) (fun c46 => ?_)
      · skip
        obtain ⟨bb, b0, b1, hb, d1⟩ := hos.2 (by omega)
        rw [← hsn] at hb d1
        have hob := ov_big hsg b0 hb
        clear hb
        refine jt_lload d_GM_over_82 rfl ?_
        refine jt_ldc2 (z := 65536) d_GM_over_84 GM_k197 ?_
        refine jt_ldiv d_GM_over_87 (by unfold jRl; omega) (by unfold jRl; omega) (by omega) ?_
        have td47 := gtd v44 65536 (by omega)
        refine jt_topln (fun v48 bv48 ev48 => ?_)
        obtain rfl : v48 = bb := by omega
        refine jt_lstore (L' := [(0, .ref m), (1, .long (jL x)), (3, .long (jL f)), (5, .long (jL v44)), (7, .long (jL x)), (9, .long (jL v48))]) d_GM_over_88 (Nat.le_of_ble_eq_true rfl) rfl ?_
        refine jt_lload d_GM_over_90 rfl ?_
        refine jt_lload d_GM_over_92 rfl ?_
        refine jt_lrem d_GM_over_94 (by unfold jRl; omega) (by unfold jRl; omega) (by omega) ?_
        refine jt_topln (fun v49 bv49 ev49 => ?_)
        have tm := ss_m x v48
        have tr : v49 = Int.tmod x v48 := by omega
        refine jt_lconst (z := 0) d_GM_over_95 (by decide) ?_
        refine jt_lif_eq (t := 105) d_GM_over_96 d_GM_over_97 rfl (by unfold jRl; omega) (by unfold jRl; omega) (fun c50 => ?_) (fun c50 => ?_)
        · skip
          refine jt_aload_n d_GM_over_105 rfl ?_
          refine jt_lload d_GM_over_106 rfl ?_
          refine jt_lload d_GM_over_108 rfl ?_
          refine jt_ldiv d_GM_over_110 (by unfold jRl; omega) (by unfold jRl; omega) (by omega) ?_
          refine jt_topln (fun v51 bv51 ev51 => ?_)
          have tb := ss_b x v48
          have ty : v51 = Int.tdiv x v48 := by omega
          refine gct_call (Y := Y_GM_kept) (As := [.long (jL v51)]) (rest := []) d_GM_over_111 GM_c185 yk_GM_kept yv_GM_kept rfl (Nat.le_of_ble_eq_true rfl) rfl rfl (Nat.le_of_ble_eq_true rfl) (c_GM_kept G _ m v51 I A (by unfold jRl; omega)) (fun rvq52 Iq52 Aq52 hq52 => ?_)
          obtain ⟨rfl, hIq52, hAq52⟩ := hq52
          rw [hIq52, hAq52]
          have gbq52 : 0 ≤ gkr v51 (I 15) ∧ gkr v51 (I 15) ≤ 1 := by unfold gkr; split <;> omega
          have p53 := gPo.I 15 (gkr v51 (I 15)) hz0 rfl (show 0 ≤ gkr v51 (I 15) ∧ gkr v51 (I 15) ≤ 1 by omega)
          show jt _ 114 [(0, .ref m), (1, .long (jL x)), (3, .long (jL f)), (5, .long (jL v44)), (7, .long (jL x)), (9, .long (jL v48))] [.long (jL (gkp v51))] (gmf m f0 (va_up I 15 (gkr v51 (I 15))) A) _ _ _
          exact gm_lret d_GM_over_114 rfl (by
        have hq9 := hob.1 (by omega)
        rw [← ty] at hq9
        refine ⟨gkp v51, rfl, by have h9 := gkp_gin v51; omega, p53, fun ⟨r9, g9, h9⟩ => ?_, fun z => ?_⟩
        · have h8 := (hob.2 r9 h9).2
          rw [← ty] at h8
          rw [← h8] at g9
          refine ⟨by show gkr v51 (I 15) = I 15; unfold gkr; rw [if_pos g9], ?_, gkp_gin _⟩
          unfold gkp; rw [if_pos g9]; exact hq9
        · show gkr v51 (I 15) = 1
          unfold gkr
          rw [if_neg (fun g9 => z ⟨_, g9, hq9⟩)])
        · skip
          refine jt_aload_n d_GM_over_100 rfl ?_
          refine jt_iconst d_GM_over_101 ?_
          refine gm_pI (k := 15) (v := 1) (J := va_up I 15 1) d_GM_over_102 (GM_w55 _ rfl) (by decide) (jnz (by omega)) rfl rfl ?_
          have p54 := gPo.I 15 1 hz0 rfl (show 0 ≤ 1 ∧ 1 ≤ 1 by omega)
          refine jt_aload_n d_GM_over_105 rfl ?_
          refine jt_lload d_GM_over_106 rfl ?_
          refine jt_lload d_GM_over_108 rfl ?_
          refine jt_ldiv d_GM_over_110 (by unfold jRl; omega) (by unfold jRl; omega) (by omega) ?_
          refine jt_topln (fun v55 bv55 ev55 => ?_)
          have tb := ss_b x v48
          have ty : v55 = Int.tdiv x v48 := by omega
          refine gct_call (Y := Y_GM_kept) (As := [.long (jL v55)]) (rest := []) d_GM_over_111 GM_c185 yk_GM_kept yv_GM_kept rfl (Nat.le_of_ble_eq_true rfl) rfl rfl (Nat.le_of_ble_eq_true rfl) (c_GM_kept G _ m v55 (va_up I 15 1) A (by unfold jRl; omega)) (fun rvq56 Iq56 Aq56 hq56 => ?_)
          obtain ⟨rfl, hIq56, hAq56⟩ := hq56
          rw [hIq56, hAq56]
          have gbq56 : 0 ≤ gkr v55 1 ∧ gkr v55 1 ≤ 1 := by unfold gkr; split <;> omega
          have p57 := gPo.I 15 (gkr v55 1) p54 rfl (show 0 ≤ gkr v55 1 ∧ gkr v55 1 ≤ 1 by omega)
          show jt _ 114 [(0, .ref m), (1, .long (jL x)), (3, .long (jL f)), (5, .long (jL v44)), (7, .long (jL x)), (9, .long (jL v48))] [.long (jL (gkp v55))] (gmf m f0 (va_up (va_up I 15 1) 15 (gkr v55 1)) A) _ _ _
          exact gm_lret d_GM_over_114 rfl (by
        have hno : ¬ (∃ r : Int, gin r ∧ r * f = x * 65536) := fun ⟨r9, g9, h9⟩ => by have h8 := (hob.2 r9 h9).1; omega
        exact ⟨gkp v55, rfl, by have h9 := gkp_gin v55; omega, p57, fun z => absurd z hno, fun _ => by show gkr v55 1 = 1; unfold gkr; split <;> rfl⟩)
      · skip
        obtain ⟨bb, mm, b0, b1, m0, m1, hb, hm, d1, d2, d3⟩ := hos.1 (by omega)
        rw [← hsn] at hb d1
        have hoi := ov_in hsg b0 hb hm
        clear hb hm
        refine jt_ldc2 (z := 65536) d_GM_over_37 GM_k197 ?_
        refine jt_lload d_GM_over_40 rfl ?_
        refine jt_ldiv d_GM_over_42 (by unfold jRl; omega) (by unfold jRl; omega) (by omega) ?_
        refine jt_topln (fun v58 bv58 ev58 => ?_)
        obtain rfl : v58 = bb := by omega
        refine jt_lstore (L' := [(0, .ref m), (1, .long (jL x)), (3, .long (jL f)), (5, .long (jL v44)), (7, .long (jL x)), (9, .long (jL v58))]) d_GM_over_43 (Nat.le_of_ble_eq_true rfl) rfl ?_
        refine jt_lload d_GM_over_45 rfl ?_
        refine jt_ldc2 (z := 68719476736) d_GM_over_47 GM_k179 ?_
        refine jt_lload d_GM_over_50 rfl ?_
        refine jt_ldiv d_GM_over_52 (by unfold jRl; omega) (by unfold jRl; omega) (by omega) ?_
        refine jt_topln (fun v59 bv59 ev59 => ?_)
        refine jt_lif_gt (t := 69) d_GM_over_53 d_GM_over_54 rfl (by unfold jRl; omega) (by unfold jRl; omega) (fun c60 => ?_) (fun c60 => ?_)
        · skip
          refine jt_aload_n d_GM_over_69 rfl ?_
          refine jt_iconst d_GM_over_70 ?_
          refine gm_pI (k := 15) (v := 1) (J := va_up I 15 1) d_GM_over_71 (GM_w55 _ rfl) (by decide) (jnz (by omega)) rfl rfl ?_
          have p61 := gPo.I 15 1 hz0 rfl (show 0 ≤ 1 ∧ 1 ≤ 1 by omega)
          refine jt_lconst (z := 0) d_GM_over_74 (by decide) ?_
          exact gm_lret d_GM_over_75 rfl (⟨0, rfl, by omega, p61, fun z => absurd z (hoi.2 (by omega)), fun _ => rfl⟩)
        · skip
          refine jt_lload d_GM_over_57 rfl ?_
          refine jt_ldc2 (z := -68719476736) d_GM_over_59 GM_k181 ?_
          refine jt_lload d_GM_over_62 rfl ?_
          refine jt_ldiv d_GM_over_64 (by unfold jRl; omega) (by unfold jRl; omega) (by omega) ?_
          refine jt_topln (fun v62 bv62 ev62 => ?_)
          refine jt_lif_ge (t := 76) d_GM_over_65 d_GM_over_66 rfl (by unfold jRl; omega) (by unfold jRl; omega) (fun c63 => ?_) (fun c63 => ?_)
          · skip
            refine jt_lload d_GM_over_76 rfl ?_
            refine jt_lload d_GM_over_78 rfl ?_
            refine jt_lmul d_GM_over_80 ?_
            refine jt_topln (fun v64 bv64 ev64 => ?_)
            have hin := hoi.1 (by omega)
            have ey : v64 = x * v58 := by have h9 := hin.2; omega
            exact gm_lret d_GM_over_81 rfl (⟨v64, rfl, by omega, hz0, fun _ => ⟨rfl, by rw [ey]; exact hin.1, by rw [ey]; exact hin.2⟩, fun z => absurd ⟨_, hin.2, hin.1⟩ z⟩)
          · skip
            refine jt_aload_n d_GM_over_69 rfl ?_
            refine jt_iconst d_GM_over_70 ?_
            refine gm_pI (k := 15) (v := 1) (J := va_up I 15 1) d_GM_over_71 (GM_w55 _ rfl) (by decide) (jnz (by omega)) rfl rfl ?_
            have p65 := gPo.I 15 1 hz0 rfl (show 0 ≤ 1 ∧ 1 ≤ 1 by omega)
            refine jt_lconst (z := 0) d_GM_over_74 (by decide) ?_
            exact gm_lret d_GM_over_75 rfl (⟨0, rfl, by omega, p65, fun z => absurd z (hoi.2 (by omega)), fun _ => rfl⟩)
    · skip
      refine jt_lload_n d_GM_over_20 rfl ?_
      refine jt_lneg d_GM_over_21 ?_
      refine jt_topln (fun v66 bv66 ev66 => ?_)
      refine jt_goto (t := 26) d_GM_over_22 rfl ?_
      refine jt_lstore (L' := [(0, .ref m), (1, .long (jL x)), (3, .long (jL f)), (5, .long (jL v44)), (7, .long (jL v66))]) d_GM_over_26 (Nat.le_of_ble_eq_true rfl) rfl ?_
      have hsg : Hd ((f < 0 ∧ v44 = -f ∧ v66 = -x) ∨ (0 ≤ f ∧ v44 = f ∧ v66 = x)) := by first | exact Or.inl ⟨by omega, by omega, by omega⟩ | exact Or.inr ⟨by omega, by omega, by omega⟩
      have hsn : v44 = (f.natAbs : Int) := by omega
      have hvb : -137438953472 ≤ v66 ∧ v66 ≤ 137438953472 := by omega
      refine jt_lload d_GM_over_28 rfl ?_
      refine jt_ldc2 (z := 65536) d_GM_over_30 GM_k197 ?_
      refine jt_lif_gt (t := 82) d_GM_over_33 d_GM_over_34 rfl (by unfold jRl; omega) (by unfold jRl; omega) (fun c67 => ?_) (fun c67 => ?_)
      · skip
        obtain ⟨bb, b0, b1, hb, d1⟩ := hos.2 (by omega)
        rw [← hsn] at hb d1
        have hob := ov_big hsg b0 hb
        clear hb
        refine jt_lload d_GM_over_82 rfl ?_
        refine jt_ldc2 (z := 65536) d_GM_over_84 GM_k197 ?_
        refine jt_ldiv d_GM_over_87 (by unfold jRl; omega) (by unfold jRl; omega) (by omega) ?_
        have td68 := gtd v44 65536 (by omega)
        refine jt_topln (fun v69 bv69 ev69 => ?_)
        obtain rfl : v69 = bb := by omega
        refine jt_lstore (L' := [(0, .ref m), (1, .long (jL x)), (3, .long (jL f)), (5, .long (jL v44)), (7, .long (jL v66)), (9, .long (jL v69))]) d_GM_over_88 (Nat.le_of_ble_eq_true rfl) rfl ?_
        refine jt_lload d_GM_over_90 rfl ?_
        refine jt_lload d_GM_over_92 rfl ?_
        refine jt_lrem d_GM_over_94 (by unfold jRl; omega) (by unfold jRl; omega) (by omega) ?_
        refine jt_topln (fun v70 bv70 ev70 => ?_)
        have tm := ss_m v66 v69
        have tr : v70 = Int.tmod v66 v69 := by omega
        refine jt_lconst (z := 0) d_GM_over_95 (by decide) ?_
        refine jt_lif_eq (t := 105) d_GM_over_96 d_GM_over_97 rfl (by unfold jRl; omega) (by unfold jRl; omega) (fun c71 => ?_) (fun c71 => ?_)
        · skip
          refine jt_aload_n d_GM_over_105 rfl ?_
          refine jt_lload d_GM_over_106 rfl ?_
          refine jt_lload d_GM_over_108 rfl ?_
          refine jt_ldiv d_GM_over_110 (by unfold jRl; omega) (by unfold jRl; omega) (by omega) ?_
          refine jt_topln (fun v72 bv72 ev72 => ?_)
          have tb := ss_b v66 v69
          have ty : v72 = Int.tdiv v66 v69 := by omega
          refine gct_call (Y := Y_GM_kept) (As := [.long (jL v72)]) (rest := []) d_GM_over_111 GM_c185 yk_GM_kept yv_GM_kept rfl (Nat.le_of_ble_eq_true rfl) rfl rfl (Nat.le_of_ble_eq_true rfl) (c_GM_kept G _ m v72 I A (by unfold jRl; omega)) (fun rvq73 Iq73 Aq73 hq73 => ?_)
          obtain ⟨rfl, hIq73, hAq73⟩ := hq73
          rw [hIq73, hAq73]
          have gbq73 : 0 ≤ gkr v72 (I 15) ∧ gkr v72 (I 15) ≤ 1 := by unfold gkr; split <;> omega
          have p74 := gPo.I 15 (gkr v72 (I 15)) hz0 rfl (show 0 ≤ gkr v72 (I 15) ∧ gkr v72 (I 15) ≤ 1 by omega)
          show jt _ 114 [(0, .ref m), (1, .long (jL x)), (3, .long (jL f)), (5, .long (jL v44)), (7, .long (jL v66)), (9, .long (jL v69))] [.long (jL (gkp v72))] (gmf m f0 (va_up I 15 (gkr v72 (I 15))) A) _ _ _
          exact gm_lret d_GM_over_114 rfl (by
        have hq9 := hob.1 (by omega)
        rw [← ty] at hq9
        refine ⟨gkp v72, rfl, by have h9 := gkp_gin v72; omega, p74, fun ⟨r9, g9, h9⟩ => ?_, fun z => ?_⟩
        · have h8 := (hob.2 r9 h9).2
          rw [← ty] at h8
          rw [← h8] at g9
          refine ⟨by show gkr v72 (I 15) = I 15; unfold gkr; rw [if_pos g9], ?_, gkp_gin _⟩
          unfold gkp; rw [if_pos g9]; exact hq9
        · show gkr v72 (I 15) = 1
          unfold gkr
          rw [if_neg (fun g9 => z ⟨_, g9, hq9⟩)])
        · skip
          refine jt_aload_n d_GM_over_100 rfl ?_
          refine jt_iconst d_GM_over_101 ?_
          refine gm_pI (k := 15) (v := 1) (J := va_up I 15 1) d_GM_over_102 (GM_w55 _ rfl) (by decide) (jnz (by omega)) rfl rfl ?_
          have p75 := gPo.I 15 1 hz0 rfl (show 0 ≤ 1 ∧ 1 ≤ 1 by omega)
          refine jt_aload_n d_GM_over_105 rfl ?_
          refine jt_lload d_GM_over_106 rfl ?_
          refine jt_lload d_GM_over_108 rfl ?_
          refine jt_ldiv d_GM_over_110 (by unfold jRl; omega) (by unfold jRl; omega) (by omega) ?_
          refine jt_topln (fun v76 bv76 ev76 => ?_)
          have tb := ss_b v66 v69
          have ty : v76 = Int.tdiv v66 v69 := by omega
          refine gct_call (Y := Y_GM_kept) (As := [.long (jL v76)]) (rest := []) d_GM_over_111 GM_c185 yk_GM_kept yv_GM_kept rfl (Nat.le_of_ble_eq_true rfl) rfl rfl (Nat.le_of_ble_eq_true rfl) (c_GM_kept G _ m v76 (va_up I 15 1) A (by unfold jRl; omega)) (fun rvq77 Iq77 Aq77 hq77 => ?_)
          obtain ⟨rfl, hIq77, hAq77⟩ := hq77
          rw [hIq77, hAq77]
          have gbq77 : 0 ≤ gkr v76 1 ∧ gkr v76 1 ≤ 1 := by unfold gkr; split <;> omega
          have p78 := gPo.I 15 (gkr v76 1) p75 rfl (show 0 ≤ gkr v76 1 ∧ gkr v76 1 ≤ 1 by omega)
          show jt _ 114 [(0, .ref m), (1, .long (jL x)), (3, .long (jL f)), (5, .long (jL v44)), (7, .long (jL v66)), (9, .long (jL v69))] [.long (jL (gkp v76))] (gmf m f0 (va_up (va_up I 15 1) 15 (gkr v76 1)) A) _ _ _
          exact gm_lret d_GM_over_114 rfl (by
        have hno : ¬ (∃ r : Int, gin r ∧ r * f = x * 65536) := fun ⟨r9, g9, h9⟩ => by have h8 := (hob.2 r9 h9).1; omega
        exact ⟨gkp v76, rfl, by have h9 := gkp_gin v76; omega, p78, fun z => absurd z hno, fun _ => by show gkr v76 1 = 1; unfold gkr; split <;> rfl⟩)
      · skip
        obtain ⟨bb, mm, b0, b1, m0, m1, hb, hm, d1, d2, d3⟩ := hos.1 (by omega)
        rw [← hsn] at hb d1
        have hoi := ov_in hsg b0 hb hm
        clear hb hm
        refine jt_ldc2 (z := 65536) d_GM_over_37 GM_k197 ?_
        refine jt_lload d_GM_over_40 rfl ?_
        refine jt_ldiv d_GM_over_42 (by unfold jRl; omega) (by unfold jRl; omega) (by omega) ?_
        refine jt_topln (fun v79 bv79 ev79 => ?_)
        obtain rfl : v79 = bb := by omega
        refine jt_lstore (L' := [(0, .ref m), (1, .long (jL x)), (3, .long (jL f)), (5, .long (jL v44)), (7, .long (jL v66)), (9, .long (jL v79))]) d_GM_over_43 (Nat.le_of_ble_eq_true rfl) rfl ?_
        refine jt_lload d_GM_over_45 rfl ?_
        refine jt_ldc2 (z := 68719476736) d_GM_over_47 GM_k179 ?_
        refine jt_lload d_GM_over_50 rfl ?_
        refine jt_ldiv d_GM_over_52 (by unfold jRl; omega) (by unfold jRl; omega) (by omega) ?_
        refine jt_topln (fun v80 bv80 ev80 => ?_)
        refine jt_lif_gt (t := 69) d_GM_over_53 d_GM_over_54 rfl (by unfold jRl; omega) (by unfold jRl; omega) (fun c81 => ?_) (fun c81 => ?_)
        · skip
          refine jt_aload_n d_GM_over_69 rfl ?_
          refine jt_iconst d_GM_over_70 ?_
          refine gm_pI (k := 15) (v := 1) (J := va_up I 15 1) d_GM_over_71 (GM_w55 _ rfl) (by decide) (jnz (by omega)) rfl rfl ?_
          have p82 := gPo.I 15 1 hz0 rfl (show 0 ≤ 1 ∧ 1 ≤ 1 by omega)
          refine jt_lconst (z := 0) d_GM_over_74 (by decide) ?_
          exact gm_lret d_GM_over_75 rfl (⟨0, rfl, by omega, p82, fun z => absurd z (hoi.2 (by omega)), fun _ => rfl⟩)
        · skip
          refine jt_lload d_GM_over_57 rfl ?_
          refine jt_ldc2 (z := -68719476736) d_GM_over_59 GM_k181 ?_
          refine jt_lload d_GM_over_62 rfl ?_
          refine jt_ldiv d_GM_over_64 (by unfold jRl; omega) (by unfold jRl; omega) (by omega) ?_
          refine jt_topln (fun v83 bv83 ev83 => ?_)
          refine jt_lif_ge (t := 76) d_GM_over_65 d_GM_over_66 rfl (by unfold jRl; omega) (by unfold jRl; omega) (fun c84 => ?_) (fun c84 => ?_)
          · skip
            refine jt_lload d_GM_over_76 rfl ?_
            refine jt_lload d_GM_over_78 rfl ?_
            refine jt_lmul d_GM_over_80 ?_
            refine jt_topln (fun v85 bv85 ev85 => ?_)
            have hin := hoi.1 (by omega)
            have ey : v85 = v66 * v79 := by have h9 := hin.2; omega
            exact gm_lret d_GM_over_81 rfl (⟨v85, rfl, by omega, hz0, fun _ => ⟨rfl, by rw [ey]; exact hin.1, by rw [ey]; exact hin.2⟩, fun z => absurd ⟨_, hin.2, hin.1⟩ z⟩)
          · skip
            refine jt_aload_n d_GM_over_69 rfl ?_
            refine jt_iconst d_GM_over_70 ?_
            refine gm_pI (k := 15) (v := 1) (J := va_up I 15 1) d_GM_over_71 (GM_w55 _ rfl) (by decide) (jnz (by omega)) rfl rfl ?_
            have p86 := gPo.I 15 1 hz0 rfl (show 0 ≤ 1 ∧ 1 ≤ 1 by omega)
            refine jt_lconst (z := 0) d_GM_over_74 (by decide) ?_
            exact gm_lret d_GM_over_75 rfl (⟨0, rfl, by omega, p86, fun z => absurd z (hoi.2 (by omega)), fun _ => rfl⟩)

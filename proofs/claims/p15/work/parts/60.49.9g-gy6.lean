/-- what solve leaves -/
def svE (D : Int → Int) (V : Int → Int → Int) (v : Int) (I : Nat → Int) (A : Nat → Int → Int) (J : Nat → Int) (B : Nat → Int → Int) : Prop :=
  (J 15 = 0 → ∃ S : Int → Int, SVK (A 30) V D v S ∧ ∀ (s2 : Int → Int) (V2 : Int → Int → Int), SVR (A 30) V v S s2 V2 → gVs s2 V2 B) ∧ (J 15 ≠ 0 → ¬ ∃ S : Int → Int, SVK (A 30) V D v S) ∧ ∀ z, z < 5161 → B 35 z = A 35 z
set_option maxRecDepth 100000 in
set_option maxHeartbeats 1000000 in
theorem l99_GM_solvey (G : jG) (d m : Nat) (v : Int) (I : Nat → Int) (A : Nat → Int → Int) (hI : gSI I) (hA : gSA A) (v0 : 0 ≤ v ∧ v < 12) (D9 : Int → Int) (hD9 : ∀ i, 0 ≤ i → i < 13 → A 35 (399 * 13 + i) = D9 i) (hw : wid D9) (hpw : pw (D9 v)) (z15 : I 15 = 0) (V9 : Int → Int → Int) (hV : gVr V9 A) (hI9 : VI (A 30) V9) (hsv : A 30 v = 0) (f0 : jF) (sz : Nat) (f : Int) (hfd : f = D9 v) (S9 : Int → Int) (u : Int) (u0 : 0 ≤ u ∧ u < 12) (hout : ∀ (i : Int) (J : Nat → Int) (B : Nat → Int → Int), gPo [15] [30, 31, 33, 34, 35] I A J B → (0 ≤ i) → (i ≤ 13) → (∀ j, 0 ≤ j → j < 13 → B 35 (5174 + j) = S9 j) → (∀ z, z < 5161 → B 35 z = A 35 z) → (J 15 = 0 ∧ (SL D9 v S9 ∧ inr S9 ∧ svG (A 30) V9 v S9 u A B) ∧ B 30 v = 0) → (∀ j, 0 ≤ j → j < i → B 35 (5161 + j) = V9 u j) → (∀ j, 0 ≤ j → j < 13 → B 31 (u * 13 + j) = V9 u j) → (i = 13) → jt (jm G Y_GM_solve (gR (d + 3)) (gQ m f0 sz (fun (rv : Option Value) (I2 : Nat → Int) (A2 : Nat → Int → Int) => rv = none ∧ gPo [15] [30, 31, 33, 34, 35] I A I2 A2 ∧ svE D9 V9 v I A I2 A2))) 136 [(0, .ref m), (1, .int (jI v)), (2, .long (jL f)), (4, .int (jI u)), (5, .int (jI i))] [] (gmf m f0 J B) sz 0 0) : ∀ (n9 : Nat) (i : Int) (J : Nat → Int) (B : Nat → Int → Int), gPo [15] [30, 31, 33, 34, 35] I A J B → (0 ≤ i) → (i ≤ 13) → (∀ j, 0 ≤ j → j < 13 → B 35 (5174 + j) = S9 j) → (∀ z, z < 5161 → B 35 z = A 35 z) → (J 15 = 0 ∧ (SL D9 v S9 ∧ inr S9 ∧ svG (A 30) V9 v S9 u A B) ∧ B 30 v = 0) → (∀ j, 0 ≤ j → j < i → B 35 (5161 + j) = V9 u j) → (∀ j, 0 ≤ j → j < 13 → B 31 (u * 13 + j) = V9 u j) → 13 - i < (n9 : Int) → jt (jm G Y_GM_solve (gR (d + 3)) (gQ m f0 sz (fun (rv : Option Value) (I2 : Nat → Int) (A2 : Nat → Int → Int) => rv = none ∧ gPo [15] [30, 31, 33, 34, 35] I A I2 A2 ∧ svE D9 V9 v I A I2 A2))) 99 [(0, .ref m), (1, .int (jI v)), (2, .long (jL f)), (4, .int (jI u)), (5, .int (jI i))] [] (gmf m f0 J B) sz 0 0 := by
  have wv := hw v (by omega) (by omega)
  have hdv := pw_nz hpw
  intro n9
  induction n9 with
  | zero =>
    intro i J B hJ i0 i1 hS ho h30 hr hrow hmeas
    exfalso
    omega
  | succ n9 ih =>
    intro i J B hJ i0 i1 hS ho h30 hr hrow hmeas
    refine jt_iload d_GM_solve_99 rfl ?_
    refine jt_bipush d_GM_solve_101 (by omega) ?_
    refine jt_icmp_ge (t := 136) d_GM_solve_103 rfl (by unfold jRi; omega) (by unfold jRi; omega) (fun c101 => ?_) (fun c101 => ?_)
    · skip
      exact hout i J B hJ i0 i1 hS ho h30 hr hrow (by omega)
    · skip
      refine jt_aload_n d_GM_solve_106 rfl ?_
      refine gm_gA (k := 35) (a := m + 20) d_GM_solve_107 GM_f118 (by decide) (by decide) rfl ?_
      refine jt_sipush d_GM_solve_110 (by omega) ?_
      refine jt_iload d_GM_solve_113 rfl ?_
      refine jt_iadd d_GM_solve_115 ?_
      refine jt_aload_n d_GM_solve_116 rfl ?_
      refine gm_gA (k := 31) (a := m + 16) d_GM_solve_117 GM_f105 (by decide) (by decide) rfl ?_
      refine jt_iload d_GM_solve_120 rfl ?_
      refine jt_bipush d_GM_solve_122 (by omega) ?_
      refine jt_imul d_GM_solve_124 ?_
      refine jt_iload d_GM_solve_125 rfl ?_
      refine jt_iadd d_GM_solve_127 ?_
      refine gm_ld1 (k := 31) (n := 156) (v := (B 31) ((u * 13) + i)) d_GM_solve_128 rfl (by decide) (by decide) rfl rfl (by omega) (by omega) (by omega) rfl ?_
      refine jt_topl (fun v102 ev102 => ?_)
      have bv102 : (-9223372036854775808) ≤ v102 ∧ v102 ≤ 9223372036854775807 := by rw [ev102]; exact hJ.2.1 31 ((u * 13) + i)
      refine gm_st1 (k := 35) (n := 5200) (B := va_up B 35 (ju (B 35) (5161 + i) v102)) d_GM_solve_129 rfl (by decide) (by decide) rfl rfl (by omega) (by omega) (by omega) rfl ?_
      have p103 := gPo.A 35 (ju (B 35) (5161 + i) v102) hJ rfl (gju (hJ.2.1 35) (show -9223372036854775808 ≤ v102 ∧ v102 ≤ 9223372036854775807 by omega))
      refine jt_iinc (L' := [(0, .ref m), (1, .int (jI v)), (2, .long (jL f)), (4, .int (jI u)), (5, .int (jI (i + 1)))]) d_GM_solve_130 rfl (Nat.le_of_ble_eq_true rfl) rfl ?_
      refine jt_goto (t := 99) d_GM_solve_133 rfl ?_
      exact ih (i + 1) J (va_up B 35 (ju (B 35) (5161 + i) v102)) p103 (by omega) (by omega) (fun j a c => (ju_ne _ _ (by omega)).trans (hS j a c)) (fun z hz => (ju_ne _ _ (by omega)).trans (ho z hz)) h30 (fun j a c => by rcases Classical.em (j = i) with e9 | e9; exact (by rw [e9]; exact (ju_self _ _ _).trans (by rw [ev102]; exact hrow i (by omega) (by omega))); exact (ju_ne _ _ (by omega)).trans (hr j a (by omega))) hrow (by omega)
set_option maxRecDepth 100000 in
set_option maxHeartbeats 1000000 in
theorem l168_GM_solvey (G : jG) (d m : Nat) (v : Int) (I : Nat → Int) (A : Nat → Int → Int) (hI : gSI I) (hA : gSA A) (v0 : 0 ≤ v ∧ v < 12) (D9 : Int → Int) (hD9 : ∀ i, 0 ≤ i → i < 13 → A 35 (399 * 13 + i) = D9 i) (hw : wid D9) (hpw : pw (D9 v)) (z15 : I 15 = 0) (V9 : Int → Int → Int) (hV : gVr V9 A) (hI9 : VI (A 30) V9) (hsv : A 30 v = 0) (f0 : jF) (sz : Nat) (f : Int) (hfd : f = D9 v) (S9 : Int → Int) (u : Int) (u0 : 0 ≤ u ∧ u < 12) (B0 : Nat → Int → Int) (hout : ∀ (i : Int) (J : Nat → Int) (B : Nat → Int → Int), gPo [15] [30, 31, 33, 34, 35] I A J B → (0 ≤ i) → (i ≤ 13) → (J 15 = 0 ∧ B 30 = B0 30 ∧ B 35 = B0 35 ∧ (∀ j, 0 ≤ j → j < i → B 31 (u * 13 + j) = B0 35 (397 * 13 + j)) ∧ ∀ z, ¬ (u * 13 ≤ z ∧ z < u * 13 + 13) → B 31 z = B0 31 z) → (i = 13) → jt (jm G Y_GM_solve (gR (d + 3)) (gQ m f0 sz (fun (rv : Option Value) (I2 : Nat → Int) (A2 : Nat → Int → Int) => rv = none ∧ gPo [15] [30, 31, 33, 34, 35] I A I2 A2 ∧ svE D9 V9 v I A I2 A2))) 205 [(0, .ref m), (1, .int (jI v)), (2, .long (jL f)), (4, .int (jI u)), (5, .int (jI i))] [] (gmf m f0 J B) sz 0 0) : ∀ (n9 : Nat) (i : Int) (J : Nat → Int) (B : Nat → Int → Int), gPo [15] [30, 31, 33, 34, 35] I A J B → (0 ≤ i) → (i ≤ 13) → (J 15 = 0 ∧ B 30 = B0 30 ∧ B 35 = B0 35 ∧ (∀ j, 0 ≤ j → j < i → B 31 (u * 13 + j) = B0 35 (397 * 13 + j)) ∧ ∀ z, ¬ (u * 13 ≤ z ∧ z < u * 13 + 13) → B 31 z = B0 31 z) → 13 - i < (n9 : Int) → jt (jm G Y_GM_solve (gR (d + 3)) (gQ m f0 sz (fun (rv : Option Value) (I2 : Nat → Int) (A2 : Nat → Int → Int) => rv = none ∧ gPo [15] [30, 31, 33, 34, 35] I A I2 A2 ∧ svE D9 V9 v I A I2 A2))) 168 [(0, .ref m), (1, .int (jI v)), (2, .long (jL f)), (4, .int (jI u)), (5, .int (jI i))] [] (gmf m f0 J B) sz 0 0 := by
  have wv := hw v (by omega) (by omega)
  have hdv := pw_nz hpw
  intro n9
  induction n9 with
  | zero =>
    intro i J B hJ i0 i1 hcb hmeas
    exfalso
    omega
  | succ n9 ih =>
    intro i J B hJ i0 i1 hcb hmeas
    refine jt_iload d_GM_solve_168 rfl ?_
    refine jt_bipush d_GM_solve_170 (by omega) ?_
    refine jt_icmp_ge (t := 205) d_GM_solve_172 rfl (by unfold jRi; omega) (by unfold jRi; omega) (fun c201 => ?_) (fun c201 => ?_)
    · skip
      exact hout i J B hJ i0 i1 hcb (by omega)
    · skip
      refine jt_aload_n d_GM_solve_175 rfl ?_
      refine gm_gA (k := 31) (a := m + 16) d_GM_solve_176 GM_f105 (by decide) (by decide) rfl ?_
      refine jt_iload d_GM_solve_179 rfl ?_
      refine jt_bipush d_GM_solve_181 (by omega) ?_
      refine jt_imul d_GM_solve_183 ?_
      refine jt_iload d_GM_solve_184 rfl ?_
      refine jt_iadd d_GM_solve_186 ?_
      refine jt_aload_n d_GM_solve_187 rfl ?_
      refine gm_gA (k := 35) (a := m + 20) d_GM_solve_188 GM_f118 (by decide) (by decide) rfl ?_
      refine jt_sipush d_GM_solve_191 (by omega) ?_
      refine jt_iload d_GM_solve_194 rfl ?_
      refine jt_iadd d_GM_solve_196 ?_
      refine gm_ld1 (k := 35) (n := 5200) (v := (B 35) (5161 + i)) d_GM_solve_197 rfl (by decide) (by decide) rfl rfl (by omega) (by omega) (by omega) rfl ?_
      refine jt_topl (fun v202 ev202 => ?_)
      have bv202 : (-9223372036854775808) ≤ v202 ∧ v202 ≤ 9223372036854775807 := by rw [ev202]; exact hJ.2.1 35 (5161 + i)
      refine gm_st1 (k := 31) (n := 156) (B := va_up B 31 (ju (B 31) ((u * 13) + i) v202)) d_GM_solve_198 rfl (by decide) (by decide) rfl rfl (by omega) (by omega) (by omega) rfl ?_
      have p203 := gPo.A 31 (ju (B 31) ((u * 13) + i) v202) hJ rfl (gju (hJ.2.1 31) (show -9223372036854775808 ≤ v202 ∧ v202 ≤ 9223372036854775807 by omega))
      refine jt_iinc (L' := [(0, .ref m), (1, .int (jI v)), (2, .long (jL f)), (4, .int (jI u)), (5, .int (jI (i + 1)))]) d_GM_solve_199 rfl (Nat.le_of_ble_eq_true rfl) rfl ?_
      refine jt_goto (t := 168) d_GM_solve_202 rfl ?_
      exact ih (i + 1) J (va_up B 31 (ju (B 31) ((u * 13) + i) v202)) p203 (by omega) (by omega) ⟨hcb.1, hcb.2.1, hcb.2.2.1, fun j a c => by rcases Classical.em (j = i) with e9 | e9; exact (by rw [e9]; exact (ju_self _ _ _).trans (by rw [ev202, hcb.2.2.1, show (397 : Int) * 13 + i = 5161 + i by omega])); exact (ju_ne _ _ (by omega)).trans (hcb.2.2.2.1 j a (by omega)), fun z hz => (ju_ne _ _ (by omega)).trans (hcb.2.2.2.2 z hz)⟩ (by omega)
set_option maxRecDepth 100000 in
set_option maxHeartbeats 1000000 in
theorem l247_GM_solvey (G : jG) (d m : Nat) (v : Int) (I : Nat → Int) (A : Nat → Int → Int) (hI : gSI I) (hA : gSA A) (v0 : 0 ≤ v ∧ v < 12) (D9 : Int → Int) (hD9 : ∀ i, 0 ≤ i → i < 13 → A 35 (399 * 13 + i) = D9 i) (hw : wid D9) (hpw : pw (D9 v)) (z15 : I 15 = 0) (V9 : Int → Int → Int) (hV : gVr V9 A) (hI9 : VI (A 30) V9) (hsv : A 30 v = 0) (f0 : jF) (sz : Nat) (f : Int) (hfd : f = D9 v) (S9 : Int → Int) (B0 : Nat → Int → Int) (hS0 : ∀ j, 0 ≤ j → j < 13 → B0 35 (5174 + j) = S9 j) (ho0 : ∀ z, z < 5161 → B0 35 z = A 35 z) (hG0 : SL D9 v S9 ∧ inr S9 ∧ svG (A 30) V9 v S9 12 A B0) : ∀ (n9 : Nat) (i : Int) (J : Nat → Int) (B : Nat → Int → Int), gPo [15] [30, 31, 33, 34, 35] I A J B → (0 ≤ i) → (i ≤ 13) → (J 15 = 0 ∧ B 30 = B0 30 ∧ B 35 = B0 35 ∧ (∀ j, 0 ≤ j → j < i → B 31 (v * 13 + j) = S9 j) ∧ ∀ z, ¬ (v * 13 ≤ z ∧ z < v * 13 + 13) → B 31 z = B0 31 z) → 13 - i < (n9 : Int) → jt (jm G Y_GM_solve (gR (d + 3)) (gQ m f0 sz (fun (rv : Option Value) (I2 : Nat → Int) (A2 : Nat → Int → Int) => rv = none ∧ gPo [15] [30, 31, 33, 34, 35] I A I2 A2 ∧ svE D9 V9 v I A I2 A2))) 247 [(0, .ref m), (1, .int (jI v)), (2, .long (jL f)), (4, .int (jI i))] [] (gmf m f0 J B) sz 0 0 := by
  have wv := hw v (by omega) (by omega)
  have hdv := pw_nz hpw
  intro n9
  induction n9 with
  | zero =>
    intro i J B hJ i0 i1 hcb hmeas
    exfalso
    omega
  | succ n9 ih =>
    intro i J B hJ i0 i1 hcb hmeas
    refine jt_iload d_GM_solve_247 rfl ?_
    refine jt_bipush d_GM_solve_249 (by omega) ?_
    refine jt_icmp_ge (t := 283) d_GM_solve_251 rfl (by unfold jRi; omega) (by unfold jRi; omega) (fun c301 => ?_) (fun c301 => ?_)
    · skip
      refine jt_aload_n d_GM_solve_283 rfl ?_
      refine gm_gA (k := 30) (a := m + 15) d_GM_solve_284 GM_f102 (by decide) (by decide) rfl ?_
      refine jt_iload_n d_GM_solve_287 rfl ?_
      refine jt_aload_n d_GM_solve_288 rfl ?_
      refine jt_sipush d_GM_solve_289 (by omega) ?_
      refine gct_call (Y := Y_GM_isNumber) (As := [.int (jI 398)]) (rest := [.int (jI v), .ref (m + 15)]) d_GM_solve_292 GM_c260 yk_GM_isNumber yv_GM_isNumber rfl (Nat.le_of_ble_eq_true rfl) rfl rfl (Nat.le_of_ble_eq_true rfl) (c_GM_isNumber G _ m 398 J B (by omega) (by omega) (fun j _ _ => hJ.2.1 35 _)) (fun rvq302 Iq302 Aq302 hq302 => ?_)
      obtain ⟨haq302, hbq302, hIq302, hAq302⟩ := hq302
      rw [hIq302, hAq302]
      by_cases gq302 : Hd (∀ j, 0 ≤ j → j < 12 → B 35 (398 * 13 + j) = 0)
      · skip
        obtain rfl := haq302 gq302
        clear haq302 hbq302 hIq302 hAq302
        show jt _ 295 [(0, .ref m), (1, .int (jI v)), (2, .long (jL f)), (4, .int (jI i))] [.int (jI 1), .int (jI v), .ref (m + 15)] (gmf m f0 J B) _ _ _
        refine jt_if_eq (t := 302) d_GM_solve_295 rfl (by unfold jRi; omega) (fun c303 => ?_) (fun c303 => ?_)
        · skip
          exfalso
          omega
        · skip
          refine jt_iconst d_GM_solve_298 ?_
          refine jt_goto (t := 303) d_GM_solve_299 rfl ?_
          refine gm_st0 (k := 30) (n := 12) (B := va_up B 30 (ju (B 30) v 2)) d_GM_solve_303 rfl (by decide) (by decide) rfl rfl (by omega) (by omega) (by omega) rfl ?_
          have p304 := gPo.A 30 (ju (B 30) v 2) hJ rfl (gju (hJ.2.1 30) (show -2147483648 ≤ 2 ∧ 2 ≤ 2147483647 by omega))
          exact gm_vret d_GM_solve_304 rfl (⟨rfl, p304, fun _ => ⟨S9, ⟨hG0.1, hG0.2.1, fun u u0 u1 us => ((hG0.2.2 u u0 u1 (fun z => by rw [z] at us; omega)).1 ⟨u1, us⟩).1⟩, fun s2 V2 hr => sv_end hV hI9 hG0.1 hG0.2.1 hG0.2.2 (fun j a c => by show B 31 (v * 13 + j) = _; exact hcb.2.2.2.1 j a (by omega)) (fun u u0 u1 uv => ⟨(ju_ne _ _ uv).trans (by rw [hcb.2.1]), fun j a c => by show B 31 (u * 13 + j) = _; rw [hcb.2.2.2.2 _ (by omega)]⟩) ⟨fun _ => ju_self _ _ _, fun z => absurd (show fZ S9 from fun j a c => by have h9 := gq302 j a c; rw [hcb.2.2.1, show (398 : Int) * 13 + j = 5174 + j by omega] at h9; rw [← hS0 j a (by omega)]; exact h9) z⟩ hr⟩, fun z => absurd hcb.1 z, fun z hz => by show B 35 z = _; rw [hcb.2.2.1]; exact ho0 z hz⟩)
      · skip
        obtain rfl := hbq302 gq302
        clear haq302 hbq302 hIq302 hAq302
        show jt _ 295 [(0, .ref m), (1, .int (jI v)), (2, .long (jL f)), (4, .int (jI i))] [.int (jI 0), .int (jI v), .ref (m + 15)] (gmf m f0 J B) _ _ _
        refine jt_if_eq (t := 302) d_GM_solve_295 rfl (by unfold jRi; omega) (fun c305 => ?_) (fun c305 => ?_)
        · skip
          refine jt_iconst d_GM_solve_302 ?_
          refine gm_st0 (k := 30) (n := 12) (B := va_up B 30 (ju (B 30) v 1)) d_GM_solve_303 rfl (by decide) (by decide) rfl rfl (by omega) (by omega) (by omega) rfl ?_
          have p306 := gPo.A 30 (ju (B 30) v 1) hJ rfl (gju (hJ.2.1 30) (show -2147483648 ≤ 1 ∧ 1 ≤ 2147483647 by omega))
          exact gm_vret d_GM_solve_304 rfl (⟨rfl, p306, fun _ => ⟨S9, ⟨hG0.1, hG0.2.1, fun u u0 u1 us => ((hG0.2.2 u u0 u1 (fun z => by rw [z] at us; omega)).1 ⟨u1, us⟩).1⟩, fun s2 V2 hr => sv_end hV hI9 hG0.1 hG0.2.1 hG0.2.2 (fun j a c => by show B 31 (v * 13 + j) = _; exact hcb.2.2.2.1 j a (by omega)) (fun u u0 u1 uv => ⟨(ju_ne _ _ uv).trans (by rw [hcb.2.1]), fun j a c => by show B 31 (u * 13 + j) = _; rw [hcb.2.2.2.2 _ (by omega)]⟩) ⟨fun z => absurd (show Hd (∀ j, 0 ≤ j → j < 12 → B 35 (398 * 13 + j) = 0) from fun j a c => by rw [hcb.2.2.1, show (398 : Int) * 13 + j = 5174 + j by omega, hS0 j a (by omega)]; exact z j a c) gq302, fun _ => ju_self _ _ _⟩ hr⟩, fun z => absurd hcb.1 z, fun z hz => by show B 35 z = _; rw [hcb.2.2.1]; exact ho0 z hz⟩)
        · skip
          exfalso
          omega
    · skip
      refine jt_aload_n d_GM_solve_254 rfl ?_
      refine gm_gA (k := 31) (a := m + 16) d_GM_solve_255 GM_f105 (by decide) (by decide) rfl ?_
      refine jt_iload_n d_GM_solve_258 rfl ?_
      refine jt_bipush d_GM_solve_259 (by omega) ?_
      refine jt_imul d_GM_solve_261 ?_
      refine jt_iload d_GM_solve_262 rfl ?_
      refine jt_iadd d_GM_solve_264 ?_
      refine jt_aload_n d_GM_solve_265 rfl ?_
      refine gm_gA (k := 35) (a := m + 20) d_GM_solve_266 GM_f118 (by decide) (by decide) rfl ?_
      refine jt_sipush d_GM_solve_269 (by omega) ?_
      refine jt_iload d_GM_solve_272 rfl ?_
      refine jt_iadd d_GM_solve_274 ?_
      refine gm_ld1 (k := 35) (n := 5200) (v := (B 35) (5174 + i)) d_GM_solve_275 rfl (by decide) (by decide) rfl rfl (by omega) (by omega) (by omega) rfl ?_
      refine jt_topl (fun v307 ev307 => ?_)
      have bv307 : (-9223372036854775808) ≤ v307 ∧ v307 ≤ 9223372036854775807 := by rw [ev307]; exact hJ.2.1 35 (5174 + i)
      refine gm_st1 (k := 31) (n := 156) (B := va_up B 31 (ju (B 31) ((v * 13) + i) v307)) d_GM_solve_276 rfl (by decide) (by decide) rfl rfl (by omega) (by omega) (by omega) rfl ?_
      have p308 := gPo.A 31 (ju (B 31) ((v * 13) + i) v307) hJ rfl (gju (hJ.2.1 31) (show -9223372036854775808 ≤ v307 ∧ v307 ≤ 9223372036854775807 by omega))
      refine jt_iinc (L' := [(0, .ref m), (1, .int (jI v)), (2, .long (jL f)), (4, .int (jI (i + 1)))]) d_GM_solve_277 rfl (Nat.le_of_ble_eq_true rfl) rfl ?_
      refine jt_goto (t := 247) d_GM_solve_280 rfl ?_
      exact ih (i + 1) J (va_up B 31 (ju (B 31) ((v * 13) + i) v307)) p308 (by omega) (by omega) ⟨hcb.1, hcb.2.1, hcb.2.2.1, fun j a c => by rcases Classical.em (j = i) with e9 | e9; exact (by rw [e9]; exact (ju_self _ _ _).trans (by rw [ev307, hcb.2.2.1]; exact hS0 i (by omega) (by omega))); exact (ju_ne _ _ (by omega)).trans (hcb.2.2.2.1 j a (by omega)), fun z hz => (ju_ne _ _ (by omega)).trans (hcb.2.2.2.2 z hz)⟩ (by omega)
set_option maxRecDepth 100000 in
set_option maxHeartbeats 1000000 in
theorem l68_GM_solvey (G : jG) (d m : Nat) (v : Int) (I : Nat → Int) (A : Nat → Int → Int) (hI : gSI I) (hA : gSA A) (v0 : 0 ≤ v ∧ v < 12) (D9 : Int → Int) (hD9 : ∀ i, 0 ≤ i → i < 13 → A 35 (399 * 13 + i) = D9 i) (hw : wid D9) (hpw : pw (D9 v)) (z15 : I 15 = 0) (V9 : Int → Int → Int) (hV : gVr V9 A) (hI9 : VI (A 30) V9) (hsv : A 30 v = 0) (f0 : jF) (sz : Nat) (f : Int) (hfd : f = D9 v) (S9 : Int → Int) : ∀ (n9 : Nat) (u : Int) (J : Nat → Int) (B : Nat → Int → Int), gPo [15] [30, 31, 33, 34, 35] I A J B → (0 ≤ u ∧ u ≤ 12) → (∀ j, 0 ≤ j → j < 13 → B 35 (5174 + j) = S9 j) → (∀ z, z < 5161 → B 35 z = A 35 z) → (J 15 = 0 → B 30 v = 0) → (svQ D9 (A 30) V9 v S9 u A J B) → 12 - u < (n9 : Int) → jt (jm G Y_GM_solve (gR (d + 3)) (gQ m f0 sz (fun (rv : Option Value) (I2 : Nat → Int) (A2 : Nat → Int → Int) => rv = none ∧ gPo [15] [30, 31, 33, 34, 35] I A I2 A2 ∧ svE D9 V9 v I A I2 A2))) 68 [(0, .ref m), (1, .int (jI v)), (2, .long (jL f)), (4, .int (jI u))] [] (gmf m f0 J B) sz 0 0 := by
  have wv := hw v (by omega) (by omega)
  have hdv := pw_nz hpw
  intro n9
  induction n9 with
  | zero =>
    intro u J B hJ u0 hS ho hv30 hQ hmeas
    have q15 : 0 ≤ J 15 ∧ J 15 ≤ 1 := hJ.1 15
    exfalso
    omega
  | succ n9 ih =>
    intro u J B hJ u0 hS ho hv30 hQ hmeas
    have q15 : 0 ≤ J 15 ∧ J 15 ≤ 1 := hJ.1 15
    refine jt_iload d_GM_solve_68 rfl ?_
    refine jt_bipush d_GM_solve_70 (by omega) ?_
    refine jt_icmp_ge (t := 236) d_GM_solve_72 rfl (by unfold jRi; omega) (by unfold jRi; omega) (fun c401 => ?_) (fun c401 => ?_)
    · skip
      refine jt_aload_n d_GM_solve_236 rfl ?_
      refine gm_gI (k := 15) (v := J 15) d_GM_solve_237 GM_f55 (by decide) rfl ?_
      have rb402 : 0 ≤ J 15 ∧ J 15 ≤ 1 := hJ.1 15
      refine jt_if_eq (t := 244) d_GM_solve_240 rfl (by unfold jRi; omega) (fun c403 => ?_) (fun c403 => ?_)
      · skip
        refine jt_iconst d_GM_solve_244 ?_
        refine jt_istore (L' := [(0, .ref m), (1, .int (jI v)), (2, .long (jL f)), (4, .int (jI 0))]) d_GM_solve_245 (Nat.le_of_ble_eq_true rfl) rfl ?_
        exact l247_GM_solvey G d m v I A hI hA v0 D9 hD9 hw hpw z15 V9 hV hI9 hsv f0 sz f ((by omega)) S9 B hS ho ((by have h9 := hQ.1 (by omega); rw [show u = 12 by omega] at h9; exact h9)) 14 0 J B hJ (by omega) (by omega) ⟨by omega, rfl, rfl, fun j a c => by omega, fun _ _ => rfl⟩ (by omega)
      · skip
        exact gm_vret d_GM_solve_243 rfl (⟨rfl, hJ, fun z => absurd z (by omega), fun z => hQ.2 z, ho⟩)
    · skip
      refine jt_aload_n d_GM_solve_75 rfl ?_
      refine gm_gI (k := 15) (v := J 15) d_GM_solve_76 GM_f55 (by decide) rfl ?_
      have rb404 : 0 ≤ J 15 ∧ J 15 ≤ 1 := hJ.1 15
      refine jt_if_ne (t := 236) d_GM_solve_79 rfl (by unfold jRi; omega) (fun c405 => ?_) (fun c405 => ?_)
      · skip
        refine jt_aload_n d_GM_solve_236 rfl ?_
        refine gm_gI (k := 15) (v := J 15) d_GM_solve_237 GM_f55 (by decide) rfl ?_
        refine jt_if_eq (t := 244) d_GM_solve_240 rfl (by unfold jRi; omega) (fun c406 => ?_) (fun c406 => ?_)
        · skip
          refine jt_iconst d_GM_solve_244 ?_
          refine jt_istore (L' := [(0, .ref m), (1, .int (jI v)), (2, .long (jL f)), (4, .int (jI 0))]) d_GM_solve_245 (Nat.le_of_ble_eq_true rfl) rfl ?_
          exact l247_GM_solvey G d m v I A hI hA v0 D9 hD9 hw hpw z15 V9 hV hI9 hsv f0 sz f ((by omega)) S9 B hS ho ((by have h9 := hQ.1 (by omega); rw [show u = 12 by omega] at h9; exact h9)) 14 0 J B hJ (by omega) (by omega) ⟨by omega, rfl, rfl, fun j a c => by omega, fun _ _ => rfl⟩ (by omega)
        · skip
          exact gm_vret d_GM_solve_243 rfl (⟨rfl, hJ, fun z => absurd z (by omega), fun z => hQ.2 z, ho⟩)
      · skip
        refine jt_aload_n d_GM_solve_82 rfl ?_
        refine gm_gA (k := 30) (a := m + 15) d_GM_solve_83 GM_f102 (by decide) (by decide) rfl ?_
        refine jt_iload d_GM_solve_86 rfl ?_
        refine gm_ld0 (k := 30) (n := 12) (v := (B 30) u) d_GM_solve_88 rfl (by decide) (by decide) rfl rfl (by omega) (by omega) (by omega) rfl ?_
        refine jt_topi (fun v407 ev407 => ?_)
        have bv407 : (-2147483648) ≤ v407 ∧ v407 ≤ 2147483647 := by rw [ev407]; exact hJ.2.1 30 u
        refine jt_iconst d_GM_solve_89 ?_
        refine jt_icmp_eq (t := 96) d_GM_solve_90 rfl (by unfold jRi; omega) (by unfold jRi; omega) (fun c408 => ?_) (fun c408 => ?_)
        · skip
          have z15J : J 15 = 0 := by omega
          obtain ⟨hl9, hi9, hg9⟩ := hQ.1 z15J
          have uv : u ≠ v := by intro z; have h8 := hv30 z15J; rw [← z] at h8; omega
          have su : A 30 u = 1 := by have h8 := ((hg9 u (by omega) (by omega) uv).2 (fun z => by omega)).1; omega
          have hrow : ∀ j, 0 ≤ j → j < 13 → B 31 (u * 13 + j) = V9 u j := fun j a c => by rw [((hg9 u (by omega) (by omega) uv).2 (fun z => by omega)).2 j a c]; exact ((hV u (by omega) (by omega)).2.2 (by omega) j a c).symm
          refine jt_iconst d_GM_solve_96 ?_
          refine jt_istore (L' := [(0, .ref m), (1, .int (jI v)), (2, .long (jL f)), (4, .int (jI u)), (5, .int (jI 0))]) d_GM_solve_97 (Nat.le_of_ble_eq_true rfl) rfl ?_
          refine l99_GM_solvey G d m v I A hI hA v0 D9 hD9 hw hpw z15 V9 hV hI9 hsv f0 sz f ((by omega)) S9 u ((by omega)) (fun io409 Jo409 Bo409 hJo409 i0o409 i1o409 hSo409 hoo409 h30o409 hro409 hrowo409 izo409 => ?_) 14 0 J B hJ (by omega) (by omega) hS ho ⟨z15J, ⟨hl9, hi9, hg9⟩, hv30 z15J⟩ (fun j a c => by omega) hrow (by omega)
          refine jt_aload_n d_GM_solve_136 rfl ?_
          refine gct_call (Y := Y_GM_beginSums) (As := []) (rest := []) d_GM_solve_137 GM_c295 yk_GM_beginSums yv_GM_beginSums rfl (Nat.le_of_ble_eq_true rfl) rfl rfl (Nat.le_of_ble_eq_true rfl) (y_GM_beginSums G _ m  Jo409 Bo409 hJo409.1 hJo409.2.1 ) (fun rvq410 Iq410 Aq410 hq410 => ?_)
          obtain ⟨rfl, hqq410, hxq410⟩ := hq410
          have hpq410 := gPo.trans hJo409 hqq410 rfl rfl
          have f1q410 : Iq410 1 = I 1 := hpq410.2.2.1 1 rfl
          show jt _ 140 [(0, .ref m), (1, .int (jI v)), (2, .long (jL f)), (4, .int (jI u)), (5, .int (jI io409))] [] (gmf m f0 Iq410 Aq410) _ _ _
          have z15o : Jo409 15 = 0 := h30o409.1
          have k35 : Aq410 35 = Bo409 35 := hqq410.2.2.2 35 rfl
          have ew2 : Aq410 35 (397 * 13 + v) = V9 u v := by rw [k35, show (397 : Int) * 13 + v = 5161 + v by omega]; exact hro409 v (by omega) (by omega)
          have ek : ∀ j, 0 ≤ j → j < 13 → Aq410 35 (398 * 13 + j) = S9 j := fun j a c => by rw [k35, show (398 : Int) * 13 + j = 5174 + j by omega]; exact hSo409 j a c
          refine jt_aload_n d_GM_solve_140 rfl ?_
          refine jt_sipush d_GM_solve_141 (by omega) ?_
          refine jt_iload_n d_GM_solve_144 rfl ?_
          refine jt_sipush d_GM_solve_145 (by omega) ?_
          refine gct_call (Y := Y_GM_replaceIn) (As := [.int (jI 397), .int (jI v), .int (jI 398)]) (rest := []) d_GM_solve_148 GM_c298 yk_GM_replaceIn yv_GM_replaceIn rfl (Nat.le_of_ble_eq_true rfl) rfl rfl (Nat.le_of_ble_eq_true rfl) (y_GM_replaceIn G _ m 397 v 398 Iq410 Aq410 hpq410.1 hpq410.2.1 (by omega) (by omega) (by omega) (by omega) (by omega) (by omega) (by omega) (fun j a c => by rw [ew2, ek j a c, (hxq410 j a c).1, (hxq410 j a c).2]; have q1 := rp_bW (hV u (by omega) (by omega)).1 h30o409.2.1.2.1 (show 0 ≤ v by omega) (by omega) a c; omega)) (fun rvq411 Iq411 Aq411 hq411 => ?_)
          obtain ⟨rfl, hqq411, hxq411⟩ := hq411
          have hpq411 := gPo.trans hpq410 hqq411 rfl rfl
          have f1q411 : Iq411 1 = I 1 := hpq411.2.2.1 1 rfl
          show jt _ 151 [(0, .ref m), (1, .int (jI v)), (2, .long (jL f)), (4, .int (jI u)), (5, .int (jI io409))] [] (gmf m f0 Iq411 Aq411) _ _ _
          have r35 : ∀ j, 0 ≤ j → j < 13 → Aq411 35 (397 * 13 + j) = if j = v then 0 else V9 u j := fun j a c => by rw [hxq411.1]; rcases Classical.em (j = v) with e9 | e9; exact (by rw [e9, if_pos rfl]; exact ju_self _ _ _); exact (by rw [if_neg e9, ju_ne _ _ (by omega), k35, show (397 : Int) * 13 + j = 5161 + j by omega]; exact hro409 j a (by omega))
          have r33 : ∀ j, 0 ≤ j → j < 13 → Aq411 33 j = V9 u v / 65536 * S9 j := fun j a c => by rw [(hxq411.2 j a c).1, ew2, ek j a c, (hxq410 j a c).1]; omega
          have r34 : ∀ j, 0 ≤ j → j < 13 → Aq411 34 j = V9 u v % 65536 * S9 j := fun j a c => by rw [(hxq411.2 j a c).2, ew2, ek j a c, (hxq410 j a c).2]; omega
          refine jt_aload_n d_GM_solve_151 rfl ?_
          refine jt_sipush d_GM_solve_152 (by omega) ?_
          refine gct_call (Y := Y_GM_addSums) (As := [.int (jI 397)]) (rest := []) d_GM_solve_155 GM_c301 yk_GM_addSums yv_GM_addSums rfl (Nat.le_of_ble_eq_true rfl) rfl rfl (Nat.le_of_ble_eq_true rfl) (y_GM_addSums G _ m 397 Iq411 Aq411 hpq411.1 hpq411.2.1 (by omega) (by omega) (fun j a c => by rw [r35 j a c, r33 j a c]; have q1 := rp_bW (hV u (by omega) (by omega)).1 h30o409.2.1.2.1 (show 0 ≤ v by omega) (by omega) a c; have q3 := (hV u (by omega) (by omega)).1 j a c; split <;> omega)) (fun rvq412 Iq412 Aq412 hq412 => ?_)
          obtain ⟨rfl, hqq412, hxq412⟩ := hq412
          have hpq412 := gPo.trans hpq411 hqq412 rfl rfl
          have f1q412 : Iq412 1 = I 1 := hpq412.2.2.1 1 rfl
          show jt _ 158 [(0, .ref m), (1, .int (jI v)), (2, .long (jL f)), (4, .int (jI u)), (5, .int (jI io409))] [] (gmf m f0 Iq412 Aq412) _ _ _
          have hre : Hd _ := rp_end r35 r33 r34 (show Iq411 15 = 0 by rw [hqq411.2.2.1 15 rfl, hqq410.2.2.1 15 rfl]; exact z15o) hxq412.2.1 hxq412.2.2
          have s35 : ∀ z, ¬ (5161 ≤ z ∧ z < 5174) → Aq412 35 z = Bo409 35 z := fun z hz => by rw [hxq412.1 z (by omega), hxq411.1, ju_ne _ _ (by omega), k35]
          have s30 : Aq412 30 = Bo409 30 := by rw [hqq412.2.2.2 30 rfl, hqq411.2.2.2 30 rfl, hqq410.2.2.2 30 rfl]
          have s31 : Aq412 31 = Bo409 31 := by rw [hqq412.2.2.2 31 rfl, hqq411.2.2.2 31 rfl, hqq410.2.2.2 31 rfl]
          have sS : ∀ j, 0 ≤ j → j < 13 → Aq412 35 (5174 + j) = S9 j := fun j a c => by rw [s35 _ (by omega)]; exact hSo409 j a c
          have sO : ∀ z, z < 5161 → Aq412 35 z = A 35 z := fun z hz => by rw [s35 _ (by omega)]; exact hoo409 z hz
          have hQo : svQ D9 (A 30) V9 v S9 u A Jo409 Bo409 := ⟨fun _ => h30o409.2.1, fun z => absurd z15o z⟩
          clear hxq412 hxq411 hxq410 r35 r33 r34 ew2 ek
          refine jt_aload_n d_GM_solve_158 rfl ?_
          refine gm_gI (k := 15) (v := Iq412 15) d_GM_solve_159 GM_f55 (by decide) rfl ?_
          have rb413 : 0 ≤ Iq412 15 ∧ Iq412 15 ≤ 1 := hpq412.1 15
          refine jt_if_ne (t := 205) d_GM_solve_162 rfl (by unfold jRi; omega) (fun c414 => ?_) (fun c414 => ?_)
          · skip
            refine jt_aload_n d_GM_solve_205 rfl ?_
            refine gm_gI (k := 15) (v := Iq412 15) d_GM_solve_206 GM_f55 (by decide) rfl ?_
            refine jt_if_ne (t := 230) d_GM_solve_209 rfl (by unfold jRi; omega) (fun c415 => ?_) (fun c415 => ?_)
            · skip
              refine jt_iinc (L' := [(0, .ref m), (1, .int (jI v)), (2, .long (jL f)), (4, .int (jI (u + 1))), (5, .int (jI io409))]) d_GM_solve_230 rfl (Nat.le_of_ble_eq_true rfl) rfl ?_
              refine jt_goto (t := 68) d_GM_solve_233 rfl ?_
              refine jt_sub (L' := [(0, .ref m), (1, .int (jI v)), (2, .long (jL f)), (4, .int (jI (u + 1)))]) (fun _ h => List.mem_append_left [(5, Value.int (jI io409))] h) ?_
              exact ih (u + 1) Iq412 Aq412 hpq412 (by omega) sS sO (fun z => absurd z (by omega)) (svQ_go hQo z15o su uv hdv hre.1 (fun z => absurd z (by omega)) (fun z => absurd z (by omega)) (by omega) (by omega)) (by omega)
            · skip
              refine jt_aload_n d_GM_solve_212 rfl ?_
              refine jt_sipush d_GM_solve_213 (by omega) ?_
              refine gct_call (Y := Y_GM_isNumber) (As := [.int (jI 397)]) (rest := []) d_GM_solve_216 GM_c260 yk_GM_isNumber yv_GM_isNumber rfl (Nat.le_of_ble_eq_true rfl) rfl rfl (Nat.le_of_ble_eq_true rfl) (c_GM_isNumber G _ m 397 Iq412 Aq412 (by omega) (by omega) (fun j _ _ => hpq412.2.1 35 _)) (fun rvq416 Iq416 Aq416 hq416 => ?_)
              obtain ⟨haq416, hbq416, hIq416, hAq416⟩ := hq416
              rw [hIq416, hAq416]
              by_cases gq416 : Hd (∀ j, 0 ≤ j → j < 12 → Aq412 35 (397 * 13 + j) = 0)
              · skip
                obtain rfl := haq416 gq416
                clear haq416 hbq416 hIq416 hAq416
                show jt _ 219 [(0, .ref m), (1, .int (jI v)), (2, .long (jL f)), (4, .int (jI u)), (5, .int (jI io409))] [.int (jI 1)] (gmf m f0 Iq412 Aq412) _ _ _
                refine jt_if_eq (t := 230) d_GM_solve_219 rfl (by unfold jRi; omega) (fun c417 => ?_) (fun c417 => ?_)
                · skip
                  exfalso
                  omega
                · skip
                  refine jt_aload_n d_GM_solve_222 rfl ?_
                  refine gm_gA (k := 30) (a := m + 15) d_GM_solve_223 GM_f102 (by decide) (by decide) rfl ?_
                  refine jt_iload d_GM_solve_226 rfl ?_
                  refine jt_iconst d_GM_solve_228 ?_
                  refine gm_st0 (k := 30) (n := 12) (B := va_up Aq412 30 (ju (Aq412 30) u 2)) d_GM_solve_229 rfl (by decide) (by decide) rfl rfl (by omega) (by omega) (by omega) rfl ?_
                  have p418 := gPo.A 30 (ju (Aq412 30) u 2) hpq412 rfl (gju (hpq412.2.1 30) (show -2147483648 ≤ 2 ∧ 2 ≤ 2147483647 by omega))
                  refine jt_iinc (L' := [(0, .ref m), (1, .int (jI v)), (2, .long (jL f)), (4, .int (jI (u + 1))), (5, .int (jI io409))]) d_GM_solve_230 rfl (Nat.le_of_ble_eq_true rfl) rfl ?_
                  refine jt_goto (t := 68) d_GM_solve_233 rfl ?_
                  refine jt_sub (L' := [(0, .ref m), (1, .int (jI v)), (2, .long (jL f)), (4, .int (jI (u + 1)))]) (fun _ h => List.mem_append_left [(5, Value.int (jI io409))] h) ?_
                  exact ih (u + 1) Iq412 (va_up Aq412 30 (ju (Aq412 30) u 2)) p418 (by omega) sS sO (fun z => absurd z (by omega)) (svQ_go hQo z15o su uv hdv hre.1 (fun z => absurd z (by omega)) (fun z => absurd z (by omega)) (by omega) (by omega)) (by omega)
              · skip
                obtain rfl := hbq416 gq416
                clear haq416 hbq416 hIq416 hAq416
                show jt _ 219 [(0, .ref m), (1, .int (jI v)), (2, .long (jL f)), (4, .int (jI u)), (5, .int (jI io409))] [.int (jI 0)] (gmf m f0 Iq412 Aq412) _ _ _
                refine jt_if_eq (t := 230) d_GM_solve_219 rfl (by unfold jRi; omega) (fun c419 => ?_) (fun c419 => ?_)
                · skip
                  refine jt_iinc (L' := [(0, .ref m), (1, .int (jI v)), (2, .long (jL f)), (4, .int (jI (u + 1))), (5, .int (jI io409))]) d_GM_solve_230 rfl (Nat.le_of_ble_eq_true rfl) rfl ?_
                  refine jt_goto (t := 68) d_GM_solve_233 rfl ?_
                  refine jt_sub (L' := [(0, .ref m), (1, .int (jI v)), (2, .long (jL f)), (4, .int (jI (u + 1)))]) (fun _ h => List.mem_append_left [(5, Value.int (jI io409))] h) ?_
                  exact ih (u + 1) Iq412 Aq412 hpq412 (by omega) sS sO (fun z => absurd z (by omega)) (svQ_go hQo z15o su uv hdv hre.1 (fun z => absurd z (by omega)) (fun z => absurd z (by omega)) (by omega) (by omega)) (by omega)
                · skip
                  exfalso
                  omega
          · skip
            refine jt_iconst d_GM_solve_165 ?_
            refine jt_istore (L' := [(0, .ref m), (1, .int (jI v)), (2, .long (jL f)), (4, .int (jI u)), (5, .int (jI 0))]) d_GM_solve_166 (Nat.le_of_ble_eq_true rfl) rfl ?_
            refine l168_GM_solvey G d m v I A hI hA v0 D9 hD9 hw hpw z15 V9 hV hI9 hsv f0 sz f ((by omega)) S9 u ((by omega)) Aq412 (fun io420 Jo420 Bo420 hJo420 i0o420 i1o420 hcbo420 izo420 => ?_) 14 0 Iq412 Aq412 hpq412 (by omega) (by omega) ⟨by omega, rfl, rfl, fun j a c => by omega, fun _ _ => rfl⟩ (by omega)
            have z15d : Jo420 15 = 0 := hcbo420.1
            have hkk := hre.1.mp (by omega)
            have hvv := hre.2 hkk
            refine jt_aload_n d_GM_solve_205 rfl ?_
            refine gm_gI (k := 15) (v := Jo420 15) d_GM_solve_206 GM_f55 (by decide) rfl ?_
            have rb421 : 0 ≤ Jo420 15 ∧ Jo420 15 ≤ 1 := hJo420.1 15
            refine jt_if_ne (t := 230) d_GM_solve_209 rfl (by unfold jRi; omega) (fun c422 => ?_) (fun c422 => ?_)
            · skip
              refine jt_iinc (L' := [(0, .ref m), (1, .int (jI v)), (2, .long (jL f)), (4, .int (jI (u + 1))), (5, .int (jI io420))]) d_GM_solve_230 rfl (Nat.le_of_ble_eq_true rfl) rfl ?_
              refine jt_goto (t := 68) d_GM_solve_233 rfl ?_
              refine jt_sub (L' := [(0, .ref m), (1, .int (jI v)), (2, .long (jL f)), (4, .int (jI (u + 1)))]) (fun _ h => List.mem_append_left [(5, Value.int (jI io420))] h) ?_
              exact ih (u + 1) Jo420 Bo420 hJo420 (by omega) (by exfalso; omega) (by exfalso; omega) (by exfalso; omega) (by exfalso; omega) (by omega)
            · skip
              refine jt_aload_n d_GM_solve_212 rfl ?_
              refine jt_sipush d_GM_solve_213 (by omega) ?_
              refine gct_call (Y := Y_GM_isNumber) (As := [.int (jI 397)]) (rest := []) d_GM_solve_216 GM_c260 yk_GM_isNumber yv_GM_isNumber rfl (Nat.le_of_ble_eq_true rfl) rfl rfl (Nat.le_of_ble_eq_true rfl) (c_GM_isNumber G _ m 397 Jo420 Bo420 (by omega) (by omega) (fun j _ _ => hJo420.2.1 35 _)) (fun rvq423 Iq423 Aq423 hq423 => ?_)
              obtain ⟨haq423, hbq423, hIq423, hAq423⟩ := hq423
              rw [hIq423, hAq423]
              by_cases gq423 : Hd (∀ j, 0 ≤ j → j < 12 → Bo420 35 (397 * 13 + j) = 0)
              · skip
                obtain rfl := haq423 gq423
                clear haq423 hbq423 hIq423 hAq423
                show jt _ 219 [(0, .ref m), (1, .int (jI v)), (2, .long (jL f)), (4, .int (jI u)), (5, .int (jI io420))] [.int (jI 1)] (gmf m f0 Jo420 Bo420) _ _ _
                refine jt_if_eq (t := 230) d_GM_solve_219 rfl (by unfold jRi; omega) (fun c424 => ?_) (fun c424 => ?_)
                · skip
                  exfalso
                  omega
                · skip
                  refine jt_aload_n d_GM_solve_222 rfl ?_
                  refine gm_gA (k := 30) (a := m + 15) d_GM_solve_223 GM_f102 (by decide) (by decide) rfl ?_
                  refine jt_iload d_GM_solve_226 rfl ?_
                  refine jt_iconst d_GM_solve_228 ?_
                  refine gm_st0 (k := 30) (n := 12) (B := va_up Bo420 30 (ju (Bo420 30) u 2)) d_GM_solve_229 rfl (by decide) (by decide) rfl rfl (by omega) (by omega) (by omega) rfl ?_
                  have p425 := gPo.A 30 (ju (Bo420 30) u 2) hJo420 rfl (gju (hJo420.2.1 30) (show -2147483648 ≤ 2 ∧ 2 ≤ 2147483647 by omega))
                  refine jt_iinc (L' := [(0, .ref m), (1, .int (jI v)), (2, .long (jL f)), (4, .int (jI (u + 1))), (5, .int (jI io420))]) d_GM_solve_230 rfl (Nat.le_of_ble_eq_true rfl) rfl ?_
                  refine jt_goto (t := 68) d_GM_solve_233 rfl ?_
                  refine jt_sub (L' := [(0, .ref m), (1, .int (jI v)), (2, .long (jL f)), (4, .int (jI (u + 1)))]) (fun _ h => List.mem_append_left [(5, Value.int (jI io420))] h) ?_
                  exact ih (u + 1) Jo420 (va_up Bo420 30 (ju (Bo420 30) u 2)) p425 (by omega) (fun j a c => by show Bo420 35 (5174 + j) = S9 j; rw [hcbo420.2.2.1]; exact sS j a c) (fun z hz => by show Bo420 35 z = A 35 z; rw [hcbo420.2.2.1]; exact sO z hz) (fun _ => (ju_ne _ _ (fun z => uv z.symm)).trans (by rw [hcbo420.2.1, s30]; exact h30o409.2.2)) (svQ_go hQo z15o su uv hdv ⟨fun _ => hkk, fun _ => z15d⟩ (fun _ => ⟨fun j a c => by show Bo420 31 (u * 13 + j) = _; rw [hcbo420.2.2.2.1 j a (by omega)]; exact hvv j a c, ⟨fun _ => ju_self _ _ _, fun z => absurd (show fZ (fun i => Bo420 31 (u * 13 + i)) from fun j a c => by show Bo420 31 (u * 13 + j) = 0; rw [hcbo420.2.2.2.1 j a (by omega)]; have h9 := gq423 j a c; rw [hcbo420.2.2.1] at h9; exact h9) z⟩⟩) (fun _ w9 w0 w1 wn => ⟨(ju_ne _ _ wn).trans (by rw [hcbo420.2.1, s30]), fun j a c => by show Bo420 31 (w9 * 13 + j) = _; rw [hcbo420.2.2.2.2 _ (by omega), s31]⟩) (by omega) (by omega)) (by omega)
              · skip
                obtain rfl := hbq423 gq423
                clear haq423 hbq423 hIq423 hAq423
                show jt _ 219 [(0, .ref m), (1, .int (jI v)), (2, .long (jL f)), (4, .int (jI u)), (5, .int (jI io420))] [.int (jI 0)] (gmf m f0 Jo420 Bo420) _ _ _
                refine jt_if_eq (t := 230) d_GM_solve_219 rfl (by unfold jRi; omega) (fun c426 => ?_) (fun c426 => ?_)
                · skip
                  refine jt_iinc (L' := [(0, .ref m), (1, .int (jI v)), (2, .long (jL f)), (4, .int (jI (u + 1))), (5, .int (jI io420))]) d_GM_solve_230 rfl (Nat.le_of_ble_eq_true rfl) rfl ?_
                  refine jt_goto (t := 68) d_GM_solve_233 rfl ?_
                  refine jt_sub (L' := [(0, .ref m), (1, .int (jI v)), (2, .long (jL f)), (4, .int (jI (u + 1)))]) (fun _ h => List.mem_append_left [(5, Value.int (jI io420))] h) ?_
                  exact ih (u + 1) Jo420 Bo420 hJo420 (by omega) (fun j a c => by show Bo420 35 (5174 + j) = S9 j; rw [hcbo420.2.2.1]; exact sS j a c) (fun z hz => by show Bo420 35 z = A 35 z; rw [hcbo420.2.2.1]; exact sO z hz) (fun _ => by rw [hcbo420.2.1, s30]; exact h30o409.2.2) (svQ_go hQo z15o su uv hdv ⟨fun _ => hkk, fun _ => z15d⟩ (fun _ => ⟨fun j a c => by show Bo420 31 (u * 13 + j) = _; rw [hcbo420.2.2.2.1 j a (by omega)]; exact hvv j a c, ⟨fun z => absurd (show Hd (∀ j, 0 ≤ j → j < 12 → Bo420 35 (397 * 13 + j) = 0) from fun j a c => by rw [hcbo420.2.2.1]; have h9 : Bo420 31 (u * 13 + j) = 0 := z j a c; rw [hcbo420.2.2.2.1 j a (by omega)] at h9; exact h9) gq423, fun _ => by show Bo420 30 u = 1; rw [hcbo420.2.1, s30, ((h30o409.2.1.2.2 u (by omega) (by omega) uv).2 (fun z => by omega)).1]; exact su⟩⟩) (fun _ w9 w0 w1 wn => ⟨by show Bo420 30 _ = _; rw [hcbo420.2.1, s30], fun j a c => by show Bo420 31 (w9 * 13 + j) = _; rw [hcbo420.2.2.2.2 _ (by omega), s31]⟩) (by omega) (by omega)) (by omega)
                · skip
                  exfalso
                  omega
        · skip
          refine jt_goto (t := 230) d_GM_solve_93 rfl ?_
          refine jt_iinc (L' := [(0, .ref m), (1, .int (jI v)), (2, .long (jL f)), (4, .int (jI (u + 1)))]) d_GM_solve_230 rfl (Nat.le_of_ble_eq_true rfl) rfl ?_
          refine jt_goto (t := 68) d_GM_solve_233 rfl ?_
          exact ih (u + 1) J B hJ (by omega) hS ho hv30 (svQ_sk hQ (by omega) (by omega) (by omega) (by omega)) (by omega)
set_option maxRecDepth 100000 in
set_option maxHeartbeats 1000000 in
theorem l14_GM_solvey (G : jG) (d m : Nat) (v : Int) (I : Nat → Int) (A : Nat → Int → Int) (hI : gSI I) (hA : gSA A) (v0 : 0 ≤ v ∧ v < 12) (D9 : Int → Int) (hD9 : ∀ i, 0 ≤ i → i < 13 → A 35 (399 * 13 + i) = D9 i) (hw : wid D9) (hpw : pw (D9 v)) (z15 : I 15 = 0) (V9 : Int → Int → Int) (hV : gVr V9 A) (hI9 : VI (A 30) V9) (hsv : A 30 v = 0) (f0 : jF) (sz : Nat) (f : Int) (hfd : f = D9 v) : ∀ (n9 : Nat) (i : Int) (J : Nat → Int) (B : Nat → Int → Int), gPo [15] [30, 31, 33, 34, 35] I A J B → (0 ≤ i) → (i ≤ 13) → (svA D9 v i J B) → (∀ j, 0 ≤ j → j < 13 → B 35 (5187 + j) = D9 j) → (∀ z, z < 5161 → B 35 z = A 35 z) → (B 30 = A 30) → (B 31 = A 31) → 13 - i < (n9 : Int) → jt (jm G Y_GM_solve (gR (d + 3)) (gQ m f0 sz (fun (rv : Option Value) (I2 : Nat → Int) (A2 : Nat → Int → Int) => rv = none ∧ gPo [15] [30, 31, 33, 34, 35] I A I2 A2 ∧ svE D9 V9 v I A I2 A2))) 14 [(0, .ref m), (1, .int (jI v)), (2, .long (jL f)), (4, .int (jI i))] [] (gmf m f0 J B) sz 0 0 := by
  have wv := hw v (by omega) (by omega)
  have hdv := pw_nz hpw
  intro n9
  induction n9 with
  | zero =>
    intro i J B hJ i0 i1 hA9 hD ho hJ30 hJ31 hmeas
    have q15 : 0 ≤ J 15 ∧ J 15 ≤ 1 := hJ.1 15
    exfalso
    omega
  | succ n9 ih =>
    intro i J B hJ i0 i1 hA9 hD ho hJ30 hJ31 hmeas
    have q15 : 0 ≤ J 15 ∧ J 15 ≤ 1 := hJ.1 15
    refine jt_iload d_GM_solve_14 rfl ?_
    refine jt_bipush d_GM_solve_16 (by omega) ?_
    refine jt_icmp_ge (t := 65) d_GM_solve_18 rfl (by unfold jRi; omega) (by unfold jRi; omega) (fun c501 => ?_) (fun c501 => ?_)
    · skip
      refine jt_iconst d_GM_solve_65 ?_
      refine jt_istore (L' := [(0, .ref m), (1, .int (jI v)), (2, .long (jL f)), (4, .int (jI 0))]) d_GM_solve_66 (Nat.le_of_ble_eq_true rfl) rfl ?_
      exact l68_GM_solvey G d m v I A hI hA v0 D9 hD9 hw hpw z15 V9 hV hI9 hsv f0 sz f ((by omega)) ((fun j => B 35 (5174 + j))) 13 0 J B hJ (by omega) (fun _ _ _ => rfl) ho (fun _ => by rw [hJ30]; exact hsv) (svQ_0 (by rw [show i = 13 by omega] at hA9; exact hA9) (by omega) (by omega) (fun _ _ _ => rfl) (fun u _ _ => by rw [hJ30]) hJ31) (by omega)
    · skip
      refine jt_aload_n d_GM_solve_21 rfl ?_
      refine gm_gA (k := 35) (a := m + 20) d_GM_solve_22 GM_f118 (by decide) (by decide) rfl ?_
      refine jt_sipush d_GM_solve_25 (by omega) ?_
      refine jt_iload d_GM_solve_28 rfl ?_
      refine jt_iadd d_GM_solve_30 ?_
      refine jt_iload d_GM_solve_31 rfl ?_
      refine jt_iload_n d_GM_solve_33 rfl ?_
      refine jt_icmp_ne (t := 41) d_GM_solve_34 rfl (by unfold jRi; omega) (by unfold jRi; omega) (fun c502 => ?_) (fun c502 => ?_)
      · skip
        refine jt_aload_n d_GM_solve_41 rfl ?_
        refine jt_aload_n d_GM_solve_42 rfl ?_
        refine gm_gA (k := 35) (a := m + 20) d_GM_solve_43 GM_f118 (by decide) (by decide) rfl ?_
        refine jt_sipush d_GM_solve_46 (by omega) ?_
        refine jt_iload d_GM_solve_49 rfl ?_
        refine jt_iadd d_GM_solve_51 ?_
        refine gm_ld1 (k := 35) (n := 5200) (v := (B 35) (5187 + i)) d_GM_solve_52 rfl (by decide) (by decide) rfl rfl (by omega) (by omega) (by omega) rfl ?_
        refine jt_topl (fun v503 ev503 => ?_)
        have bv503 : (-9223372036854775808) ≤ v503 ∧ v503 ≤ 9223372036854775807 := by rw [ev503]; exact hJ.2.1 35 (5187 + i)
        have ed : v503 = D9 i := by rw [ev503, hD i (by omega) (by omega)]
        have wi := hw i (by omega) (by omega)
        refine jt_lneg d_GM_solve_53 ?_
        refine jt_topln (fun v504 bv504 ev504 => ?_)
        refine jt_lload_n d_GM_solve_54 rfl ?_
        refine gct_call (Y := Y_GM_over) (As := [.long (jL v504), .long (jL f)]) (rest := [.int (jI (5174 + i)), .ref (m + 20)]) d_GM_solve_55 GM_c304 yk_GM_over yv_GM_over rfl (Nat.le_of_ble_eq_true rfl) rfl rfl (Nat.le_of_ble_eq_true rfl) (y_GM_over G _ m v504 f J B hJ.1 hJ.2.1 (by omega) (by rw [hfd]; exact hpw)) (fun rvq505 Iq505 Aq505 hq505 => ?_)
        obtain ⟨yq505, rfl, ryq505, hqq505, hxq505⟩ := hq505
        have hpq505 := gPo.trans hJ hqq505 rfl rfl
        have f1q505 : Iq505 1 = I 1 := hpq505.2.2.1 1 rfl
        replace hxq505 : Hd _ := hxq505
        show jt _ 58 [(0, .ref m), (1, .int (jI v)), (2, .long (jL f)), (4, .int (jI i))] [.long (jL yq505), .int (jI (5174 + i)), .ref (m + 20)] (gmf m f0 Iq505 Aq505) _ _ _
        refine gm_st1 (k := 35) (n := 5200) (B := va_up Aq505 35 (ju (Aq505 35) (5174 + i) yq505)) d_GM_solve_58 rfl (by decide) (by decide) rfl rfl (by omega) (by omega) (by omega) rfl ?_
        have p506 := gPo.A 35 (ju (Aq505 35) (5174 + i) yq505) hpq505 rfl (gju (hpq505.2.1 35) (show -9223372036854775808 ≤ yq505 ∧ yq505 ≤ 9223372036854775807 by omega))
        refine jt_iinc (L' := [(0, .ref m), (1, .int (jI v)), (2, .long (jL f)), (4, .int (jI (i + 1)))]) d_GM_solve_59 rfl (Nat.le_of_ble_eq_true rfl) rfl ?_
        refine jt_goto (t := 14) d_GM_solve_62 rfl ?_
        exact ih (i + 1) Iq505 (va_up Aq505 35 (ju (Aq505 35) (5174 + i) yq505)) p506 (by omega) (by omega) (svA_s (x := v504) hA9 (by omega) (by omega) (by omega) (by have h9 := hxq505.1; rw [hfd] at h9; exact h9) (by have h9 := hxq505.2; rw [hfd] at h9; exact h9) (by show ju (Aq505 35) (5174 + i) yq505 = _; rw [hqq505.2.2.2 35 rfl])) (fun j a c => by show ju (Aq505 35) (5174 + i) _ _ = _; rw [hqq505.2.2.2 35 rfl]; exact (ju_ne _ _ (by omega)).trans (hD j a c)) (fun z hz => by show ju (Aq505 35) (5174 + i) _ _ = _; rw [hqq505.2.2.2 35 rfl]; exact (ju_ne _ _ (by omega)).trans (ho z hz)) ((hqq505.2.2.2 30 rfl).trans hJ30) ((hqq505.2.2.2 31 rfl).trans hJ31) (by omega)
      · skip
        refine jt_lconst (z := 0) d_GM_solve_37 (by decide) ?_
        refine jt_goto (t := 58) d_GM_solve_38 rfl ?_
        refine gm_st1 (k := 35) (n := 5200) (B := va_up B 35 (ju (B 35) (5174 + i) 0)) d_GM_solve_58 rfl (by decide) (by decide) rfl rfl (by omega) (by omega) (by omega) rfl ?_
        have p507 := gPo.A 35 (ju (B 35) (5174 + i) 0) hJ rfl (gju (hJ.2.1 35) (show -9223372036854775808 ≤ 0 ∧ 0 ≤ 9223372036854775807 by omega))
        refine jt_iinc (L' := [(0, .ref m), (1, .int (jI v)), (2, .long (jL f)), (4, .int (jI (i + 1)))]) d_GM_solve_59 rfl (Nat.le_of_ble_eq_true rfl) rfl ?_
        refine jt_goto (t := 14) d_GM_solve_62 rfl ?_
        exact ih (i + 1) J (va_up B 35 (ju (B 35) (5174 + i) 0)) p507 (by omega) (by omega) (svA_v hA9 (by omega) (by omega) rfl rfl) (fun j a c => (ju_ne _ _ (by omega)).trans (hD j a c)) (fun z hz => (ju_ne _ _ (by omega)).trans (ho z hz)) hJ30 hJ31 (by omega)
set_option maxRecDepth 100000 in
set_option maxHeartbeats 1000000 in
theorem y_GM_solve (G : jG) (d m : Nat) (v : Int) (I : Nat → Int) (A : Nat → Int → Int) (hI : gSI I) (hA : gSA A) (v0 : 0 ≤ v ∧ v < 12) (D9 : Int → Int) (hD9 : ∀ i, 0 ≤ i → i < 13 → A 35 (399 * 13 + i) = D9 i) (hw : wid D9) (hpw : pw (D9 v)) (z15 : I 15 = 0) (V9 : Int → Int → Int) (hV : gVr V9 A) (hI9 : VI (A 30) V9) (hsv : A 30 v = 0) : gct G Y_GM_solve (d + 3) m [.int (jI v)] I A (fun (rv : Option Value) (I2 : Nat → Int) (A2 : Nat → Int → Int) => rv = none ∧ gPo [15] [30, 31, 33, 34, 35] I A I2 A2 ∧ svE D9 V9 v I A I2 A2) := by
  refine gct_of (by decide) (Nat.le_of_ble_eq_true rfl) (fun f0 sz => ?_)
  show jt _ 0 [(0, .ref m), (1, .int (jI v))] [] _ _ _ _
  have wv := hw v (by omega) (by omega)
  have hdv := pw_nz hpw
  have hz0 : gPo [15] [30, 31, 33, 34, 35] I A I A := gPo.refl hI hA
  refine jt_aload_n d_GM_solve_0 rfl ?_
  refine gm_gA (k := 35) (a := m + 20) d_GM_solve_1 GM_f118 (by decide) (by decide) rfl ?_
  refine jt_sipush d_GM_solve_4 (by omega) ?_
  refine jt_iload_n d_GM_solve_7 rfl ?_
  refine jt_iadd d_GM_solve_8 ?_
  refine gm_ld1 (k := 35) (n := 5200) (v := (A 35) (5187 + v)) d_GM_solve_9 rfl (by decide) (by decide) rfl rfl (by omega) (by omega) (by omega) rfl ?_
  refine jt_topl (fun v1 ev1 => ?_)
  have bv1 : (-9223372036854775808) ≤ v1 ∧ v1 ≤ 9223372036854775807 := by rw [ev1]; exact hz0.2.1 35 (5187 + v)
  have ef : v1 = D9 v := by rw [ev1, show (5187 : Int) + v = 399 * 13 + v by omega]; exact hD9 v (by omega) (by omega)
  refine jt_lstore_n (L' := [(0, .ref m), (1, .int (jI v)), (2, .long (jL v1))]) d_GM_solve_10 (Nat.le_of_ble_eq_true rfl) rfl ?_
  refine jt_iconst d_GM_solve_11 ?_
  refine jt_istore (L' := [(0, .ref m), (1, .int (jI v)), (2, .long (jL v1)), (4, .int (jI 0))]) d_GM_solve_12 (Nat.le_of_ble_eq_true rfl) rfl ?_
  exact l14_GM_solvey G d m v I A hI hA v0 D9 hD9 hw hpw z15 V9 hV hI9 hsv f0 sz v1 ((by omega)) 14 0 I A hz0 (by omega) (by omega) (svA_0 z15) (fun j a c => by rw [show (5187 : Int) + j = 399 * 13 + j by omega]; exact hD9 j a c) (fun _ _ => rfl) rfl rfl (by omega)

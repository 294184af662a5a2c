theorem w_GM_syntax (G : jG) (d m : Nat) (I : Nat → Int) (A : Nat → Int → Int) (hI : gSI I) (hA : gSA A) : gct G Y_GM_syntax (d + 1) m [] I A (fun rv I2 A2 => rv = none ∧ gPo [5, 6] [] I A I2 A2 ∧ I2 5 ≠ 0) := by
  have b : (-13 : Int) ≤ I 5 ∧ I 5 ≤ 0 := hI 5
  have b4 : (0 : Int) ≤ I 4 ∧ I 4 ≤ 300 := hI 4
  refine gct_mono (c_GM_syntax G d m I A (by unfold jRi; omega)) (fun rv J B h => Or.inl ?_)
  obtain ⟨h1, rfl, rfl⟩ := h
  refine ⟨h1, ?_⟩
  unfold gsy
  by_cases hc : I 5 = 0
  · rw [if_pos hc]
    exact ⟨gPo.I 6 _ (gPo.I 5 _ (gPo.refl hI hA) rfl (show (-13 : Int) ≤ -8 ∧ (-8 : Int) ≤ 0 by omega)) rfl (show (-2147483648 : Int) ≤ I 4 ∧ I 4 ≤ 2147483647 by omega), by show (-8 : Int) ≠ 0; omega⟩
  · rw [if_neg hc]
    exact ⟨gPo.refl hI hA, hc⟩
theorem w_GM_need (G : jG) (d m : Nat) (w : Int) (I : Nat → Int) (A : Nat → Int → Int) (hT : gT I A) (hI : gSI I) (hA : gSA A) (hw : jRi w) : gct G Y_GM_need (d + 2) m [.int (jI w)] I A (fun rv I2 A2 => rv = none ∧ gPo [4, 5, 6] [] I A I2 A2 ∧ (I2 5 = 0 → I 5 = 0 ∧ I2 4 = I 4 + 1)) := by
  have b : (-13 : Int) ≤ I 5 ∧ I 5 ≤ 0 := hI 5
  have b4 : (0 : Int) ≤ I 4 ∧ I 4 ≤ 300 := hI 4
  have t1 := hT.2.1
  refine gct_mono (c_GM_need G d m w I A (gP_of hI hT) hw (by unfold jRi; omega)) (fun rv J B h => Or.inl ?_)
  obtain ⟨h1, rfl, rfl⟩ := h
  refine ⟨h1, ?_⟩
  unfold gnd
  by_cases hc : I 5 = 0
  · rw [if_pos hc]
    by_cases hg : gW I B (I 4) w
    · rw [if_pos hg]
      exact ⟨gPo.I 4 _ (gPo.refl hI hA) rfl (show (0 : Int) ≤ I 4 + 1 ∧ I 4 + 1 ≤ 300 by omega), fun _ => ⟨hc, rfl⟩⟩
    · rw [if_neg hg]
      unfold gsy
      rw [if_pos hc]
      exact ⟨gPo.I 6 _ (gPo.I 5 _ (gPo.refl hI hA) rfl (show (-13 : Int) ≤ -8 ∧ (-8 : Int) ≤ 0 by omega)) rfl (show (-2147483648 : Int) ≤ I 4 ∧ I 4 ≤ 2147483647 by omega), fun (z : (-8 : Int) = 0) => by omega⟩
  · rw [if_neg hc]
    exact ⟨gPo.refl hI hA, fun z => absurd z hc⟩
theorem w_GM_openBracket (G : jG) (d m : Nat) (I : Nat → Int) (A : Nat → Int → Int) (hT : gT I A) (hI : gSI I) (hA : gSA A) : gct G Y_GM_openBracket (d + 2) m [] I A (fun rv I2 A2 => rv = none ∧ gPo [4, 5, 6, 14] [] I A I2 A2 ∧ (I2 5 = 0 → I 5 = 0 ∧ I2 4 = I 4 + 1 ∧ I2 14 = I 14 + 1)) := by
  have b : (-13 : Int) ≤ I 5 ∧ I 5 ≤ 0 := hI 5
  have b4 : (0 : Int) ≤ I 4 ∧ I 4 ≤ 300 := hI 4
  have b14 : (0 : Int) ≤ I 14 ∧ I 14 ≤ 8 := hI 14
  have t1 := hT.2.1
  refine gct_mono (c_GM_openBracket G d m I A (gP_of hI hT) (by unfold jRi; omega) (by unfold jRi; omega)) (fun rv J B h => Or.inl ?_)
  obtain ⟨h1, rfl, rfl⟩ := h
  refine ⟨h1, ?_⟩
  unfold gob
  by_cases hc : I 5 = 0
  · rw [if_pos hc]
    by_cases hg : gW I B (I 4) 3
    · rw [if_pos hg]
      by_cases h8 : I 14 = 8
      · rw [if_pos h8]
        exact ⟨gPo.I 6 _ (gPo.I 5 _ (gPo.refl hI hA) rfl (show (-13 : Int) ≤ -5 ∧ (-5 : Int) ≤ 0 by omega)) rfl (show (-2147483648 : Int) ≤ I 4 ∧ I 4 ≤ 2147483647 by omega), fun (z : (-5 : Int) = 0) => by omega⟩
      · rw [if_neg h8]
        exact ⟨gPo.I 4 _ (gPo.I 14 _ (gPo.refl hI hA) rfl (show (0 : Int) ≤ I 14 + 1 ∧ I 14 + 1 ≤ 8 by omega)) rfl (show (0 : Int) ≤ I 4 + 1 ∧ I 4 + 1 ≤ 300 by omega), fun _ => ⟨hc, rfl, rfl⟩⟩
    · rw [if_neg hg]
      unfold gsy
      rw [if_pos hc]
      exact ⟨gPo.I 6 _ (gPo.I 5 _ (gPo.refl hI hA) rfl (show (-13 : Int) ≤ -8 ∧ (-8 : Int) ≤ 0 by omega)) rfl (show (-2147483648 : Int) ≤ I 4 ∧ I 4 ≤ 2147483647 by omega), fun (z : (-8 : Int) = 0) => by omega⟩
  · rw [if_neg hc]
    exact ⟨gPo.refl hI hA, fun z => absurd z hc⟩
set_option maxRecDepth 100000 in
set_option maxHeartbeats 1000000 in
theorem l247_GM_solvew (G : jG) (d m : Nat) (v : Int) (I : Nat → Int) (A : Nat → Int → Int) (hI : gSI I) (hA : gSA A) (va : 0 ≤ v) (vb : v < 12) (hc : A 35 (5187 + v) ≠ 0 ∧ -68719476736 ≤ A 35 (5187 + v) ∧ A 35 (5187 + v) ≤ 68719476736) (f0 : jF) (sz : Nat) (c : Int) : ∀ (n9 : Nat) (w : Int) (J : Nat → Int) (B : Nat → Int → Int), gPo [15] [30, 31, 33, 34, 35] I A J B → (0 ≤ w) → (w ≤ 13) → 13 - w < (n9 : Int) → jt (jm G Y_GM_solve (gR (d + 2)) (gQ m f0 sz (fun (rv : Option Value) (I2 : Nat → Int) (A2 : Nat → Int → Int) => rv = none ∧ gPo [15] [30, 31, 33, 34, 35] I A I2 A2))) 247 [(0, .ref m), (1, .int (jI v)), (2, .long (jL c)), (4, .int (jI w))] [] (gmf m f0 J B) sz 0 0 := by
  intro n9
  induction n9 with
  | zero =>
    intro w J B hJ i0 i1 hmeas
    exfalso
    omega
  | succ n9 ih =>
    intro w J B hJ i0 i1 hmeas
    refine jt_iload d_GM_solve_247 rfl ?_
    refine jt_bipush d_GM_solve_249 (by omega) ?_
    refine jt_icmp_ge (t := 283) d_GM_solve_251 rfl (by unfold jRi; omega) (by unfold jRi; omega) (fun c101 => ?_) (fun c101 => ?_)
    · skip
      refine jt_aload_n d_GM_solve_283 rfl ?_
      refine gm_gA (k := 30) (a := m + 15) d_GM_solve_284 GM_f102 (by decide) (by decide) rfl ?_
      refine jt_iload_n d_GM_solve_287 rfl ?_
      refine jt_aload_n d_GM_solve_288 rfl ?_
      refine jt_sipush d_GM_solve_289 (by omega) ?_
      refine gct_call (Y := Y_GM_isNumber) (As := [.int (jI 398)]) (rest := [.int (jI v), .ref (m + 15)]) d_GM_solve_292 GM_c260 yk_GM_isNumber yv_GM_isNumber rfl (Nat.le_of_ble_eq_true rfl) rfl rfl (Nat.le_of_ble_eq_true rfl) (c_GM_isNumber G _ m 398 J B (by omega) (by omega) (fun j _ _ => hJ.2.1 35 _)) (fun rvq102 Iq102 Aq102 hq102 => ?_)
      obtain ⟨haq102, hbq102, hIq102, hAq102⟩ := hq102
      rw [hIq102, hAq102]
      by_cases gq102 : ∀ j, 0 ≤ j → j < 12 → (B 35) (398 * 13 + j) = 0
      · skip
        obtain rfl := haq102 gq102
        clear haq102 hbq102 hIq102 hAq102
        show jt _ 295 [(0, .ref m), (1, .int (jI v)), (2, .long (jL c)), (4, .int (jI w))] [.int (jI 1), .int (jI v), .ref (m + 15)] (gmf m f0 J B) _ _ _
        refine jt_if_eq (t := 302) d_GM_solve_295 rfl (by unfold jRi; omega) (fun c103 => ?_) (fun c103 => ?_)
        · skip
          exfalso
          omega
        · skip
          refine jt_iconst d_GM_solve_298 ?_
          refine jt_goto (t := 303) d_GM_solve_299 rfl ?_
          refine gm_st0 (k := 30) (n := 12) (B := va_up B 30 (ju (B 30) v 2)) d_GM_solve_303 rfl (by decide) (by decide) rfl rfl (by omega) (by omega) (by omega) rfl ?_
          have p104 := gPo.A 30 (ju (B 30) v 2) hJ rfl (gju (hJ.2.1 30) (show -2147483648 ≤ 2 ∧ 2 ≤ 2147483647 by omega))
          exact gm_vret d_GM_solve_304 rfl (⟨rfl, p104⟩)
      · skip
        obtain rfl := hbq102 gq102
        clear haq102 hbq102 hIq102 hAq102
        show jt _ 295 [(0, .ref m), (1, .int (jI v)), (2, .long (jL c)), (4, .int (jI w))] [.int (jI 0), .int (jI v), .ref (m + 15)] (gmf m f0 J B) _ _ _
        refine jt_if_eq (t := 302) d_GM_solve_295 rfl (by unfold jRi; omega) (fun c105 => ?_) (fun c105 => ?_)
        · skip
          refine jt_iconst d_GM_solve_302 ?_
          refine gm_st0 (k := 30) (n := 12) (B := va_up B 30 (ju (B 30) v 1)) d_GM_solve_303 rfl (by decide) (by decide) rfl rfl (by omega) (by omega) (by omega) rfl ?_
          have p106 := gPo.A 30 (ju (B 30) v 1) hJ rfl (gju (hJ.2.1 30) (show -2147483648 ≤ 1 ∧ 1 ≤ 2147483647 by omega))
          exact gm_vret d_GM_solve_304 rfl (⟨rfl, p106⟩)
        · skip
          exfalso
          omega
    · skip
      refine jt_aload_n d_GM_solve_254 rfl ?_
      refine gm_gA (k := 31) (a := m + 16) d_GM_solve_255 GM_f105 (by decide) (by decide) rfl ?_
      refine jt_iload_n d_GM_solve_258 rfl ?_
      refine jt_bipush d_GM_solve_259 (by omega) ?_
      refine jt_imul d_GM_solve_261 ?_
      refine jt_iload d_GM_solve_262 rfl ?_
      refine jt_iadd d_GM_solve_264 ?_
      refine jt_aload_n d_GM_solve_265 rfl ?_
      refine gm_gA (k := 35) (a := m + 20) d_GM_solve_266 GM_f118 (by decide) (by decide) rfl ?_
      refine jt_sipush d_GM_solve_269 (by omega) ?_
      refine jt_iload d_GM_solve_272 rfl ?_
      refine jt_iadd d_GM_solve_274 ?_
      refine gm_ld1 (k := 35) (n := 5200) (v := (B 35) (5174 + w)) d_GM_solve_275 rfl (by decide) (by decide) rfl rfl (by omega) (by omega) (by omega) rfl ?_
      refine jt_topl (fun v107 ev107 => ?_)
      have bv107 : (-9223372036854775808) ≤ v107 ∧ v107 ≤ 9223372036854775807 := by rw [ev107]; exact hJ.2.1 35 (5174 + w)
      refine gm_st1 (k := 31) (n := 156) (B := va_up B 31 (ju (B 31) ((v * 13) + w) v107)) d_GM_solve_276 rfl (by decide) (by decide) rfl rfl (by omega) (by omega) (by omega) rfl ?_
      have p108 := gPo.A 31 (ju (B 31) ((v * 13) + w) v107) hJ rfl (gju (hJ.2.1 31) (show -9223372036854775808 ≤ v107 ∧ v107 ≤ 9223372036854775807 by omega))
      refine jt_iinc (L' := [(0, .ref m), (1, .int (jI v)), (2, .long (jL c)), (4, .int (jI (w + 1)))]) d_GM_solve_277 rfl (Nat.le_of_ble_eq_true rfl) rfl ?_
      refine jt_goto (t := 247) d_GM_solve_280 rfl ?_
      exact ih (w + 1) J (va_up B 31 (ju (B 31) ((v * 13) + w) v107)) p108 (by omega) (by omega) (by omega)
set_option maxRecDepth 100000 in
set_option maxHeartbeats 1000000 in
theorem l99_GM_solvew (G : jG) (d m : Nat) (v : Int) (I : Nat → Int) (A : Nat → Int → Int) (hI : gSI I) (hA : gSA A) (va : 0 ≤ v) (vb : v < 12) (hc : A 35 (5187 + v) ≠ 0 ∧ -68719476736 ≤ A 35 (5187 + v) ∧ A 35 (5187 + v) ≤ 68719476736) (f0 : jF) (sz : Nat) (c : Int) (w : Int) (w0 : 0 ≤ w) (w1 : w < 12) (hout : ∀ (i : Int) (J : Nat → Int) (B : Nat → Int → Int), gPo [15] [30, 31, 33, 34, 35] I A J B → (0 ≤ i) → (i ≤ 13) → jt (jm G Y_GM_solve (gR (d + 2)) (gQ m f0 sz (fun (rv : Option Value) (I2 : Nat → Int) (A2 : Nat → Int → Int) => rv = none ∧ gPo [15] [30, 31, 33, 34, 35] I A I2 A2))) 136 [(0, .ref m), (1, .int (jI v)), (2, .long (jL c)), (4, .int (jI w)), (5, .int (jI i))] [] (gmf m f0 J B) sz 0 0) : ∀ (n9 : Nat) (i : Int) (J : Nat → Int) (B : Nat → Int → Int), gPo [15] [30, 31, 33, 34, 35] I A J B → (0 ≤ i) → (i ≤ 13) → 13 - i < (n9 : Int) → jt (jm G Y_GM_solve (gR (d + 2)) (gQ m f0 sz (fun (rv : Option Value) (I2 : Nat → Int) (A2 : Nat → Int → Int) => rv = none ∧ gPo [15] [30, 31, 33, 34, 35] I A I2 A2))) 99 [(0, .ref m), (1, .int (jI v)), (2, .long (jL c)), (4, .int (jI w)), (5, .int (jI i))] [] (gmf m f0 J B) sz 0 0 := by
  intro n9
  induction n9 with
  | zero =>
    intro i J B hJ i0 i1 hmeas
    exfalso
    omega
  | succ n9 ih =>
    intro i J B hJ i0 i1 hmeas
    refine jt_iload d_GM_solve_99 rfl ?_
    refine jt_bipush d_GM_solve_101 (by omega) ?_
    refine jt_icmp_ge (t := 136) d_GM_solve_103 rfl (by unfold jRi; omega) (by unfold jRi; omega) (fun c201 => ?_) (fun c201 => ?_)
    · skip
      exact hout i J B hJ i0 i1 
    · skip
      refine jt_aload_n d_GM_solve_106 rfl ?_
      refine gm_gA (k := 35) (a := m + 20) d_GM_solve_107 GM_f118 (by decide) (by decide) rfl ?_
      refine jt_sipush d_GM_solve_110 (by omega) ?_
      refine jt_iload d_GM_solve_113 rfl ?_
      refine jt_iadd d_GM_solve_115 ?_
      refine jt_aload_n d_GM_solve_116 rfl ?_
      refine gm_gA (k := 31) (a := m + 16) d_GM_solve_117 GM_f105 (by decide) (by decide) rfl ?_
      refine jt_iload d_GM_solve_120 rfl ?_
      refine jt_bipush d_GM_solve_122 (by omega) ?_
      refine jt_imul d_GM_solve_124 ?_
      refine jt_iload d_GM_solve_125 rfl ?_
      refine jt_iadd d_GM_solve_127 ?_
      refine gm_ld1 (k := 31) (n := 156) (v := (B 31) ((w * 13) + i)) d_GM_solve_128 rfl (by decide) (by decide) rfl rfl (by omega) (by omega) (by omega) rfl ?_
      refine jt_topl (fun v202 ev202 => ?_)
      have bv202 : (-9223372036854775808) ≤ v202 ∧ v202 ≤ 9223372036854775807 := by rw [ev202]; exact hJ.2.1 31 ((w * 13) + i)
      refine gm_st1 (k := 35) (n := 5200) (B := va_up B 35 (ju (B 35) (5161 + i) v202)) d_GM_solve_129 rfl (by decide) (by decide) rfl rfl (by omega) (by omega) (by omega) rfl ?_
      have p203 := gPo.A 35 (ju (B 35) (5161 + i) v202) hJ rfl (gju (hJ.2.1 35) (show -9223372036854775808 ≤ v202 ∧ v202 ≤ 9223372036854775807 by omega))
      refine jt_iinc (L' := [(0, .ref m), (1, .int (jI v)), (2, .long (jL c)), (4, .int (jI w)), (5, .int (jI (i + 1)))]) d_GM_solve_130 rfl (Nat.le_of_ble_eq_true rfl) rfl ?_
      refine jt_goto (t := 99) d_GM_solve_133 rfl ?_
      exact ih (i + 1) J (va_up B 35 (ju (B 35) (5161 + i) v202)) p203 (by omega) (by omega) (by omega)
set_option maxRecDepth 100000 in
set_option maxHeartbeats 1000000 in
theorem l168_GM_solvew (G : jG) (d m : Nat) (v : Int) (I : Nat → Int) (A : Nat → Int → Int) (hI : gSI I) (hA : gSA A) (va : 0 ≤ v) (vb : v < 12) (hc : A 35 (5187 + v) ≠ 0 ∧ -68719476736 ≤ A 35 (5187 + v) ∧ A 35 (5187 + v) ≤ 68719476736) (f0 : jF) (sz : Nat) (c : Int) (w : Int) (w0 : 0 ≤ w) (w1 : w < 12) (hout : ∀ (i : Int) (J : Nat → Int) (B : Nat → Int → Int), gPo [15] [30, 31, 33, 34, 35] I A J B → (0 ≤ i) → (i ≤ 13) → jt (jm G Y_GM_solve (gR (d + 2)) (gQ m f0 sz (fun (rv : Option Value) (I2 : Nat → Int) (A2 : Nat → Int → Int) => rv = none ∧ gPo [15] [30, 31, 33, 34, 35] I A I2 A2))) 205 [(0, .ref m), (1, .int (jI v)), (2, .long (jL c)), (4, .int (jI w)), (5, .int (jI i))] [] (gmf m f0 J B) sz 0 0) : ∀ (n9 : Nat) (i : Int) (J : Nat → Int) (B : Nat → Int → Int), gPo [15] [30, 31, 33, 34, 35] I A J B → (0 ≤ i) → (i ≤ 13) → 13 - i < (n9 : Int) → jt (jm G Y_GM_solve (gR (d + 2)) (gQ m f0 sz (fun (rv : Option Value) (I2 : Nat → Int) (A2 : Nat → Int → Int) => rv = none ∧ gPo [15] [30, 31, 33, 34, 35] I A I2 A2))) 168 [(0, .ref m), (1, .int (jI v)), (2, .long (jL c)), (4, .int (jI w)), (5, .int (jI i))] [] (gmf m f0 J B) sz 0 0 := by
  intro n9
  induction n9 with
  | zero =>
    intro i J B hJ i0 i1 hmeas
    exfalso
    omega
  | succ n9 ih =>
    intro i J B hJ i0 i1 hmeas
    refine jt_iload d_GM_solve_168 rfl ?_
    refine jt_bipush d_GM_solve_170 (by omega) ?_
    refine jt_icmp_ge (t := 205) d_GM_solve_172 rfl (by unfold jRi; omega) (by unfold jRi; omega) (fun c301 => ?_) (fun c301 => ?_)
    · skip
      exact hout i J B hJ i0 i1 
    · skip
      refine jt_aload_n d_GM_solve_175 rfl ?_
      refine gm_gA (k := 31) (a := m + 16) d_GM_solve_176 GM_f105 (by decide) (by decide) rfl ?_
      refine jt_iload d_GM_solve_179 rfl ?_
      refine jt_bipush d_GM_solve_181 (by omega) ?_
      refine jt_imul d_GM_solve_183 ?_
      refine jt_iload d_GM_solve_184 rfl ?_
      refine jt_iadd d_GM_solve_186 ?_
      refine jt_aload_n d_GM_solve_187 rfl ?_
      refine gm_gA (k := 35) (a := m + 20) d_GM_solve_188 GM_f118 (by decide) (by decide) rfl ?_
      refine jt_sipush d_GM_solve_191 (by omega) ?_
      refine jt_iload d_GM_solve_194 rfl ?_
      refine jt_iadd d_GM_solve_196 ?_
      refine gm_ld1 (k := 35) (n := 5200) (v := (B 35) (5161 + i)) d_GM_solve_197 rfl (by decide) (by decide) rfl rfl (by omega) (by omega) (by omega) rfl ?_
      refine jt_topl (fun v302 ev302 => ?_)
      have bv302 : (-9223372036854775808) ≤ v302 ∧ v302 ≤ 9223372036854775807 := by rw [ev302]; exact hJ.2.1 35 (5161 + i)
      refine gm_st1 (k := 31) (n := 156) (B := va_up B 31 (ju (B 31) ((w * 13) + i) v302)) d_GM_solve_198 rfl (by decide) (by decide) rfl rfl (by omega) (by omega) (by omega) rfl ?_
      have p303 := gPo.A 31 (ju (B 31) ((w * 13) + i) v302) hJ rfl (gju (hJ.2.1 31) (show -9223372036854775808 ≤ v302 ∧ v302 ≤ 9223372036854775807 by omega))
      refine jt_iinc (L' := [(0, .ref m), (1, .int (jI v)), (2, .long (jL c)), (4, .int (jI w)), (5, .int (jI (i + 1)))]) d_GM_solve_199 rfl (Nat.le_of_ble_eq_true rfl) rfl ?_
      refine jt_goto (t := 168) d_GM_solve_202 rfl ?_
      exact ih (i + 1) J (va_up B 31 (ju (B 31) ((w * 13) + i) v302)) p303 (by omega) (by omega) (by omega)
set_option maxRecDepth 100000 in
set_option maxHeartbeats 1000000 in
theorem l68_GM_solvew (G : jG) (d m : Nat) (v : Int) (I : Nat → Int) (A : Nat → Int → Int) (hI : gSI I) (hA : gSA A) (va : 0 ≤ v) (vb : v < 12) (hc : A 35 (5187 + v) ≠ 0 ∧ -68719476736 ≤ A 35 (5187 + v) ∧ A 35 (5187 + v) ≤ 68719476736) (f0 : jF) (sz : Nat) (c : Int) : ∀ (n9 : Nat) (w : Int) (J : Nat → Int) (B : Nat → Int → Int), gPo [15] [30, 31, 33, 34, 35] I A J B → (0 ≤ w) → (w ≤ 12) → 12 - w < (n9 : Int) → jt (jm G Y_GM_solve (gR (d + 2)) (gQ m f0 sz (fun (rv : Option Value) (I2 : Nat → Int) (A2 : Nat → Int → Int) => rv = none ∧ gPo [15] [30, 31, 33, 34, 35] I A I2 A2))) 68 [(0, .ref m), (1, .int (jI v)), (2, .long (jL c)), (4, .int (jI w))] [] (gmf m f0 J B) sz 0 0 := by
  intro n9
  induction n9 with
  | zero =>
    intro w J B hJ i0 i1 hmeas
    exfalso
    omega
  | succ n9 ih =>
    intro w J B hJ i0 i1 hmeas
    refine jt_iload d_GM_solve_68 rfl ?_
    refine jt_bipush d_GM_solve_70 (by omega) ?_
    refine jt_icmp_ge (t := 236) d_GM_solve_72 rfl (by unfold jRi; omega) (by unfold jRi; omega) (fun c401 => ?_) (fun c401 => ?_)
    · skip
      refine jt_aload_n d_GM_solve_236 rfl ?_
      refine gm_gI (k := 15) (v := J 15) d_GM_solve_237 GM_f55 (by decide) rfl ?_
      have rb402 : 0 ≤ J 15 ∧ J 15 ≤ 1 := hJ.1 15
      refine jt_if_eq (t := 244) d_GM_solve_240 rfl (by unfold jRi; omega) (fun c403 => ?_) (fun c403 => ?_)
      · skip
        refine jt_iconst d_GM_solve_244 ?_
        refine jt_istore (L' := [(0, .ref m), (1, .int (jI v)), (2, .long (jL c)), (4, .int (jI 0))]) d_GM_solve_245 (Nat.le_of_ble_eq_true rfl) rfl ?_
        exact l247_GM_solvew G d m v I A hI hA va vb hc f0 sz c 14 0 J B hJ (by omega) (by omega) (by omega)
      · skip
        exact gm_vret d_GM_solve_243 rfl (⟨rfl, hJ⟩)
    · skip
      refine jt_aload_n d_GM_solve_75 rfl ?_
      refine gm_gI (k := 15) (v := J 15) d_GM_solve_76 GM_f55 (by decide) rfl ?_
      have rb404 : 0 ≤ J 15 ∧ J 15 ≤ 1 := hJ.1 15
      refine jt_if_ne (t := 236) d_GM_solve_79 rfl (by unfold jRi; omega) (fun c405 => ?_) (fun c405 => ?_)
      · skip
        refine jt_aload_n d_GM_solve_236 rfl ?_
        refine gm_gI (k := 15) (v := J 15) d_GM_solve_237 GM_f55 (by decide) rfl ?_
        refine jt_if_eq (t := 244) d_GM_solve_240 rfl (by unfold jRi; omega) (fun c406 => ?_) (fun c406 => ?_)
        · skip
          refine jt_iconst d_GM_solve_244 ?_
          refine jt_istore (L' := [(0, .ref m), (1, .int (jI v)), (2, .long (jL c)), (4, .int (jI 0))]) d_GM_solve_245 (Nat.le_of_ble_eq_true rfl) rfl ?_
          exact l247_GM_solvew G d m v I A hI hA va vb hc f0 sz c 14 0 J B hJ (by omega) (by omega) (by omega)
        · skip
          exact gm_vret d_GM_solve_243 rfl (⟨rfl, hJ⟩)
      · skip
        refine jt_aload_n d_GM_solve_82 rfl ?_
        refine gm_gA (k := 30) (a := m + 15) d_GM_solve_83 GM_f102 (by decide) (by decide) rfl ?_
        refine jt_iload d_GM_solve_86 rfl ?_
        refine gm_ld0 (k := 30) (n := 12) (v := (B 30) w) d_GM_solve_88 rfl (by decide) (by decide) rfl rfl (by omega) (by omega) (by omega) rfl ?_
        refine jt_topi (fun v407 ev407 => ?_)
        have bv407 : (-2147483648) ≤ v407 ∧ v407 ≤ 2147483647 := by rw [ev407]; exact hJ.2.1 30 w
        refine jt_iconst d_GM_solve_89 ?_
        refine jt_icmp_eq (t := 96) d_GM_solve_90 rfl (by unfold jRi; omega) (by unfold jRi; omega) (fun c408 => ?_) (fun c408 => ?_)
        · skip
          refine jt_iconst d_GM_solve_96 ?_
          refine jt_istore (L' := [(0, .ref m), (1, .int (jI v)), (2, .long (jL c)), (4, .int (jI w)), (5, .int (jI 0))]) d_GM_solve_97 (Nat.le_of_ble_eq_true rfl) rfl ?_
          refine l99_GM_solvew G d m v I A hI hA va vb hc f0 sz c w ((by omega)) ((by omega)) (fun io409 Jo409 Bo409 hJo409 i0o409 i1o409 => ?_) 14 0 J B hJ (by omega) (by omega) (by omega)
          refine jt_aload_n d_GM_solve_136 rfl ?_
          refine gct_call (Y := Y_GM_beginSums) (As := []) (rest := []) d_GM_solve_137 GM_c295 yk_GM_beginSums yv_GM_beginSums rfl (Nat.le_of_ble_eq_true rfl) rfl rfl (Nat.le_of_ble_eq_true rfl) (w_GM_beginSums G _ m  Jo409 Bo409 hJo409.1 hJo409.2.1 ) (fun rvq410 Iq410 Aq410 hq410 => ?_)
          obtain ⟨rfl, hqq410⟩ := hq410
          have hpq410 := gPo.trans hJo409 hqq410 rfl rfl
          have f1q410 : Iq410 1 = I 1 := hpq410.2.2.1 1 rfl
          show jt _ 140 [(0, .ref m), (1, .int (jI v)), (2, .long (jL c)), (4, .int (jI w)), (5, .int (jI io409))] [] (gmf m f0 Iq410 Aq410) _ _ _
          refine jt_aload_n d_GM_solve_140 rfl ?_
          refine jt_sipush d_GM_solve_141 (by omega) ?_
          refine jt_iload_n d_GM_solve_144 rfl ?_
          refine jt_sipush d_GM_solve_145 (by omega) ?_
          refine gct_call (Y := Y_GM_replaceIn) (As := [.int (jI 397), .int (jI v), .int (jI 398)]) (rest := []) d_GM_solve_148 GM_c298 yk_GM_replaceIn yv_GM_replaceIn rfl (Nat.le_of_ble_eq_true rfl) rfl rfl (Nat.le_of_ble_eq_true rfl) (w_GM_replaceIn G _ m 397 v 398 Iq410 Aq410 hpq410.1 hpq410.2.1 (by omega) (by omega) (by omega) (by omega) (by omega) (by omega) (by omega)) (fun rvq411 Iq411 Aq411 hq411 => ?_)
          obtain ⟨rfl, hqq411⟩ := hq411
          have hpq411 := gPo.trans hpq410 hqq411 rfl rfl
          have f1q411 : Iq411 1 = I 1 := hpq411.2.2.1 1 rfl
          show jt _ 151 [(0, .ref m), (1, .int (jI v)), (2, .long (jL c)), (4, .int (jI w)), (5, .int (jI io409))] [] (gmf m f0 Iq411 Aq411) _ _ _
          refine jt_aload_n d_GM_solve_151 rfl ?_
          refine jt_sipush d_GM_solve_152 (by omega) ?_
          refine gct_call (Y := Y_GM_addSums) (As := [.int (jI 397)]) (rest := []) d_GM_solve_155 GM_c301 yk_GM_addSums yv_GM_addSums rfl (Nat.le_of_ble_eq_true rfl) rfl rfl (Nat.le_of_ble_eq_true rfl) (w_GM_addSums G _ m 397 Iq411 Aq411 hpq411.1 hpq411.2.1 (by omega) (by omega)) (fun rvq412 Iq412 Aq412 hq412 => ?_)
          obtain ⟨rfl, hqq412⟩ := hq412
          have hpq412 := gPo.trans hpq411 hqq412 rfl rfl
          have f1q412 : Iq412 1 = I 1 := hpq412.2.2.1 1 rfl
          show jt _ 158 [(0, .ref m), (1, .int (jI v)), (2, .long (jL c)), (4, .int (jI w)), (5, .int (jI io409))] [] (gmf m f0 Iq412 Aq412) _ _ _
          refine jt_aload_n d_GM_solve_158 rfl ?_
          refine gm_gI (k := 15) (v := Iq412 15) d_GM_solve_159 GM_f55 (by decide) rfl ?_
          have rb413 : 0 ≤ Iq412 15 ∧ Iq412 15 ≤ 1 := hpq412.1 15
          refine jt_if_ne (t := 205) d_GM_solve_162 rfl (by unfold jRi; omega) (fun c414 => ?_) (fun c414 => ?_)
          · skip
            refine jt_aload_n d_GM_solve_205 rfl ?_
            refine gm_gI (k := 15) (v := Iq412 15) d_GM_solve_206 GM_f55 (by decide) rfl ?_
            refine jt_if_ne (t := 230) d_GM_solve_209 rfl (by unfold jRi; omega) (fun c415 => ?_) (fun c415 => ?_)
            · skip
              refine jt_iinc (L' := [(0, .ref m), (1, .int (jI v)), (2, .long (jL c)), (4, .int (jI (w + 1))), (5, .int (jI io409))]) d_GM_solve_230 rfl (Nat.le_of_ble_eq_true rfl) rfl ?_
              refine jt_goto (t := 68) d_GM_solve_233 rfl ?_
              refine jt_sub (L' := [(0, .ref m), (1, .int (jI v)), (2, .long (jL c)), (4, .int (jI (w + 1)))]) (fun _ h => List.mem_append_left [(5, Value.int (jI io409))] h) ?_
              exact ih (w + 1) Iq412 Aq412 hpq412 (by omega) (by omega) (by omega)
            · skip
              refine jt_aload_n d_GM_solve_212 rfl ?_
              refine jt_sipush d_GM_solve_213 (by omega) ?_
              refine gct_call (Y := Y_GM_isNumber) (As := [.int (jI 397)]) (rest := []) d_GM_solve_216 GM_c260 yk_GM_isNumber yv_GM_isNumber rfl (Nat.le_of_ble_eq_true rfl) rfl rfl (Nat.le_of_ble_eq_true rfl) (c_GM_isNumber G _ m 397 Iq412 Aq412 (by omega) (by omega) (fun j _ _ => hpq412.2.1 35 _)) (fun rvq416 Iq416 Aq416 hq416 => ?_)
              obtain ⟨haq416, hbq416, hIq416, hAq416⟩ := hq416
              rw [hIq416, hAq416]
              by_cases gq416 : ∀ j, 0 ≤ j → j < 12 → (Aq412 35) (397 * 13 + j) = 0
              · skip
                obtain rfl := haq416 gq416
                clear haq416 hbq416 hIq416 hAq416
                show jt _ 219 [(0, .ref m), (1, .int (jI v)), (2, .long (jL c)), (4, .int (jI w)), (5, .int (jI io409))] [.int (jI 1)] (gmf m f0 Iq412 Aq412) _ _ _
                refine jt_if_eq (t := 230) d_GM_solve_219 rfl (by unfold jRi; omega) (fun c417 => ?_) (fun c417 => ?_)
                · skip
                  exfalso
                  omega
                · skip
                  refine jt_aload_n d_GM_solve_222 rfl ?_
                  refine gm_gA (k := 30) (a := m + 15) d_GM_solve_223 GM_f102 (by decide) (by decide) rfl ?_
                  refine jt_iload d_GM_solve_226 rfl ?_
                  refine jt_iconst d_GM_solve_228 ?_
                  refine gm_st0 (k := 30) (n := 12) (B := va_up Aq412 30 (ju (Aq412 30) w 2)) d_GM_solve_229 rfl (by decide) (by decide) rfl rfl (by omega) (by omega) (by omega) rfl ?_
                  have p418 := gPo.A 30 (ju (Aq412 30) w 2) hpq412 rfl (gju (hpq412.2.1 30) (show -2147483648 ≤ 2 ∧ 2 ≤ 2147483647 by omega))
                  refine jt_iinc (L' := [(0, .ref m), (1, .int (jI v)), (2, .long (jL c)), (4, .int (jI (w + 1))), (5, .int (jI io409))]) d_GM_solve_230 rfl (Nat.le_of_ble_eq_true rfl) rfl ?_
                  refine jt_goto (t := 68) d_GM_solve_233 rfl ?_
                  refine jt_sub (L' := [(0, .ref m), (1, .int (jI v)), (2, .long (jL c)), (4, .int (jI (w + 1)))]) (fun _ h => List.mem_append_left [(5, Value.int (jI io409))] h) ?_
                  exact ih (w + 1) Iq412 (va_up Aq412 30 (ju (Aq412 30) w 2)) p418 (by omega) (by omega) (by omega)
              · skip
                obtain rfl := hbq416 gq416
                clear haq416 hbq416 hIq416 hAq416
                show jt _ 219 [(0, .ref m), (1, .int (jI v)), (2, .long (jL c)), (4, .int (jI w)), (5, .int (jI io409))] [.int (jI 0)] (gmf m f0 Iq412 Aq412) _ _ _
                refine jt_if_eq (t := 230) d_GM_solve_219 rfl (by unfold jRi; omega) (fun c419 => ?_) (fun c419 => ?_)
                · skip
                  refine jt_iinc (L' := [(0, .ref m), (1, .int (jI v)), (2, .long (jL c)), (4, .int (jI (w + 1))), (5, .int (jI io409))]) d_GM_solve_230 rfl (Nat.le_of_ble_eq_true rfl) rfl ?_
                  refine jt_goto (t := 68) d_GM_solve_233 rfl ?_
                  refine jt_sub (L' := [(0, .ref m), (1, .int (jI v)), (2, .long (jL c)), (4, .int (jI (w + 1)))]) (fun _ h => List.mem_append_left [(5, Value.int (jI io409))] h) ?_
                  exact ih (w + 1) Iq412 Aq412 hpq412 (by omega) (by omega) (by omega)
                · skip
                  exfalso
                  omega
          · skip
            refine jt_iconst d_GM_solve_165 ?_
            refine jt_istore (L' := [(0, .ref m), (1, .int (jI v)), (2, .long (jL c)), (4, .int (jI w)), (5, .int (jI 0))]) d_GM_solve_166 (Nat.le_of_ble_eq_true rfl) rfl ?_
            refine l168_GM_solvew G d m v I A hI hA va vb hc f0 sz c w ((by omega)) ((by omega)) (fun io420 Jo420 Bo420 hJo420 i0o420 i1o420 => ?_) 14 0 Iq412 Aq412 hpq412 (by omega) (by omega) (by omega)
            refine jt_aload_n d_GM_solve_205 rfl ?_
            refine gm_gI (k := 15) (v := Jo420 15) d_GM_solve_206 GM_f55 (by decide) rfl ?_
            have rb421 : 0 ≤ Jo420 15 ∧ Jo420 15 ≤ 1 := hJo420.1 15
            refine jt_if_ne (t := 230) d_GM_solve_209 rfl (by unfold jRi; omega) (fun c422 => ?_) (fun c422 => ?_)
            · skip
              refine jt_iinc (L' := [(0, .ref m), (1, .int (jI v)), (2, .long (jL c)), (4, .int (jI (w + 1))), (5, .int (jI io420))]) d_GM_solve_230 rfl (Nat.le_of_ble_eq_true rfl) rfl ?_
              refine jt_goto (t := 68) d_GM_solve_233 rfl ?_
              refine jt_sub (L' := [(0, .ref m), (1, .int (jI v)), (2, .long (jL c)), (4, .int (jI (w + 1)))]) (fun _ h => List.mem_append_left [(5, Value.int (jI io420))] h) ?_
              exact ih (w + 1) Jo420 Bo420 hJo420 (by omega) (by omega) (by omega)
            · skip
              refine jt_aload_n d_GM_solve_212 rfl ?_
              refine jt_sipush d_GM_solve_213 (by omega) ?_
              refine gct_call (Y := Y_GM_isNumber) (As := [.int (jI 397)]) (rest := []) d_GM_solve_216 GM_c260 yk_GM_isNumber yv_GM_isNumber rfl (Nat.le_of_ble_eq_true rfl) rfl rfl (Nat.le_of_ble_eq_true rfl) (c_GM_isNumber G _ m 397 Jo420 Bo420 (by omega) (by omega) (fun j _ _ => hJo420.2.1 35 _)) (fun rvq423 Iq423 Aq423 hq423 => ?_)
              obtain ⟨haq423, hbq423, hIq423, hAq423⟩ := hq423
              rw [hIq423, hAq423]
              by_cases gq423 : ∀ j, 0 ≤ j → j < 12 → (Bo420 35) (397 * 13 + j) = 0
              · skip
                obtain rfl := haq423 gq423
                clear haq423 hbq423 hIq423 hAq423
                show jt _ 219 [(0, .ref m), (1, .int (jI v)), (2, .long (jL c)), (4, .int (jI w)), (5, .int (jI io420))] [.int (jI 1)] (gmf m f0 Jo420 Bo420) _ _ _
                refine jt_if_eq (t := 230) d_GM_solve_219 rfl (by unfold jRi; omega) (fun c424 => ?_) (fun c424 => ?_)
                · skip
                  exfalso
                  omega
                · skip
                  refine jt_aload_n d_GM_solve_222 rfl ?_
                  refine gm_gA (k := 30) (a := m + 15) d_GM_solve_223 GM_f102 (by decide) (by decide) rfl ?_
                  refine jt_iload d_GM_solve_226 rfl ?_
                  refine jt_iconst d_GM_solve_228 ?_
                  refine gm_st0 (k := 30) (n := 12) (B := va_up Bo420 30 (ju (Bo420 30) w 2)) d_GM_solve_229 rfl (by decide) (by decide) rfl rfl (by omega) (by omega) (by omega) rfl ?_
                  have p425 := gPo.A 30 (ju (Bo420 30) w 2) hJo420 rfl (gju (hJo420.2.1 30) (show -2147483648 ≤ 2 ∧ 2 ≤ 2147483647 by omega))
                  refine jt_iinc (L' := [(0, .ref m), (1, .int (jI v)), (2, .long (jL c)), (4, .int (jI (w + 1))), (5, .int (jI io420))]) d_GM_solve_230 rfl (Nat.le_of_ble_eq_true rfl) rfl ?_
                  refine jt_goto (t := 68) d_GM_solve_233 rfl ?_
                  refine jt_sub (L' := [(0, .ref m), (1, .int (jI v)), (2, .long (jL c)), (4, .int (jI (w + 1)))]) (fun _ h => List.mem_append_left [(5, Value.int (jI io420))] h) ?_
                  exact ih (w + 1) Jo420 (va_up Bo420 30 (ju (Bo420 30) w 2)) p425 (by omega) (by omega) (by omega)
              · skip
                obtain rfl := hbq423 gq423
                clear haq423 hbq423 hIq423 hAq423
                show jt _ 219 [(0, .ref m), (1, .int (jI v)), (2, .long (jL c)), (4, .int (jI w)), (5, .int (jI io420))] [.int (jI 0)] (gmf m f0 Jo420 Bo420) _ _ _
                refine jt_if_eq (t := 230) d_GM_solve_219 rfl (by unfold jRi; omega) (fun c426 => ?_) (fun c426 => ?_)
                · skip
                  refine jt_iinc (L' := [(0, .ref m), (1, .int (jI v)), (2, .long (jL c)), (4, .int (jI (w + 1))), (5, .int (jI io420))]) d_GM_solve_230 rfl (Nat.le_of_ble_eq_true rfl) rfl ?_
                  refine jt_goto (t := 68) d_GM_solve_233 rfl ?_
                  refine jt_sub (L' := [(0, .ref m), (1, .int (jI v)), (2, .long (jL c)), (4, .int (jI (w + 1)))]) (fun _ h => List.mem_append_left [(5, Value.int (jI io420))] h) ?_
                  exact ih (w + 1) Jo420 Bo420 hJo420 (by omega) (by omega) (by omega)
                · skip
                  exfalso
                  omega
        · skip
          refine jt_goto (t := 230) d_GM_solve_93 rfl ?_
          refine jt_iinc (L' := [(0, .ref m), (1, .int (jI v)), (2, .long (jL c)), (4, .int (jI (w + 1)))]) d_GM_solve_230 rfl (Nat.le_of_ble_eq_true rfl) rfl ?_
          refine jt_goto (t := 68) d_GM_solve_233 rfl ?_
          exact ih (w + 1) J B hJ (by omega) (by omega) (by omega)
set_option maxRecDepth 100000 in
set_option maxHeartbeats 1000000 in
theorem l14_GM_solvew (G : jG) (d m : Nat) (v : Int) (I : Nat → Int) (A : Nat → Int → Int) (hI : gSI I) (hA : gSA A) (va : 0 ≤ v) (vb : v < 12) (hc : A 35 (5187 + v) ≠ 0 ∧ -68719476736 ≤ A 35 (5187 + v) ∧ A 35 (5187 + v) ≤ 68719476736) (f0 : jF) (sz : Nat) (c : Int) (c0 : c ≠ 0) (c1 : -68719476736 ≤ c) (c2 : c ≤ 68719476736) : ∀ (n9 : Nat) (w : Int) (J : Nat → Int) (B : Nat → Int → Int), gPo [15] [30, 31, 33, 34, 35] I A J B → (0 ≤ w) → (w ≤ 13) → 13 - w < (n9 : Int) → jt (jm G Y_GM_solve (gR (d + 2)) (gQ m f0 sz (fun (rv : Option Value) (I2 : Nat → Int) (A2 : Nat → Int → Int) => rv = none ∧ gPo [15] [30, 31, 33, 34, 35] I A I2 A2))) 14 [(0, .ref m), (1, .int (jI v)), (2, .long (jL c)), (4, .int (jI w))] [] (gmf m f0 J B) sz 0 0 := by
  intro n9
  induction n9 with
  | zero =>
    intro w J B hJ i0 i1 hmeas
    exfalso
    omega
  | succ n9 ih =>
    intro w J B hJ i0 i1 hmeas
    refine jt_iload d_GM_solve_14 rfl ?_
    refine jt_bipush d_GM_solve_16 (by omega) ?_
    refine jt_icmp_ge (t := 65) d_GM_solve_18 rfl (by unfold jRi; omega) (by unfold jRi; omega) (fun c501 => ?_) (fun c501 => ?_)
    · skip
      refine jt_iconst d_GM_solve_65 ?_
      refine jt_istore (L' := [(0, .ref m), (1, .int (jI v)), (2, .long (jL c)), (4, .int (jI 0))]) d_GM_solve_66 (Nat.le_of_ble_eq_true rfl) rfl ?_
      exact l68_GM_solvew G d m v I A hI hA va vb hc f0 sz c 13 0 J B hJ (by omega) (by omega) (by omega)
    · skip
      refine jt_aload_n d_GM_solve_21 rfl ?_
      refine gm_gA (k := 35) (a := m + 20) d_GM_solve_22 GM_f118 (by decide) (by decide) rfl ?_
      refine jt_sipush d_GM_solve_25 (by omega) ?_
      refine jt_iload d_GM_solve_28 rfl ?_
      refine jt_iadd d_GM_solve_30 ?_
      refine jt_iload d_GM_solve_31 rfl ?_
      refine jt_iload_n d_GM_solve_33 rfl ?_
      refine jt_icmp_ne (t := 41) d_GM_solve_34 rfl (by unfold jRi; omega) (by unfold jRi; omega) (fun c502 => ?_) (fun c502 => ?_)
      · skip
        refine jt_aload_n d_GM_solve_41 rfl ?_
        refine jt_aload_n d_GM_solve_42 rfl ?_
        refine gm_gA (k := 35) (a := m + 20) d_GM_solve_43 GM_f118 (by decide) (by decide) rfl ?_
        refine jt_sipush d_GM_solve_46 (by omega) ?_
        refine jt_iload d_GM_solve_49 rfl ?_
        refine jt_iadd d_GM_solve_51 ?_
        refine gm_ld1 (k := 35) (n := 5200) (v := (B 35) (5187 + w)) d_GM_solve_52 rfl (by decide) (by decide) rfl rfl (by omega) (by omega) (by omega) rfl ?_
        refine jt_topl (fun v503 ev503 => ?_)
        have bv503 : (-9223372036854775808) ≤ v503 ∧ v503 ≤ 9223372036854775807 := by rw [ev503]; exact hJ.2.1 35 (5187 + w)
        refine jt_lneg d_GM_solve_53 ?_
        refine jt_toplw (fun v504 bv504 => ?_)
        refine jt_lload_n d_GM_solve_54 rfl ?_
        refine gct_call (Y := Y_GM_over) (As := [.long (jL v504), .long (jL c)]) (rest := [.int (jI (5174 + w)), .ref (m + 20)]) d_GM_solve_55 GM_c304 yk_GM_over yv_GM_over rfl (Nat.le_of_ble_eq_true rfl) rfl rfl (Nat.le_of_ble_eq_true rfl) (w_GM_over G _ m v504 c J B hJ.1 hJ.2.1 (by omega) c0 c1 c2) (fun rvq505 Iq505 Aq505 hq505 => ?_)
        obtain ⟨yq505, rfl, ryq505, hqq505⟩ := hq505
        have hpq505 := gPo.trans hJ hqq505 rfl rfl
        have f1q505 : Iq505 1 = I 1 := hpq505.2.2.1 1 rfl
        show jt _ 58 [(0, .ref m), (1, .int (jI v)), (2, .long (jL c)), (4, .int (jI w))] [.long (jL yq505), .int (jI (5174 + w)), .ref (m + 20)] (gmf m f0 Iq505 Aq505) _ _ _
        refine gm_st1 (k := 35) (n := 5200) (B := va_up Aq505 35 (ju (Aq505 35) (5174 + w) yq505)) d_GM_solve_58 rfl (by decide) (by decide) rfl rfl (by omega) (by omega) (by omega) rfl ?_
        have p506 := gPo.A 35 (ju (Aq505 35) (5174 + w) yq505) hpq505 rfl (gju (hpq505.2.1 35) (show -9223372036854775808 ≤ yq505 ∧ yq505 ≤ 9223372036854775807 by omega))
        refine jt_iinc (L' := [(0, .ref m), (1, .int (jI v)), (2, .long (jL c)), (4, .int (jI (w + 1)))]) d_GM_solve_59 rfl (Nat.le_of_ble_eq_true rfl) rfl ?_
        refine jt_goto (t := 14) d_GM_solve_62 rfl ?_
        exact ih (w + 1) Iq505 (va_up Aq505 35 (ju (Aq505 35) (5174 + w) yq505)) p506 (by omega) (by omega) (by omega)
      · skip
        refine jt_lconst (z := 0) d_GM_solve_37 (by decide) ?_
        refine jt_goto (t := 58) d_GM_solve_38 rfl ?_
        refine gm_st1 (k := 35) (n := 5200) (B := va_up B 35 (ju (B 35) (5174 + w) 0)) d_GM_solve_58 rfl (by decide) (by decide) rfl rfl (by omega) (by omega) (by omega) rfl ?_
        have p507 := gPo.A 35 (ju (B 35) (5174 + w) 0) hJ rfl (gju (hJ.2.1 35) (show -9223372036854775808 ≤ 0 ∧ 0 ≤ 9223372036854775807 by omega))
        refine jt_iinc (L' := [(0, .ref m), (1, .int (jI v)), (2, .long (jL c)), (4, .int (jI (w + 1)))]) d_GM_solve_59 rfl (Nat.le_of_ble_eq_true rfl) rfl ?_
        refine jt_goto (t := 14) d_GM_solve_62 rfl ?_
        exact ih (w + 1) J (va_up B 35 (ju (B 35) (5174 + w) 0)) p507 (by omega) (by omega) (by omega)
set_option maxRecDepth 100000 in
set_option maxHeartbeats 1000000 in
theorem w_GM_solve (G : jG) (d m : Nat) (v : Int) (I : Nat → Int) (A : Nat → Int → Int) (hI : gSI I) (hA : gSA A) (va : 0 ≤ v) (vb : v < 12) (hc : A 35 (5187 + v) ≠ 0 ∧ -68719476736 ≤ A 35 (5187 + v) ∧ A 35 (5187 + v) ≤ 68719476736) : gct G Y_GM_solve (d + 2) m [.int (jI v)] I A (fun (rv : Option Value) (I2 : Nat → Int) (A2 : Nat → Int → Int) => rv = none ∧ gPo [15] [30, 31, 33, 34, 35] I A I2 A2) := by
  refine gct_of (by decide) (Nat.le_of_ble_eq_true rfl) (fun f0 sz => ?_)
  show jt _ 0 [(0, .ref m), (1, .int (jI v))] [] _ _ _ _
  have hz0 : gPo [15] [30, 31, 33, 34, 35] I A I A := gPo.refl hI hA
  refine jt_aload_n d_GM_solve_0 rfl ?_
  refine gm_gA (k := 35) (a := m + 20) d_GM_solve_1 GM_f118 (by decide) (by decide) rfl ?_
  refine jt_sipush d_GM_solve_4 (by omega) ?_
  refine jt_iload_n d_GM_solve_7 rfl ?_
  refine jt_iadd d_GM_solve_8 ?_
  refine gm_ld1 (k := 35) (n := 5200) (v := (A 35) (5187 + v)) d_GM_solve_9 rfl (by decide) (by decide) rfl rfl (by omega) (by omega) (by omega) rfl ?_
  refine jt_topl (fun v1 ev1 => ?_)
  have bv1 : (-9223372036854775808) ≤ v1 ∧ v1 ≤ 9223372036854775807 := by rw [ev1]; exact hz0.2.1 35 (5187 + v)
  refine jt_lstore_n (L' := [(0, .ref m), (1, .int (jI v)), (2, .long (jL v1))]) d_GM_solve_10 (Nat.le_of_ble_eq_true rfl) rfl ?_
  refine jt_iconst d_GM_solve_11 ?_
  refine jt_istore (L' := [(0, .ref m), (1, .int (jI v)), (2, .long (jL v1)), (4, .int (jI 0))]) d_GM_solve_12 (Nat.le_of_ble_eq_true rfl) rfl ?_
  exact l14_GM_solvew G d m v I A hI hA va vb hc f0 sz v1 (by rw [ev1]; exact hc.1) (by rw [ev1]; exact hc.2.1) (by rw [ev1]; exact hc.2.2) 14 0 I A hz0 (by omega) (by omega) (by omega)
set_option maxRecDepth 100000 in
set_option maxHeartbeats 1000000 in
theorem l33_GM_equatew (G : jG) (d m : Nat) (f : Int) (g : Int) (e : Int) (I : Nat → Int) (A : Nat → Int → Int) (hI : gSI I) (hA : gSA A) (fa : 0 ≤ f) (fb : f < 300) (g0 : 0 ≤ g) (g1 : g < 300) (he : -2147483648 ≤ e ∧ e ≤ 2147483647) (f0 : jF) (sz : Nat)  : ∀ (n9 : Nat) (i : Int) (J : Nat → Int) (B : Nat → Int → Int), gPo [5, 6, 15] [30, 31, 33, 34, 35] I A J B → (0 ≤ i) → (i ≤ 13) → 13 - i < (n9 : Int) → jt (jm G Y_GM_equate (gR (d + 3)) (gQ m f0 sz (fun (rv : Option Value) (I2 : Nat → Int) (A2 : Nat → Int → Int) => rv = none ∧ gPo [5, 6, 15] [30, 31, 33, 34, 35] I A I2 A2))) 33 [(0, .ref m), (1, .int (jI f)), (2, .int (jI g)), (3, .int (jI e)), (4, .int (jI i))] [] (gmf m f0 J B) sz 0 0 := by
  intro n9
  induction n9 with
  | zero =>
    intro i J B hJ i0 i1 hmeas
    exfalso
    omega
  | succ n9 ih =>
    intro i J B hJ i0 i1 hmeas
    refine jt_iload d_GM_equate_33 rfl ?_
    refine jt_bipush d_GM_equate_35 (by omega) ?_
    refine jt_icmp_ge (t := 80) d_GM_equate_37 rfl (by unfold jRi; omega) (by unfold jRi; omega) (fun c101 => ?_) (fun c101 => ?_)
    · skip
      refine jt_aload_n d_GM_equate_80 rfl ?_
      refine gm_gI (k := 15) (v := J 15) d_GM_equate_81 GM_f55 (by decide) rfl ?_
      have rb102 : 0 ≤ J 15 ∧ J 15 ≤ 1 := hJ.1 15
      refine jt_if_eq (t := 97) d_GM_equate_84 rfl (by unfold jRi; omega) (fun c103 => ?_) (fun c103 => ?_)
      · skip
        refine jt_aload_n d_GM_equate_97 rfl ?_
        refine jt_sipush d_GM_equate_98 (by omega) ?_
        refine gct_call (Y := Y_GM_isNumber) (As := [.int (jI 399)]) (rest := []) d_GM_equate_101 GM_c260 yk_GM_isNumber yv_GM_isNumber rfl (Nat.le_of_ble_eq_true rfl) rfl rfl (Nat.le_of_ble_eq_true rfl) (c_GM_isNumber G _ m 399 J B (by omega) (by omega) (fun j _ _ => hJ.2.1 35 _)) (fun rvq104 Iq104 Aq104 hq104 => ?_)
        obtain ⟨haq104, hbq104, hIq104, hAq104⟩ := hq104
        rw [hIq104, hAq104]
        by_cases gq104 : ∀ j, 0 ≤ j → j < 12 → (B 35) (399 * 13 + j) = 0
        · skip
          obtain rfl := haq104 gq104
          clear haq104 hbq104 hIq104 hAq104
          show jt _ 104 [(0, .ref m), (1, .int (jI f)), (2, .int (jI g)), (3, .int (jI e)), (4, .int (jI i))] [.int (jI 1)] (gmf m f0 J B) _ _ _
          refine jt_if_eq (t := 130) d_GM_equate_104 rfl (by unfold jRi; omega) (fun c105 => ?_) (fun c105 => ?_)
          · skip
            exfalso
            omega
          · skip
            refine jt_aload_n d_GM_equate_107 rfl ?_
            refine gm_gA (k := 35) (a := m + 20) d_GM_equate_108 GM_f118 (by decide) (by decide) rfl ?_
            refine jt_sipush d_GM_equate_111 (by omega) ?_
            refine gm_ld1 (k := 35) (n := 5200) (v := (B 35) 5199) d_GM_equate_114 rfl (by decide) (by decide) rfl rfl (by omega) (by omega) (by omega) rfl ?_
            refine jt_topl (fun v106 ev106 => ?_)
            have bv106 : (-9223372036854775808) ≤ v106 ∧ v106 ≤ 9223372036854775807 := by rw [ev106]; exact hJ.2.1 35 5199
            refine jt_lconst (z := 0) d_GM_equate_115 (by decide) ?_
            refine jt_lif_eq (t := 174) d_GM_equate_116 d_GM_equate_117 rfl (by unfold jRl; omega) (by unfold jRl; omega) (fun c107 => ?_) (fun c107 => ?_)
            · skip
              exact gm_vret d_GM_equate_174 rfl (⟨rfl, hJ⟩)
            · skip
              refine jt_aload_n d_GM_equate_120 rfl ?_
              refine jt_bipush d_GM_equate_121 (by omega) ?_
              refine jt_iload_n d_GM_equate_123 rfl ?_
              refine gct_call (Y := Y_GM_stop) (As := [.int (jI (-10)), .int (jI e)]) (rest := []) d_GM_equate_124 GM_c164 yk_GM_stop yv_GM_stop rfl (Nat.le_of_ble_eq_true rfl) rfl rfl (Nat.le_of_ble_eq_true rfl) (c_GM_stop G _ m (-10) e J B) (fun rvq108 Iq108 Aq108 hq108 => ?_)
              obtain ⟨rfl, hIq108, hAq108⟩ := hq108
              rw [hIq108, hAq108]
              have p109 := gPo.I 5 (-10) hJ rfl (show -13 ≤ -10 ∧ -10 ≤ 0 by omega)
              have p110 := gPo.I 6 e p109 rfl (show -2147483648 ≤ e ∧ e ≤ 2147483647 by omega)
              show jt _ 127 [(0, .ref m), (1, .int (jI f)), (2, .int (jI g)), (3, .int (jI e)), (4, .int (jI i))] [] (gmf m f0 (va_up (va_up J 5 (-10)) 6 e) B) _ _ _
              refine jt_goto (t := 174) d_GM_equate_127 rfl ?_
              exact gm_vret d_GM_equate_174 rfl (⟨rfl, p110⟩)
        · skip
          obtain rfl := hbq104 gq104
          clear haq104 hbq104 hIq104 hAq104
          show jt _ 104 [(0, .ref m), (1, .int (jI f)), (2, .int (jI g)), (3, .int (jI e)), (4, .int (jI i))] [.int (jI 0)] (gmf m f0 J B) _ _ _
          refine jt_if_eq (t := 130) d_GM_equate_104 rfl (by unfold jRi; omega) (fun c111 => ?_) (fun c111 => ?_)
          · skip
            refine jt_aload_n d_GM_equate_130 rfl ?_
            refine jt_sipush d_GM_equate_131 (by omega) ?_
            refine gct_call (Y := Y_GM_pivot) (As := [.int (jI 399)]) (rest := []) d_GM_equate_134 GM_c310 yk_GM_pivot yv_GM_pivot rfl (Nat.le_of_ble_eq_true rfl) rfl rfl (Nat.le_of_ble_eq_true rfl) (w_GM_pivot G _ m 399 J B hJ.1 hJ.2.1 (by omega) (by omega)) (fun rvq112 Iq112 Aq112 hq112 => ?_)
            obtain ⟨yq112, rfl, ryq112, hqq112, hxq112⟩ := hq112
            have hpq112 := gPo.trans hJ hqq112 rfl rfl
            have f1q112 : Iq112 1 = I 1 := hpq112.2.2.1 1 rfl
            have a35q112 : Aq112 35 = B 35 := hqq112.2.2.2 35 rfl
            show jt _ 137 [(0, .ref m), (1, .int (jI f)), (2, .int (jI g)), (3, .int (jI e)), (4, .int (jI i))] [.int (jI yq112)] (gmf m f0 Iq112 Aq112) _ _ _
            refine jt_istore (L' := [(0, .ref m), (1, .int (jI f)), (2, .int (jI g)), (3, .int (jI e)), (4, .int (jI yq112))]) d_GM_equate_137 (Nat.le_of_ble_eq_true rfl) rfl ?_
            refine jt_iload d_GM_equate_139 rfl ?_
            refine jt_if_ge (t := 154) d_GM_equate_141 rfl (by unfold jRi; omega) (fun c113 => ?_) (fun c113 => ?_)
            · skip
              refine jt_aload_n d_GM_equate_154 rfl ?_
              refine jt_iload d_GM_equate_155 rfl ?_
              refine gct_call (Y := Y_GM_solve) (As := [.int (jI yq112)]) (rest := []) d_GM_equate_157 GM_c314 yk_GM_solve yv_GM_solve rfl (Nat.le_of_ble_eq_true rfl) rfl rfl (Nat.le_of_ble_eq_true rfl) (w_GM_solve G _ m yq112 Iq112 Aq112 hpq112.1 hpq112.2.1 (by omega) (by omega) (by rw [a35q112]; exact hxq112 (by omega))) (fun rvq114 Iq114 Aq114 hq114 => ?_)
              obtain ⟨rfl, hqq114⟩ := hq114
              have hpq114 := gPo.trans hpq112 hqq114 rfl rfl
              have f1q114 : Iq114 1 = I 1 := hpq114.2.2.1 1 rfl
              show jt _ 160 [(0, .ref m), (1, .int (jI f)), (2, .int (jI g)), (3, .int (jI e)), (4, .int (jI yq112))] [] (gmf m f0 Iq114 Aq114) _ _ _
              refine jt_aload_n d_GM_equate_160 rfl ?_
              refine gm_gI (k := 15) (v := Iq114 15) d_GM_equate_161 GM_f55 (by decide) rfl ?_
              have rb115 : 0 ≤ Iq114 15 ∧ Iq114 15 ≤ 1 := hpq114.1 15
              refine jt_if_eq (t := 174) d_GM_equate_164 rfl (by unfold jRi; omega) (fun c116 => ?_) (fun c116 => ?_)
              · skip
                exact gm_vret d_GM_equate_174 rfl (⟨rfl, hpq114⟩)
              · skip
                refine jt_aload_n d_GM_equate_167 rfl ?_
                refine jt_bipush d_GM_equate_168 (by omega) ?_
                refine jt_iload_n d_GM_equate_170 rfl ?_
                refine gct_call (Y := Y_GM_stop) (As := [.int (jI (-9)), .int (jI e)]) (rest := []) d_GM_equate_171 GM_c164 yk_GM_stop yv_GM_stop rfl (Nat.le_of_ble_eq_true rfl) rfl rfl (Nat.le_of_ble_eq_true rfl) (c_GM_stop G _ m (-9) e Iq114 Aq114) (fun rvq117 Iq117 Aq117 hq117 => ?_)
                obtain ⟨rfl, hIq117, hAq117⟩ := hq117
                rw [hIq117, hAq117]
                have p118 := gPo.I 5 (-9) hpq114 rfl (show -13 ≤ -9 ∧ -9 ≤ 0 by omega)
                have p119 := gPo.I 6 e p118 rfl (show -2147483648 ≤ e ∧ e ≤ 2147483647 by omega)
                show jt _ 174 [(0, .ref m), (1, .int (jI f)), (2, .int (jI g)), (3, .int (jI e)), (4, .int (jI yq112))] [] (gmf m f0 (va_up (va_up Iq114 5 (-9)) 6 e) Aq114) _ _ _
                exact gm_vret d_GM_equate_174 rfl (⟨rfl, p119⟩)
            · skip
              refine jt_aload_n d_GM_equate_144 rfl ?_
              refine jt_bipush d_GM_equate_145 (by omega) ?_
              refine jt_iload_n d_GM_equate_147 rfl ?_
              refine gct_call (Y := Y_GM_stop) (As := [.int (jI (-11)), .int (jI e)]) (rest := []) d_GM_equate_148 GM_c164 yk_GM_stop yv_GM_stop rfl (Nat.le_of_ble_eq_true rfl) rfl rfl (Nat.le_of_ble_eq_true rfl) (c_GM_stop G _ m (-11) e Iq112 Aq112) (fun rvq120 Iq120 Aq120 hq120 => ?_)
              obtain ⟨rfl, hIq120, hAq120⟩ := hq120
              rw [hIq120, hAq120]
              have p121 := gPo.I 5 (-11) hpq112 rfl (show -13 ≤ -11 ∧ -11 ≤ 0 by omega)
              have p122 := gPo.I 6 e p121 rfl (show -2147483648 ≤ e ∧ e ≤ 2147483647 by omega)
              show jt _ 151 [(0, .ref m), (1, .int (jI f)), (2, .int (jI g)), (3, .int (jI e)), (4, .int (jI yq112))] [] (gmf m f0 (va_up (va_up Iq112 5 (-11)) 6 e) Aq112) _ _ _
              refine jt_goto (t := 160) d_GM_equate_151 rfl ?_
              refine jt_aload_n d_GM_equate_160 rfl ?_
              refine gm_gI (k := 15) (v := Iq112 15) d_GM_equate_161 GM_f55 (by decide) rfl ?_
              have rb123 : 0 ≤ Iq112 15 ∧ Iq112 15 ≤ 1 := p122.1 15
              refine jt_if_eq (t := 174) d_GM_equate_164 rfl (by unfold jRi; omega) (fun c124 => ?_) (fun c124 => ?_)
              · skip
                exact gm_vret d_GM_equate_174 rfl (⟨rfl, p122⟩)
              · skip
                refine jt_aload_n d_GM_equate_167 rfl ?_
                refine jt_bipush d_GM_equate_168 (by omega) ?_
                refine jt_iload_n d_GM_equate_170 rfl ?_
                refine gct_call (Y := Y_GM_stop) (As := [.int (jI (-9)), .int (jI e)]) (rest := []) d_GM_equate_171 GM_c164 yk_GM_stop yv_GM_stop rfl (Nat.le_of_ble_eq_true rfl) rfl rfl (Nat.le_of_ble_eq_true rfl) (c_GM_stop G _ m (-9) e (va_up (va_up Iq112 5 (-11)) 6 e) Aq112) (fun rvq125 Iq125 Aq125 hq125 => ?_)
                obtain ⟨rfl, hIq125, hAq125⟩ := hq125
                rw [hIq125, hAq125]
                have p126 := gPo.I 5 (-9) p122 rfl (show -13 ≤ -9 ∧ -9 ≤ 0 by omega)
                have p127 := gPo.I 6 e p126 rfl (show -2147483648 ≤ e ∧ e ≤ 2147483647 by omega)
                show jt _ 174 [(0, .ref m), (1, .int (jI f)), (2, .int (jI g)), (3, .int (jI e)), (4, .int (jI yq112))] [] (gmf m f0 (va_up (va_up (va_up (va_up Iq112 5 (-11)) 6 e) 5 (-9)) 6 e) Aq112) _ _ _
                exact gm_vret d_GM_equate_174 rfl (⟨rfl, p127⟩)
          · skip
            exfalso
            omega
      · skip
        refine jt_aload_n d_GM_equate_87 rfl ?_
        refine jt_bipush d_GM_equate_88 (by omega) ?_
        refine jt_iload_n d_GM_equate_90 rfl ?_
        refine gct_call (Y := Y_GM_stop) (As := [.int (jI (-9)), .int (jI e)]) (rest := []) d_GM_equate_91 GM_c164 yk_GM_stop yv_GM_stop rfl (Nat.le_of_ble_eq_true rfl) rfl rfl (Nat.le_of_ble_eq_true rfl) (c_GM_stop G _ m (-9) e J B) (fun rvq128 Iq128 Aq128 hq128 => ?_)
        obtain ⟨rfl, hIq128, hAq128⟩ := hq128
        rw [hIq128, hAq128]
        have p129 := gPo.I 5 (-9) hJ rfl (show -13 ≤ -9 ∧ -9 ≤ 0 by omega)
        have p130 := gPo.I 6 e p129 rfl (show -2147483648 ≤ e ∧ e ≤ 2147483647 by omega)
        show jt _ 94 [(0, .ref m), (1, .int (jI f)), (2, .int (jI g)), (3, .int (jI e)), (4, .int (jI i))] [] (gmf m f0 (va_up (va_up J 5 (-9)) 6 e) B) _ _ _
        refine jt_goto (t := 174) d_GM_equate_94 rfl ?_
        exact gm_vret d_GM_equate_174 rfl (⟨rfl, p130⟩)
    · skip
      refine jt_aload_n d_GM_equate_40 rfl ?_
      refine gm_gA (k := 35) (a := m + 20) d_GM_equate_41 GM_f118 (by decide) (by decide) rfl ?_
      refine jt_sipush d_GM_equate_44 (by omega) ?_
      refine jt_iload d_GM_equate_47 rfl ?_
      refine jt_iadd d_GM_equate_49 ?_
      refine jt_aload_n d_GM_equate_50 rfl ?_
      refine gm_gA (k := 35) (a := m + 20) d_GM_equate_51 GM_f118 (by decide) (by decide) rfl ?_
      refine jt_sipush d_GM_equate_54 (by omega) ?_
      refine jt_iload d_GM_equate_57 rfl ?_
      refine jt_iadd d_GM_equate_59 ?_
      refine gm_ld1 (k := 35) (n := 5200) (v := (B 35) (5148 + i)) d_GM_equate_60 rfl (by decide) (by decide) rfl rfl (by omega) (by omega) (by omega) rfl ?_
      refine jt_topl (fun v131 ev131 => ?_)
      have bv131 : (-9223372036854775808) ≤ v131 ∧ v131 ≤ 9223372036854775807 := by rw [ev131]; exact hJ.2.1 35 (5148 + i)
      refine jt_aload_n d_GM_equate_61 rfl ?_
      refine gm_gA (k := 35) (a := m + 20) d_GM_equate_62 GM_f118 (by decide) (by decide) rfl ?_
      refine jt_sipush d_GM_equate_65 (by omega) ?_
      refine jt_iload d_GM_equate_68 rfl ?_
      refine jt_iadd d_GM_equate_70 ?_
      refine gm_ld1 (k := 35) (n := 5200) (v := (B 35) (5187 + i)) d_GM_equate_71 rfl (by decide) (by decide) rfl rfl (by omega) (by omega) (by omega) rfl ?_
      refine jt_topl (fun v132 ev132 => ?_)
      have bv132 : (-9223372036854775808) ≤ v132 ∧ v132 ≤ 9223372036854775807 := by rw [ev132]; exact hJ.2.1 35 (5187 + i)
      refine jt_lsub d_GM_equate_72 ?_
      refine jt_toplw (fun v133 bv133 => ?_)
      refine gm_st1 (k := 35) (n := 5200) (B := va_up B 35 (ju (B 35) (5187 + i) v133)) d_GM_equate_73 rfl (by decide) (by decide) rfl rfl (by omega) (by omega) (by omega) rfl ?_
      have p134 := gPo.A 35 (ju (B 35) (5187 + i) v133) hJ rfl (gju (hJ.2.1 35) (show -9223372036854775808 ≤ v133 ∧ v133 ≤ 9223372036854775807 by omega))
      refine jt_iinc (L' := [(0, .ref m), (1, .int (jI f)), (2, .int (jI g)), (3, .int (jI e)), (4, .int (jI (i + 1)))]) d_GM_equate_74 rfl (Nat.le_of_ble_eq_true rfl) rfl ?_
      refine jt_goto (t := 33) d_GM_equate_77 rfl ?_
      exact ih (i + 1) J (va_up B 35 (ju (B 35) (5187 + i) v133)) p134 (by omega) (by omega) (by omega)
set_option maxRecDepth 100000 in
set_option maxHeartbeats 1000000 in
theorem w_GM_equate (G : jG) (d m : Nat) (f : Int) (g : Int) (e : Int) (I : Nat → Int) (A : Nat → Int → Int) (hI : gSI I) (hA : gSA A) (fa : 0 ≤ f) (fb : f < 300) (g0 : 0 ≤ g) (g1 : g < 300) (he : -2147483648 ≤ e ∧ e ≤ 2147483647) : gct G Y_GM_equate (d + 3) m [.int (jI f), .int (jI g), .int (jI e)] I A (fun (rv : Option Value) (I2 : Nat → Int) (A2 : Nat → Int → Int) => rv = none ∧ gPo [5, 6, 15] [30, 31, 33, 34, 35] I A I2 A2) := by
  refine gct_of (by decide) (Nat.le_of_ble_eq_true rfl) (fun f0 sz => ?_)
  show jt _ 0 [(0, .ref m), (1, .int (jI f)), (2, .int (jI g)), (3, .int (jI e))] [] _ _ _ _
  have hz0 : gPo [5, 6, 15] [30, 31, 33, 34, 35] I A I A := gPo.refl hI hA
  refine jt_aload_n d_GM_equate_0 rfl ?_
  refine jt_sipush d_GM_equate_1 (by omega) ?_
  refine jt_iload_n d_GM_equate_4 rfl ?_
  refine gct_call (Y := Y_GM_copyForm) (As := [.int (jI 396), .int (jI f)]) (rest := []) d_GM_equate_5 GM_c247 yk_GM_copyForm yv_GM_copyForm rfl (Nat.le_of_ble_eq_true rfl) rfl rfl (Nat.le_of_ble_eq_true rfl) (w_GM_copyForm G _ m 396 f I A hz0.1 hz0.2.1 (by omega) (by omega) (by omega) (by omega) (by omega)) (fun rvq1 Iq1 Aq1 hq1 => ?_)
  obtain ⟨rfl, hqq1⟩ := hq1
  have hpq1 := gPo.trans hz0 hqq1 rfl rfl
  have f1q1 : Iq1 1 = I 1 := hpq1.2.2.1 1 rfl
  show jt _ 8 [(0, .ref m), (1, .int (jI f)), (2, .int (jI g)), (3, .int (jI e))] [] (gmf m f0 Iq1 Aq1) _ _ _
  refine jt_aload_n d_GM_equate_8 rfl ?_
  refine jt_sipush d_GM_equate_9 (by omega) ?_
  refine gct_call (Y := Y_GM_refresh) (As := [.int (jI 396)]) (rest := []) d_GM_equate_12 GM_c307 yk_GM_refresh yv_GM_refresh rfl (Nat.le_of_ble_eq_true rfl) rfl rfl (Nat.le_of_ble_eq_true rfl) (w_GM_refresh G _ m 396 Iq1 Aq1 hpq1.1 hpq1.2.1 (by omega) (by omega) (by omega)) (fun rvq2 Iq2 Aq2 hq2 => ?_)
  obtain ⟨rfl, hqq2⟩ := hq2
  have hpq2 := gPo.trans hpq1 hqq2 rfl rfl
  have f1q2 : Iq2 1 = I 1 := hpq2.2.2.1 1 rfl
  show jt _ 15 [(0, .ref m), (1, .int (jI f)), (2, .int (jI g)), (3, .int (jI e))] [] (gmf m f0 Iq2 Aq2) _ _ _
  refine jt_aload_n d_GM_equate_15 rfl ?_
  refine jt_sipush d_GM_equate_16 (by omega) ?_
  refine jt_iload_n d_GM_equate_19 rfl ?_
  refine gct_call (Y := Y_GM_copyForm) (As := [.int (jI 399), .int (jI g)]) (rest := []) d_GM_equate_20 GM_c247 yk_GM_copyForm yv_GM_copyForm rfl (Nat.le_of_ble_eq_true rfl) rfl rfl (Nat.le_of_ble_eq_true rfl) (w_GM_copyForm G _ m 399 g Iq2 Aq2 hpq2.1 hpq2.2.1 (by omega) (by omega) (by omega) (by omega) (by omega)) (fun rvq3 Iq3 Aq3 hq3 => ?_)
  obtain ⟨rfl, hqq3⟩ := hq3
  have hpq3 := gPo.trans hpq2 hqq3 rfl rfl
  have f1q3 : Iq3 1 = I 1 := hpq3.2.2.1 1 rfl
  show jt _ 23 [(0, .ref m), (1, .int (jI f)), (2, .int (jI g)), (3, .int (jI e))] [] (gmf m f0 Iq3 Aq3) _ _ _
  refine jt_aload_n d_GM_equate_23 rfl ?_
  refine jt_sipush d_GM_equate_24 (by omega) ?_
  refine gct_call (Y := Y_GM_refresh) (As := [.int (jI 399)]) (rest := []) d_GM_equate_27 GM_c307 yk_GM_refresh yv_GM_refresh rfl (Nat.le_of_ble_eq_true rfl) rfl rfl (Nat.le_of_ble_eq_true rfl) (w_GM_refresh G _ m 399 Iq3 Aq3 hpq3.1 hpq3.2.1 (by omega) (by omega) (by omega)) (fun rvq4 Iq4 Aq4 hq4 => ?_)
  obtain ⟨rfl, hqq4⟩ := hq4
  have hpq4 := gPo.trans hpq3 hqq4 rfl rfl
  have f1q4 : Iq4 1 = I 1 := hpq4.2.2.1 1 rfl
  show jt _ 30 [(0, .ref m), (1, .int (jI f)), (2, .int (jI g)), (3, .int (jI e))] [] (gmf m f0 Iq4 Aq4) _ _ _
  refine jt_iconst d_GM_equate_30 ?_
  refine jt_istore (L' := [(0, .ref m), (1, .int (jI f)), (2, .int (jI g)), (3, .int (jI e)), (4, .int (jI 0))]) d_GM_equate_31 (Nat.le_of_ble_eq_true rfl) rfl ?_
  exact l33_GM_equatew G d m f g e I A hI hA fa fb g0 g1 he f0 sz  14 0 Iq4 Aq4 hpq4 (by omega) (by omega) (by omega)

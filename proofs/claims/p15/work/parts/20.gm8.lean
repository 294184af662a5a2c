/-- the macros as they may stand; the arrays of a row hold P as far as there is room -/
def gMac (A : Nat → Int → Int) : Prop := ∀ q, 0 ≤ q → q ≤ 5 → -1 ≤ A 20 q ∧ A 20 q ≤ 40 ∧ 0 ≤ A 21 q ∧ A 21 q ≤ 3 ∧ ∀ c, q * 40 ≤ c → c < q * 40 + A 20 q → gtok (A 18 c) (A 19 c) ∧ (A 18 c = 2 → A 19 c < A 21 q)
def gpl (I : Nat → Int) (A : Nat → Int → Int) (k n : Int) : Int := if 0 < n then gAq I A k n.toNat else k + 1
theorem gAq_le (I : Nat → Int) (A : Nat → Int → Int) (k n : Int) (h : gAok I A k n) : ∀ i : Nat, (i : Int) ≤ n → k < gAq I A k i ∧ (0 < i → gAq I A k i ≤ I 1)
  | 0, _ => ⟨by show k < k + 2; omega, fun z => absurd z (by omega)⟩
  | i + 1, hi => by
    have h1 := gAq_le I A k n h i (by omega)
    have h2 := (h.2 (i : Int) (by omega) (by omega)).1
    have h3 := gAe_le I A (gAq I A k i)
    simp only [Int.toNat_natCast] at h2
    show k < gAe I A (gAq I A k i) + 1 ∧ (0 < i + 1 → gAe I A (gAq I A k i) + 1 ≤ I 1)
    omega
theorem g22i (A : Nat → Int → Int) : A = va_up (va_up (va_up A 22 (A 22)) 23 (A 23)) 24 (A 24) := (gup_id A 22).trans ((gup_id (va_up A 22 (A 22)) 23).trans (gup_id (va_up (va_up A 22 (A 22)) 23 (A 23)) 24))
set_option maxRecDepth 100000 in
set_option maxHeartbeats 4000000 in
theorem l112_GM_call (G : jG) (d m : Nat) (k : Int) (q : Int) (I : Nat → Int) (A : Nat → Int → Int)  (hR : gRw I A) (hr : I 1 ≤ 300) (hd : ∀ j, 0 ≤ j → j < I 1 → 0 ≤ A 24 j ∧ A 24 j ≤ 6) (hM : gMac A) (k0 : 0 ≤ k) (k1 : k < I 1) (q0 : 0 ≤ q) (q1 : q ≤ 5) (he : I 5 = 0) (h20 : 0 ≤ I 2) (h21 : I 2 ≤ 100) (f0 : jF) (sz : Nat) (p : Int) (J : Nat → Int) (B : Nat → Int → Int) (n : Int) (P : List (Int × Int × Int)) (j1 : J 1 = n) (j2 : 0 ≤ J 2) (j3 : J 2 ≤ 101) (n0 : 0 ≤ n) (n1 : n ≤ 13000) (hP : (P.length : Int) = n) (hB : gH (B 25) (B 26) (B 27) P) (hq : ∀ U V W : Int → Int, gH U V W P → (300 < n ∨ J 2 = 101 → (fun (rv : Option Value) (I2 : Nat → Int) (A2 : Nat → Int → Int) => rv = none ∧ (A 20 q < 0 → I2 = va_up (va_up I 5 (-4)) 6 k ∧ A2 = A) ∧ (¬ A 20 q < 0 → A 24 k = 6 → I2 = va_up (va_up I 5 (-5)) 6 k ∧ A2 = A) ∧ (¬ A 20 q < 0 → ¬ A 24 k = 6 → 0 < A 21 q → ¬ gAok I A k (A 21 q) → I2 = va_up (va_up I 5 (-6)) 6 k ∧ ∃ X Y : Int → Int, A2 = va_up (va_up A 28 X) 29 Y) ∧ (¬ A 20 q < 0 → ¬ A 24 k = 6 → (0 < A 21 q → gAok I A k (A 21 q)) → ∃ (X Y : Int → Int) (B : Nat → Int → Int), (∀ j, 0 ≤ j → j < A 21 q → X j = gAq I A k j.toNat ∧ Y j = gAe I A (gAq I A k j.toNat)) ∧ (∀ z, z ≠ 22 → z ≠ 23 → z ≠ 24 → z ≠ 25 → z ≠ 26 → z ≠ 27 → z ≠ 28 → z ≠ 29 → B z = A z) ∧ gH (B 22) (B 23) (B 24) (gnew I (va_up (va_up A 28 X) 29 Y) k (gpl I A k (A 21 q)) q) ∧ A2 = B ∧ (300 < ((gnew I (va_up (va_up A 28 X) 29 Y) k (gpl I A k (A 21 q)) q).length : Int) ∨ I 2 + 1 = 101 → I2 = va_up (va_up (va_up (va_up I 2 (I 2 + 1)) 1 ((gnew I (va_up (va_up A 28 X) 29 Y) k (gpl I A k (A 21 q)) q).length : Int)) 5 (-7)) 6 k) ∧ (¬ (300 < ((gnew I (va_up (va_up A 28 X) 29 Y) k (gpl I A k (A 21 q)) q).length : Int) ∨ I 2 + 1 = 101) → I2 = va_up (va_up I 2 (I 2 + 1)) 1 ((gnew I (va_up (va_up A 28 X) 29 Y) k (gpl I A k (A 21 q)) q).length : Int)))) none (va_up (va_up J 5 (-7)) 6 k) (va_up (va_up (va_up B 22 U) 23 V) 24 W)) ∧ (¬ (300 < n ∨ J 2 = 101) → (fun (rv : Option Value) (I2 : Nat → Int) (A2 : Nat → Int → Int) => rv = none ∧ (A 20 q < 0 → I2 = va_up (va_up I 5 (-4)) 6 k ∧ A2 = A) ∧ (¬ A 20 q < 0 → A 24 k = 6 → I2 = va_up (va_up I 5 (-5)) 6 k ∧ A2 = A) ∧ (¬ A 20 q < 0 → ¬ A 24 k = 6 → 0 < A 21 q → ¬ gAok I A k (A 21 q) → I2 = va_up (va_up I 5 (-6)) 6 k ∧ ∃ X Y : Int → Int, A2 = va_up (va_up A 28 X) 29 Y) ∧ (¬ A 20 q < 0 → ¬ A 24 k = 6 → (0 < A 21 q → gAok I A k (A 21 q)) → ∃ (X Y : Int → Int) (B : Nat → Int → Int), (∀ j, 0 ≤ j → j < A 21 q → X j = gAq I A k j.toNat ∧ Y j = gAe I A (gAq I A k j.toNat)) ∧ (∀ z, z ≠ 22 → z ≠ 23 → z ≠ 24 → z ≠ 25 → z ≠ 26 → z ≠ 27 → z ≠ 28 → z ≠ 29 → B z = A z) ∧ gH (B 22) (B 23) (B 24) (gnew I (va_up (va_up A 28 X) 29 Y) k (gpl I A k (A 21 q)) q) ∧ A2 = B ∧ (300 < ((gnew I (va_up (va_up A 28 X) 29 Y) k (gpl I A k (A 21 q)) q).length : Int) ∨ I 2 + 1 = 101 → I2 = va_up (va_up (va_up (va_up I 2 (I 2 + 1)) 1 ((gnew I (va_up (va_up A 28 X) 29 Y) k (gpl I A k (A 21 q)) q).length : Int)) 5 (-7)) 6 k) ∧ (¬ (300 < ((gnew I (va_up (va_up A 28 X) 29 Y) k (gpl I A k (A 21 q)) q).length : Int) ∨ I 2 + 1 = 101) → I2 = va_up (va_up I 2 (I 2 + 1)) 1 ((gnew I (va_up (va_up A 28 X) 29 Y) k (gpl I A k (A 21 q)) q).length : Int)))) none J (va_up (va_up (va_up B 22 U) 23 V) 24 W))) : ∀ (n9 : Nat) (i : Int) (U : Int → Int) (V : Int → Int) (W : Int → Int), (0 ≤ i) → (i ≤ 700) → (∀ z, U z = if 0 ≤ z ∧ z < i then B 25 z else B 22 z) → (∀ z, V z = if 0 ≤ z ∧ z < i then B 26 z else B 23 z) → (∀ z, W z = if 0 ≤ z ∧ z < i then B 27 z else B 24 z) → 700 - i < (n9 : Int) → jt (jm G Y_GM_call (gR (d + 2)) (gQ m f0 sz (fun (rv : Option Value) (I2 : Nat → Int) (A2 : Nat → Int → Int) => rv = none ∧ (A 20 q < 0 → I2 = va_up (va_up I 5 (-4)) 6 k ∧ A2 = A) ∧ (¬ A 20 q < 0 → A 24 k = 6 → I2 = va_up (va_up I 5 (-5)) 6 k ∧ A2 = A) ∧ (¬ A 20 q < 0 → ¬ A 24 k = 6 → 0 < A 21 q → ¬ gAok I A k (A 21 q) → I2 = va_up (va_up I 5 (-6)) 6 k ∧ ∃ X Y : Int → Int, A2 = va_up (va_up A 28 X) 29 Y) ∧ (¬ A 20 q < 0 → ¬ A 24 k = 6 → (0 < A 21 q → gAok I A k (A 21 q)) → ∃ (X Y : Int → Int) (B : Nat → Int → Int), (∀ j, 0 ≤ j → j < A 21 q → X j = gAq I A k j.toNat ∧ Y j = gAe I A (gAq I A k j.toNat)) ∧ (∀ z, z ≠ 22 → z ≠ 23 → z ≠ 24 → z ≠ 25 → z ≠ 26 → z ≠ 27 → z ≠ 28 → z ≠ 29 → B z = A z) ∧ gH (B 22) (B 23) (B 24) (gnew I (va_up (va_up A 28 X) 29 Y) k (gpl I A k (A 21 q)) q) ∧ A2 = B ∧ (300 < ((gnew I (va_up (va_up A 28 X) 29 Y) k (gpl I A k (A 21 q)) q).length : Int) ∨ I 2 + 1 = 101 → I2 = va_up (va_up (va_up (va_up I 2 (I 2 + 1)) 1 ((gnew I (va_up (va_up A 28 X) 29 Y) k (gpl I A k (A 21 q)) q).length : Int)) 5 (-7)) 6 k) ∧ (¬ (300 < ((gnew I (va_up (va_up A 28 X) 29 Y) k (gpl I A k (A 21 q)) q).length : Int) ∨ I 2 + 1 = 101) → I2 = va_up (va_up I 2 (I 2 + 1)) 1 ((gnew I (va_up (va_up A 28 X) 29 Y) k (gpl I A k (A 21 q)) q).length : Int)))))) 112 [(0, .ref m), (1, .int (jI k)), (2, .int (jI q)), (3, .int (jI p)), (4, .int (jI n)), (5, .int (jI i))] [] (gmf m f0 J (va_up (va_up (va_up B 22 U) 23 V) 24 W)) sz 0 0 := by
  obtain ⟨r0, r1, rt⟩ := id hR
  obtain ⟨m0, m1, m2, m3, m4⟩ := hM q q0 q1
  have hdk := hd k k0 k1
  intro n9
  induction n9 with
  | zero =>
    intro i U V W i0 i1 hU hV hW hmeas
    exfalso
    omega
  | succ n9 ih =>
    intro i U V W i0 i1 hU hV hW hmeas
    refine jt_iload d_GM_call_112 rfl ?_
    refine jt_aload_n d_GM_call_114 rfl ?_
    refine gm_gI (k := 1) (v := J 1) d_GM_call_115 GM_f13 (by decide) rfl ?_
    refine jt_icmp_ge (t := 177) d_GM_call_118 rfl (by unfold jRi; omega) (by unfold jRi; omega) (fun c101 => ?_) (fun c101 => ?_)
    · skip
      have hh : gH U V W P := fun j t ht hj => by
        have hlt : j < P.length := (List.getElem?_eq_some_iff.mp ht).1
        rw [hU, hV, hW, if_pos (by omega), if_pos (by omega), if_pos (by omega)]
        exact hB j t ht hj
      refine jt_aload_n d_GM_call_177 rfl ?_
      refine gm_gI (k := 1) (v := J 1) d_GM_call_178 GM_f13 (by decide) rfl ?_
      refine jt_sipush d_GM_call_181 (by omega) ?_
      refine jt_icmp_gt (t := 196) d_GM_call_184 rfl (by unfold jRi; omega) (by unfold jRi; omega) (fun c102 => ?_) (fun c102 => ?_)
      · skip
        refine jt_aload_n d_GM_call_196 rfl ?_
        refine jt_bipush d_GM_call_197 (by omega) ?_
        refine jt_iload_n d_GM_call_199 rfl ?_
        refine gct_call (Y := Y_GM_stop) (As := [.int (jI (-7)), .int (jI k)]) (rest := []) d_GM_call_200 GM_c164 yk_GM_stop yv_GM_stop rfl (Nat.le_of_ble_eq_true rfl) rfl rfl (Nat.le_of_ble_eq_true rfl) (c_GM_stop G _ m (-7) k J (va_up (va_up (va_up B 22 U) 23 V) 24 W)) (fun rvq103 Iq103 Aq103 hq103 => ?_)
        obtain ⟨rfl, hIq103, hAq103⟩ := hq103
        rw [hIq103, hAq103]
        show jt _ 203 [(0, .ref m), (1, .int (jI k)), (2, .int (jI q)), (3, .int (jI p)), (4, .int (jI n)), (5, .int (jI i))] [] (gmf m f0 (va_up (va_up J 5 (-7)) 6 k) (va_up (va_up (va_up B 22 U) 23 V) 24 W)) _ _ _
        exact gm_vret d_GM_call_203 rfl ((hq U V W hh).1 (by omega))
      · skip
        refine jt_aload_n d_GM_call_187 rfl ?_
        refine gm_gI (k := 2) (v := J 2) d_GM_call_188 GM_f16 (by decide) rfl ?_
        refine jt_bipush d_GM_call_191 (by omega) ?_
        refine jt_icmp_ne (t := 203) d_GM_call_193 rfl (by unfold jRi; omega) (by unfold jRi; omega) (fun c104 => ?_) (fun c104 => ?_)
        · skip
          exact gm_vret d_GM_call_203 rfl ((hq U V W hh).2 (by omega))
        · skip
          refine jt_aload_n d_GM_call_196 rfl ?_
          refine jt_bipush d_GM_call_197 (by omega) ?_
          refine jt_iload_n d_GM_call_199 rfl ?_
          refine gct_call (Y := Y_GM_stop) (As := [.int (jI (-7)), .int (jI k)]) (rest := []) d_GM_call_200 GM_c164 yk_GM_stop yv_GM_stop rfl (Nat.le_of_ble_eq_true rfl) rfl rfl (Nat.le_of_ble_eq_true rfl) (c_GM_stop G _ m (-7) k J (va_up (va_up (va_up B 22 U) 23 V) 24 W)) (fun rvq105 Iq105 Aq105 hq105 => ?_)
          obtain ⟨rfl, hIq105, hAq105⟩ := hq105
          rw [hIq105, hAq105]
          show jt _ 203 [(0, .ref m), (1, .int (jI k)), (2, .int (jI q)), (3, .int (jI p)), (4, .int (jI n)), (5, .int (jI i))] [] (gmf m f0 (va_up (va_up J 5 (-7)) 6 k) (va_up (va_up (va_up B 22 U) 23 V) 24 W)) _ _ _
          exact gm_vret d_GM_call_203 rfl ((hq U V W hh).1 (by omega))
    · skip
      refine jt_iload d_GM_call_121 rfl ?_
      refine jt_sipush d_GM_call_123 (by omega) ?_
      refine jt_icmp_ge (t := 177) d_GM_call_126 rfl (by unfold jRi; omega) (by unfold jRi; omega) (fun c106 => ?_) (fun c106 => ?_)
      · skip
        have hh : gH U V W P := fun j t ht hj => by
          have hlt : j < P.length := (List.getElem?_eq_some_iff.mp ht).1
          rw [hU, hV, hW, if_pos (by omega), if_pos (by omega), if_pos (by omega)]
          exact hB j t ht hj
        refine jt_aload_n d_GM_call_177 rfl ?_
        refine gm_gI (k := 1) (v := J 1) d_GM_call_178 GM_f13 (by decide) rfl ?_
        refine jt_sipush d_GM_call_181 (by omega) ?_
        refine jt_icmp_gt (t := 196) d_GM_call_184 rfl (by unfold jRi; omega) (by unfold jRi; omega) (fun c107 => ?_) (fun c107 => ?_)
        · skip
          refine jt_aload_n d_GM_call_196 rfl ?_
          refine jt_bipush d_GM_call_197 (by omega) ?_
          refine jt_iload_n d_GM_call_199 rfl ?_
          refine gct_call (Y := Y_GM_stop) (As := [.int (jI (-7)), .int (jI k)]) (rest := []) d_GM_call_200 GM_c164 yk_GM_stop yv_GM_stop rfl (Nat.le_of_ble_eq_true rfl) rfl rfl (Nat.le_of_ble_eq_true rfl) (c_GM_stop G _ m (-7) k J (va_up (va_up (va_up B 22 U) 23 V) 24 W)) (fun rvq108 Iq108 Aq108 hq108 => ?_)
          obtain ⟨rfl, hIq108, hAq108⟩ := hq108
          rw [hIq108, hAq108]
          show jt _ 203 [(0, .ref m), (1, .int (jI k)), (2, .int (jI q)), (3, .int (jI p)), (4, .int (jI n)), (5, .int (jI i))] [] (gmf m f0 (va_up (va_up J 5 (-7)) 6 k) (va_up (va_up (va_up B 22 U) 23 V) 24 W)) _ _ _
          exact gm_vret d_GM_call_203 rfl ((hq U V W hh).1 (by omega))
        · skip
          refine jt_aload_n d_GM_call_187 rfl ?_
          refine gm_gI (k := 2) (v := J 2) d_GM_call_188 GM_f16 (by decide) rfl ?_
          refine jt_bipush d_GM_call_191 (by omega) ?_
          refine jt_icmp_ne (t := 203) d_GM_call_193 rfl (by unfold jRi; omega) (by unfold jRi; omega) (fun c109 => ?_) (fun c109 => ?_)
          · skip
            exact gm_vret d_GM_call_203 rfl ((hq U V W hh).2 (by omega))
          · skip
            refine jt_aload_n d_GM_call_196 rfl ?_
            refine jt_bipush d_GM_call_197 (by omega) ?_
            refine jt_iload_n d_GM_call_199 rfl ?_
            refine gct_call (Y := Y_GM_stop) (As := [.int (jI (-7)), .int (jI k)]) (rest := []) d_GM_call_200 GM_c164 yk_GM_stop yv_GM_stop rfl (Nat.le_of_ble_eq_true rfl) rfl rfl (Nat.le_of_ble_eq_true rfl) (c_GM_stop G _ m (-7) k J (va_up (va_up (va_up B 22 U) 23 V) 24 W)) (fun rvq110 Iq110 Aq110 hq110 => ?_)
            obtain ⟨rfl, hIq110, hAq110⟩ := hq110
            rw [hIq110, hAq110]
            show jt _ 203 [(0, .ref m), (1, .int (jI k)), (2, .int (jI q)), (3, .int (jI p)), (4, .int (jI n)), (5, .int (jI i))] [] (gmf m f0 (va_up (va_up J 5 (-7)) 6 k) (va_up (va_up (va_up B 22 U) 23 V) 24 W)) _ _ _
            exact gm_vret d_GM_call_203 rfl ((hq U V W hh).1 (by omega))
      · skip
        refine jt_aload_n d_GM_call_129 rfl ?_
        refine gm_gA (k := 22) (a := m + 7) d_GM_call_130 GM_f78 (by decide) (by decide) rfl ?_
        refine jt_iload d_GM_call_133 rfl ?_
        refine jt_aload_n d_GM_call_135 rfl ?_
        refine gm_gA (k := 25) (a := m + 10) d_GM_call_136 GM_f87 (by decide) (by decide) rfl ?_
        refine jt_iload d_GM_call_139 rfl ?_
        refine gm_ld0 (k := 25) (n := 700) (v := (B 25) i) d_GM_call_141 rfl (by decide) (by decide) rfl rfl (by omega) (by omega) (by omega) rfl ?_
        refine jt_topi (fun v111 ev111 => ?_)
        refine gm_st0 (k := 22) (n := 700) (B := va_up (va_up (va_up B 22 (ju U i v111)) 23 V) 24 W) d_GM_call_142 rfl (by decide) (by decide) rfl rfl (by omega) (by omega) (by omega) (gup4 _ _ _ _ _ (by decide) (by decide)) ?_
        refine jt_aload_n d_GM_call_143 rfl ?_
        refine gm_gA (k := 23) (a := m + 8) d_GM_call_144 GM_f81 (by decide) (by decide) rfl ?_
        refine jt_iload d_GM_call_147 rfl ?_
        refine jt_aload_n d_GM_call_149 rfl ?_
        refine gm_gA (k := 26) (a := m + 11) d_GM_call_150 GM_f90 (by decide) (by decide) rfl ?_
        refine jt_iload d_GM_call_153 rfl ?_
        refine gm_ld0 (k := 26) (n := 700) (v := (B 26) i) d_GM_call_155 rfl (by decide) (by decide) rfl rfl (by omega) (by omega) (by omega) rfl ?_
        refine jt_topi (fun v112 ev112 => ?_)
        refine gm_st0 (k := 23) (n := 700) (B := va_up (va_up (va_up B 22 (ju U i v111)) 23 (ju V i v112)) 24 W) d_GM_call_156 rfl (by decide) (by decide) rfl rfl (by omega) (by omega) (by omega) (gup3 _ _ _ _ (by decide)) ?_
        refine jt_aload_n d_GM_call_157 rfl ?_
        refine gm_gA (k := 24) (a := m + 9) d_GM_call_158 GM_f84 (by decide) (by decide) rfl ?_
        refine jt_iload d_GM_call_161 rfl ?_
        refine jt_aload_n d_GM_call_163 rfl ?_
        refine gm_gA (k := 27) (a := m + 12) d_GM_call_164 GM_f93 (by decide) (by decide) rfl ?_
        refine jt_iload d_GM_call_167 rfl ?_
        refine gm_ld0 (k := 27) (n := 700) (v := (B 27) i) d_GM_call_169 rfl (by decide) (by decide) rfl rfl (by omega) (by omega) (by omega) rfl ?_
        refine jt_topi (fun v113 ev113 => ?_)
        refine gm_st0 (k := 24) (n := 700) (B := va_up (va_up (va_up B 22 (ju U i v111)) 23 (ju V i v112)) 24 (ju W i v113)) d_GM_call_170 rfl (by decide) (by decide) rfl rfl (by omega) (by omega) (by omega) (bx_uu _ _ _ _) ?_
        refine jt_iinc (L' := [(0, .ref m), (1, .int (jI k)), (2, .int (jI q)), (3, .int (jI p)), (4, .int (jI n)), (5, .int (jI (i + 1)))]) d_GM_call_171 rfl (Nat.le_of_ble_eq_true rfl) rfl ?_
        refine jt_goto (t := 112) d_GM_call_174 rfl ?_
        refine ih _ _ _ _ (by omega) (by omega) (fun z => ?_) (fun z => ?_) (fun z => ?_) (by omega)
        · unfold ju
          by_cases hz : z = i
          · rw [if_pos hz, if_pos (by omega), ev111, hz]
          · rw [if_neg hz, hU z]
            by_cases hy : 0 ≤ z ∧ z < i
            · rw [if_pos hy, if_pos (by omega)]
            · rw [if_neg hy, if_neg (by omega)]
        · unfold ju
          by_cases hz : z = i
          · rw [if_pos hz, if_pos (by omega), ev112, hz]
          · rw [if_neg hz, hV z]
            by_cases hy : 0 ≤ z ∧ z < i
            · rw [if_pos hy, if_pos (by omega)]
            · rw [if_neg hy, if_neg (by omega)]
        · unfold ju
          by_cases hz : z = i
          · rw [if_pos hz, if_pos (by omega), ev113, hz]
          · rw [if_neg hz, hW z]
            by_cases hy : 0 ≤ z ∧ z < i
            · rw [if_pos hy, if_pos (by omega)]
            · rw [if_neg hy, if_neg (by omega)]
set_option maxRecDepth 100000 in
set_option maxHeartbeats 4000000 in
theorem c_GM_call (G : jG) (d m : Nat) (k : Int) (q : Int) (I : Nat → Int) (A : Nat → Int → Int)  (hR : gRw I A) (hr : I 1 ≤ 300) (hd : ∀ j, 0 ≤ j → j < I 1 → 0 ≤ A 24 j ∧ A 24 j ≤ 6) (hM : gMac A) (k0 : 0 ≤ k) (k1 : k < I 1) (q0 : 0 ≤ q) (q1 : q ≤ 5) (he : I 5 = 0) (h20 : 0 ≤ I 2) (h21 : I 2 ≤ 100) : gct G Y_GM_call (d + 2) m [.int (jI k), .int (jI q)] I A (fun (rv : Option Value) (I2 : Nat → Int) (A2 : Nat → Int → Int) => rv = none ∧ (A 20 q < 0 → I2 = va_up (va_up I 5 (-4)) 6 k ∧ A2 = A) ∧ (¬ A 20 q < 0 → A 24 k = 6 → I2 = va_up (va_up I 5 (-5)) 6 k ∧ A2 = A) ∧ (¬ A 20 q < 0 → ¬ A 24 k = 6 → 0 < A 21 q → ¬ gAok I A k (A 21 q) → I2 = va_up (va_up I 5 (-6)) 6 k ∧ ∃ X Y : Int → Int, A2 = va_up (va_up A 28 X) 29 Y) ∧ (¬ A 20 q < 0 → ¬ A 24 k = 6 → (0 < A 21 q → gAok I A k (A 21 q)) → ∃ (X Y : Int → Int) (B : Nat → Int → Int), (∀ j, 0 ≤ j → j < A 21 q → X j = gAq I A k j.toNat ∧ Y j = gAe I A (gAq I A k j.toNat)) ∧ (∀ z, z ≠ 22 → z ≠ 23 → z ≠ 24 → z ≠ 25 → z ≠ 26 → z ≠ 27 → z ≠ 28 → z ≠ 29 → B z = A z) ∧ gH (B 22) (B 23) (B 24) (gnew I (va_up (va_up A 28 X) 29 Y) k (gpl I A k (A 21 q)) q) ∧ A2 = B ∧ (300 < ((gnew I (va_up (va_up A 28 X) 29 Y) k (gpl I A k (A 21 q)) q).length : Int) ∨ I 2 + 1 = 101 → I2 = va_up (va_up (va_up (va_up I 2 (I 2 + 1)) 1 ((gnew I (va_up (va_up A 28 X) 29 Y) k (gpl I A k (A 21 q)) q).length : Int)) 5 (-7)) 6 k) ∧ (¬ (300 < ((gnew I (va_up (va_up A 28 X) 29 Y) k (gpl I A k (A 21 q)) q).length : Int) ∨ I 2 + 1 = 101) → I2 = va_up (va_up I 2 (I 2 + 1)) 1 ((gnew I (va_up (va_up A 28 X) 29 Y) k (gpl I A k (A 21 q)) q).length : Int)))) := by
  refine gct_of (by decide) (Nat.le_of_ble_eq_true rfl) (fun f0 sz => ?_)
  show jt _ 0 [(0, .ref m), (1, .int (jI k)), (2, .int (jI q))] [] _ _ _ _
  obtain ⟨r0, r1, rt⟩ := id hR
  obtain ⟨m0, m1, m2, m3, m4⟩ := hM q q0 q1
  have hdk := hd k k0 k1
  refine jt_aload_n d_GM_call_0 rfl ?_
  refine gm_gA (k := 20) (a := m + 5) d_GM_call_1 GM_f72 (by decide) (by decide) rfl ?_
  refine jt_iload_n d_GM_call_4 rfl ?_
  refine gm_ld0 (k := 20) (n := 6) (v := (A 20) q) d_GM_call_5 rfl (by decide) (by decide) rfl rfl (by omega) (by omega) (by omega) rfl ?_
  refine jt_if_ge (t := 19) d_GM_call_6 rfl (by unfold jRi; omega) (fun c1 => ?_) (fun c1 => ?_)
  · skip
    refine jt_aload_n d_GM_call_19 rfl ?_
    refine gm_gA (k := 24) (a := m + 9) d_GM_call_20 GM_f84 (by decide) (by decide) rfl ?_
    refine jt_iload_n d_GM_call_23 rfl ?_
    refine gm_ld0 (k := 24) (n := 700) (v := (A 24) k) d_GM_call_24 rfl (by decide) (by decide) rfl rfl (by omega) (by omega) (by omega) rfl ?_
    refine jt_bipush d_GM_call_25 (by omega) ?_
    refine jt_icmp_ne (t := 37) d_GM_call_27 rfl (by unfold jRi; omega) (by unfold jRi; omega) (fun c2 => ?_) (fun c2 => ?_)
    · skip
      refine jt_aload_n d_GM_call_37 rfl ?_
      refine gm_gI (k := 5) (v := I 5) d_GM_call_38 GM_f25 (by decide) rfl ?_
      refine jt_if_eq (t := 45) d_GM_call_41 rfl (by unfold jRi; omega) (fun c3 => ?_) (fun c3 => ?_)
      · skip
        refine jt_aload_n d_GM_call_45 rfl ?_
        refine gm_gA (k := 21) (a := m + 6) d_GM_call_46 GM_f75 (by decide) (by decide) rfl ?_
        refine jt_iload_n d_GM_call_49 rfl ?_
        refine gm_ld0 (k := 21) (n := 6) (v := (A 21) q) d_GM_call_50 rfl (by decide) (by decide) rfl rfl (by omega) (by omega) (by omega) rfl ?_
        refine jt_if_le (t := 68) d_GM_call_51 rfl (by unfold jRi; omega) (fun c4 => ?_) (fun c4 => ?_)
        · skip
          refine gm_eA (B := va_up (va_up A 28 (A 28)) 29 (A 29)) ((gup_id A 28).trans (gup_id (va_up A 28 (A 28)) 29)) ?_
          have hpl : gpl I A k (A 21 q) = k + 1 := by unfold gpl; rw [if_neg (by omega)]
          refine jt_iload_n d_GM_call_68 rfl ?_
          refine jt_iconst d_GM_call_69 ?_
          refine jt_iadd d_GM_call_70 ?_
          refine jt_topi (fun v5 ev5 => ?_)
          refine jt_istore_n (L' := [(0, .ref m), (1, .int (jI k)), (2, .int (jI q)), (3, .int (jI v5))]) d_GM_call_71 (Nat.le_of_ble_eq_true rfl) rfl ?_
          refine jt_iload_n d_GM_call_72 rfl ?_
          refine jt_if_ge (t := 84) d_GM_call_73 rfl (by unfold jRi; omega) (fun c6 => ?_) (fun c6 => ?_)
          · skip
            have hv : v5 = gpl I A k (A 21 q) := by rw [hpl, ev5]
            have hbd : k < gpl I A k (A 21 q) ∧ gpl I A k (A 21 q) ≤ I 1 := by rw [hpl]; omega
            subst hv
            show jt _ 84 [(0, .ref m), (1, .int (jI k)), (2, .int (jI q)), (3, .int (jI (gpl I A k (A 21 q))))] [] (gmf m f0 I (va_up (va_up A 28 (A 28)) 29 (A 29))) _ _ _
            refine jt_aload_n d_GM_call_84 rfl ?_
            refine jt_iload_n d_GM_call_85 rfl ?_
            refine jt_iload_n d_GM_call_86 rfl ?_
            refine jt_iload_n d_GM_call_87 rfl ?_
            refine gct_call (Y := Y_GM_replace) (As := [.int (jI k), .int (jI (gpl I A k (A 21 q))), .int (jI q)]) (rest := []) d_GM_call_88 GM_c175 yk_GM_replace yv_GM_replace rfl (Nat.le_of_ble_eq_true rfl) rfl rfl (Nat.le_of_ble_eq_true rfl) (c_GM_replace G _ m k (gpl I A k (A 21 q)) q I (va_up (va_up A 28 (A 28)) 29 (A 29)) hR hr hd k0 k1 (by omega) (by omega) q0 q1 (by show 0 ≤ A 20 q; omega) (by show A 20 q ≤ 40; omega) (fun c c0 c1 => ⟨(m4 c c0 c1).1, fun c2 => by have c3 : A 18 c = 2 := c2; have z1 := (m4 c c0 c1).2 c2; have z2 := (m4 c c0 c1).1; unfold gtok at z2; exfalso; omega⟩)) (fun rvq7 Iq7 Aq7 hq7 => ?_)
            obtain ⟨rfl, hIq7, hlen, X2, Y2, Z2, hAq7, hH2⟩ := hq7
            rw [hIq7, hAq7]
            show jt _ 91 [(0, .ref m), (1, .int (jI k)), (2, .int (jI q)), (3, .int (jI (gpl I A k (A 21 q))))] [.int (jI ((((gnew I (va_up (va_up A 28 (A 28)) 29 (A 29)) k (gpl I A k (A 21 q)) q).length : Nat) : Int)))] (gmf m f0 I (va_up (va_up (va_up (va_up (va_up A 28 (A 28)) 29 (A 29)) 25 X2) 26 Y2) 27 Z2)) _ _ _
            refine jt_topi (fun v8 ev8 => ?_)
            refine jt_istore (L' := [(0, .ref m), (1, .int (jI k)), (2, .int (jI q)), (3, .int (jI (gpl I A k (A 21 q)))), (4, .int (jI v8))]) d_GM_call_91 (Nat.le_of_ble_eq_true rfl) rfl ?_
            refine jt_aload_n d_GM_call_93 rfl ?_
            refine jt_dup d_GM_call_94 rfl ?_
            refine gm_gI (k := 2) (v := I 2) d_GM_call_95 GM_f16 (by decide) rfl ?_
            refine jt_iconst d_GM_call_98 ?_
            refine jt_iadd d_GM_call_99 ?_
            refine jt_topi (fun v9 ev9 => ?_)
            refine gm_pI (k := 2) (v := v9) (J := va_up I 2 v9) d_GM_call_100 (GM_w16 _ rfl) (by decide) rfl rfl rfl ?_
            refine jt_aload_n d_GM_call_103 rfl ?_
            refine jt_iload d_GM_call_104 rfl ?_
            refine gm_pI (k := 1) (v := v8) (J := va_up (va_up I 2 v9) 1 v8) d_GM_call_106 (GM_w13 _ rfl) (by decide) rfl rfl rfl ?_
            refine jt_iconst d_GM_call_109 ?_
            refine jt_istore (L' := [(0, .ref m), (1, .int (jI k)), (2, .int (jI q)), (3, .int (jI (gpl I A k (A 21 q)))), (4, .int (jI v8)), (5, .int (jI 0))]) d_GM_call_110 (Nat.le_of_ble_eq_true rfl) rfl ?_
            refine gm_eA (B := va_up (va_up (va_up (va_up (va_up (va_up (va_up (va_up A 28 (A 28)) 29 (A 29)) 25 X2) 26 Y2) 27 Z2) 22 ((va_up (va_up (va_up (va_up (va_up A 28 (A 28)) 29 (A 29)) 25 X2) 26 Y2) 27 Z2) 22)) 23 ((va_up (va_up (va_up (va_up (va_up A 28 (A 28)) 29 (A 29)) 25 X2) 26 Y2) 27 Z2) 23)) 24 ((va_up (va_up (va_up (va_up (va_up A 28 (A 28)) 29 (A 29)) 25 X2) 26 Y2) 27 Z2) 24)) (g22i _) ?_
            have hvP : v8 = ((gnew I (va_up (va_up A 28 (A 28)) 29 (A 29)) k (gpl I A k (A 21 q)) q).length : Int) := ev8
            refine l112_GM_call G d m k q I A  hR hr hd hM k0 k1 q0 q1 he h20 h21 f0 sz (gpl I A k (A 21 q)) (va_up (va_up I 2 v9) 1 v8) (va_up (va_up (va_up (va_up (va_up A 28 (A 28)) 29 (A 29)) 25 X2) 26 Y2) 27 Z2) v8 (gnew I (va_up (va_up A 28 (A 28)) 29 (A 29)) k (gpl I A k (A 21 q)) q) rfl (by show 0 ≤ v9; omega) (by show v9 ≤ 101; omega) (by omega) (by rw [hvP]; exact hlen) hvP.symm hH2 (fun U V W hh => ⟨fun hc => ?_, fun hc => ?_⟩) 701 _ _ _ _ (by omega) (by omega) (fun z => by rw [if_neg (by omega)]) (fun z => by rw [if_neg (by omega)]) (fun z => by rw [if_neg (by omega)]) (by omega)
            · refine ⟨rfl, fun z => absurd z (by omega), fun _ z => absurd z (by omega), fun _ _ z1 z2 => absurd z1 (by omega), fun _ _ _ => ⟨A 28, A 29, _, (fun j j0 j1 => absurd j1 (by omega)), fun z a b c d e f g h => ?_, hh, rfl, ?_, ?_⟩⟩
              · rw [va_up_ne _ _ c, va_up_ne _ _ b, va_up_ne _ _ a, va_up_ne _ _ f, va_up_ne _ _ e, va_up_ne _ _ d, va_up_ne _ _ h, va_up_ne _ _ g]
              · intro _; rw [ev9, hvP]
              · intro hz; exact absurd (by rw [← hvP]; rcases hc with hc | hc; exact Or.inl hc; exact Or.inr (by have hc : v9 = 101 := hc; omega)) hz
            · refine ⟨rfl, fun z => absurd z (by omega), fun _ z => absurd z (by omega), fun _ _ z1 z2 => absurd z1 (by omega), fun _ _ _ => ⟨A 28, A 29, _, (fun j j0 j1 => absurd j1 (by omega)), fun z a b c d e f g h => ?_, hh, rfl, ?_, ?_⟩⟩
              · rw [va_up_ne _ _ c, va_up_ne _ _ b, va_up_ne _ _ a, va_up_ne _ _ f, va_up_ne _ _ e, va_up_ne _ _ d, va_up_ne _ _ h, va_up_ne _ _ g]
              · intro hz; exact absurd (by rcases hz with hz | hz; exact Or.inl (by rw [hvP]; exact hz); exact Or.inr (by show v9 = 101; omega)) hc
              · intro _; rw [ev9, hvP]
          · skip
            exfalso
            omega
        · skip
          refine jt_aload_n d_GM_call_54 rfl ?_
          refine jt_iload_n d_GM_call_55 rfl ?_
          refine jt_aload_n d_GM_call_56 rfl ?_
          refine gm_gA (k := 21) (a := m + 6) d_GM_call_57 GM_f75 (by decide) (by decide) rfl ?_
          refine jt_iload_n d_GM_call_60 rfl ?_
          refine gm_ld0 (k := 21) (n := 6) (v := (A 21) q) d_GM_call_61 rfl (by decide) (by decide) rfl rfl (by omega) (by omega) (by omega) rfl ?_
          refine gct_call (Y := Y_GM_arguments) (As := [.int (jI k), .int (jI ((A 21) q))]) (rest := []) d_GM_call_62 GM_c171 yk_GM_arguments yv_GM_arguments rfl (Nat.le_of_ble_eq_true rfl) rfl rfl (Nat.le_of_ble_eq_true rfl) (c_GM_arguments G _ m k ((A 21) q) I A hR k0 k1 (by omega) (by omega)) (fun rvq10 Iq10 Aq10 hq10 => ?_)
          obtain ⟨hIq10, X1, Y1, hAq10, haq10, hbq10⟩ := hq10
          rw [hIq10, hAq10]
          by_cases gok : gAok I A k (A 21 q)
          · skip
            obtain ⟨rfl, hxy⟩ := haq10 gok
            have hle := gAq_le I A k (A 21 q) gok (A 21 q).toNat (by omega)
            have hpl : gpl I A k (A 21 q) = gAq I A k (A 21 q).toNat := by unfold gpl; rw [if_pos (by omega)]
            show jt _ 65 [(0, .ref m), (1, .int (jI k)), (2, .int (jI q))] [.int (jI (gAq I A k (A 21 q).toNat))] (gmf m f0 I (va_up (va_up A 28 X1) 29 Y1)) _ _ _
            refine jt_goto (t := 71) d_GM_call_65 rfl ?_
            refine jt_topi (fun v11 ev11 => ?_)
            refine jt_istore_n (L' := [(0, .ref m), (1, .int (jI k)), (2, .int (jI q)), (3, .int (jI v11))]) d_GM_call_71 (Nat.le_of_ble_eq_true rfl) rfl ?_
            refine jt_iload_n d_GM_call_72 rfl ?_
            refine jt_if_ge (t := 84) d_GM_call_73 rfl (by unfold jRi; omega) (fun c12 => ?_) (fun c12 => ?_)
            · skip
              have hv : v11 = gpl I A k (A 21 q) := by rw [hpl, ev11]
              have hbd : k < gpl I A k (A 21 q) ∧ gpl I A k (A 21 q) ≤ I 1 := by rw [hpl]; omega
              subst hv
              show jt _ 84 [(0, .ref m), (1, .int (jI k)), (2, .int (jI q)), (3, .int (jI (gpl I A k (A 21 q))))] [] (gmf m f0 I (va_up (va_up A 28 X1) 29 Y1)) _ _ _
              refine jt_aload_n d_GM_call_84 rfl ?_
              refine jt_iload_n d_GM_call_85 rfl ?_
              refine jt_iload_n d_GM_call_86 rfl ?_
              refine jt_iload_n d_GM_call_87 rfl ?_
              refine gct_call (Y := Y_GM_replace) (As := [.int (jI k), .int (jI (gpl I A k (A 21 q))), .int (jI q)]) (rest := []) d_GM_call_88 GM_c175 yk_GM_replace yv_GM_replace rfl (Nat.le_of_ble_eq_true rfl) rfl rfl (Nat.le_of_ble_eq_true rfl) (c_GM_replace G _ m k (gpl I A k (A 21 q)) q I (va_up (va_up A 28 X1) 29 Y1) hR hr hd k0 k1 (by omega) (by omega) q0 q1 (by show 0 ≤ A 20 q; omega) (by show A 20 q ≤ 40; omega) (fun c c0 c1 => ⟨(m4 c c0 c1).1, fun c2 => by have c3 : A 18 c = 2 := c2; have z1 := (m4 c c0 c1).2 c2; have z2 := (m4 c c0 c1).1; unfold gtok at z2; have z3 := hxy (A 19 c) (by omega) z1; have z4 := gAq_le I A k (A 21 q) gok (A 19 c).toNat (by omega); have z5 := (gok.2 (A 19 c) (by omega) z1).1; have z6 := gAe_le I A (gAq I A k (A 19 c).toNat); show 0 ≤ X1 (A 19 c) ∧ X1 (A 19 c) ≤ Y1 (A 19 c) ∧ Y1 (A 19 c) ≤ I 1; rw [z3.1, z3.2]; omega⟩)) (fun rvq13 Iq13 Aq13 hq13 => ?_)
              obtain ⟨rfl, hIq13, hlen, X2, Y2, Z2, hAq13, hH2⟩ := hq13
              rw [hIq13, hAq13]
              show jt _ 91 [(0, .ref m), (1, .int (jI k)), (2, .int (jI q)), (3, .int (jI (gpl I A k (A 21 q))))] [.int (jI ((((gnew I (va_up (va_up A 28 X1) 29 Y1) k (gpl I A k (A 21 q)) q).length : Nat) : Int)))] (gmf m f0 I (va_up (va_up (va_up (va_up (va_up A 28 X1) 29 Y1) 25 X2) 26 Y2) 27 Z2)) _ _ _
              refine jt_topi (fun v14 ev14 => ?_)
              refine jt_istore (L' := [(0, .ref m), (1, .int (jI k)), (2, .int (jI q)), (3, .int (jI (gpl I A k (A 21 q)))), (4, .int (jI v14))]) d_GM_call_91 (Nat.le_of_ble_eq_true rfl) rfl ?_
              refine jt_aload_n d_GM_call_93 rfl ?_
              refine jt_dup d_GM_call_94 rfl ?_
              refine gm_gI (k := 2) (v := I 2) d_GM_call_95 GM_f16 (by decide) rfl ?_
              refine jt_iconst d_GM_call_98 ?_
              refine jt_iadd d_GM_call_99 ?_
              refine jt_topi (fun v15 ev15 => ?_)
              refine gm_pI (k := 2) (v := v15) (J := va_up I 2 v15) d_GM_call_100 (GM_w16 _ rfl) (by decide) rfl rfl rfl ?_
              refine jt_aload_n d_GM_call_103 rfl ?_
              refine jt_iload d_GM_call_104 rfl ?_
              refine gm_pI (k := 1) (v := v14) (J := va_up (va_up I 2 v15) 1 v14) d_GM_call_106 (GM_w13 _ rfl) (by decide) rfl rfl rfl ?_
              refine jt_iconst d_GM_call_109 ?_
              refine jt_istore (L' := [(0, .ref m), (1, .int (jI k)), (2, .int (jI q)), (3, .int (jI (gpl I A k (A 21 q)))), (4, .int (jI v14)), (5, .int (jI 0))]) d_GM_call_110 (Nat.le_of_ble_eq_true rfl) rfl ?_
              refine gm_eA (B := va_up (va_up (va_up (va_up (va_up (va_up (va_up (va_up A 28 X1) 29 Y1) 25 X2) 26 Y2) 27 Z2) 22 ((va_up (va_up (va_up (va_up (va_up A 28 X1) 29 Y1) 25 X2) 26 Y2) 27 Z2) 22)) 23 ((va_up (va_up (va_up (va_up (va_up A 28 X1) 29 Y1) 25 X2) 26 Y2) 27 Z2) 23)) 24 ((va_up (va_up (va_up (va_up (va_up A 28 X1) 29 Y1) 25 X2) 26 Y2) 27 Z2) 24)) (g22i _) ?_
              have hvP : v14 = ((gnew I (va_up (va_up A 28 X1) 29 Y1) k (gpl I A k (A 21 q)) q).length : Int) := ev14
              refine l112_GM_call G d m k q I A  hR hr hd hM k0 k1 q0 q1 he h20 h21 f0 sz (gpl I A k (A 21 q)) (va_up (va_up I 2 v15) 1 v14) (va_up (va_up (va_up (va_up (va_up A 28 X1) 29 Y1) 25 X2) 26 Y2) 27 Z2) v14 (gnew I (va_up (va_up A 28 X1) 29 Y1) k (gpl I A k (A 21 q)) q) rfl (by show 0 ≤ v15; omega) (by show v15 ≤ 101; omega) (by omega) (by rw [hvP]; exact hlen) hvP.symm hH2 (fun U V W hh => ⟨fun hc => ?_, fun hc => ?_⟩) 701 _ _ _ _ (by omega) (by omega) (fun z => by rw [if_neg (by omega)]) (fun z => by rw [if_neg (by omega)]) (fun z => by rw [if_neg (by omega)]) (by omega)
              · refine ⟨rfl, fun z => absurd z (by omega), fun _ z => absurd z (by omega), fun _ _ z1 z2 => absurd gok z2, fun _ _ _ => ⟨X1, Y1, _, hxy, fun z a b c d e f g h => ?_, hh, rfl, ?_, ?_⟩⟩
                · rw [va_up_ne _ _ c, va_up_ne _ _ b, va_up_ne _ _ a, va_up_ne _ _ f, va_up_ne _ _ e, va_up_ne _ _ d, va_up_ne _ _ h, va_up_ne _ _ g]
                · intro _; rw [ev15, hvP]
                · intro hz; exact absurd (by rw [← hvP]; rcases hc with hc | hc; exact Or.inl hc; exact Or.inr (by have hc : v15 = 101 := hc; omega)) hz
              · refine ⟨rfl, fun z => absurd z (by omega), fun _ z => absurd z (by omega), fun _ _ z1 z2 => absurd gok z2, fun _ _ _ => ⟨X1, Y1, _, hxy, fun z a b c d e f g h => ?_, hh, rfl, ?_, ?_⟩⟩
                · rw [va_up_ne _ _ c, va_up_ne _ _ b, va_up_ne _ _ a, va_up_ne _ _ f, va_up_ne _ _ e, va_up_ne _ _ d, va_up_ne _ _ h, va_up_ne _ _ g]
                · intro hz; exact absurd (by rcases hz with hz | hz; exact Or.inl (by rw [hvP]; exact hz); exact Or.inr (by show v15 = 101; omega)) hc
                · intro _; rw [ev15, hvP]
            · skip
              exfalso
              omega
          · skip
            obtain rfl := hbq10 gok
            show jt _ 65 [(0, .ref m), (1, .int (jI k)), (2, .int (jI q))] [.int (jI (-1))] (gmf m f0 I (va_up (va_up A 28 X1) 29 Y1)) _ _ _
            refine jt_goto (t := 71) d_GM_call_65 rfl ?_
            refine jt_istore_n (L' := [(0, .ref m), (1, .int (jI k)), (2, .int (jI q)), (3, .int (jI (-1)))]) d_GM_call_71 (Nat.le_of_ble_eq_true rfl) rfl ?_
            refine jt_iload_n d_GM_call_72 rfl ?_
            refine jt_if_ge (t := 84) d_GM_call_73 rfl (by unfold jRi; omega) (fun c16 => ?_) (fun c16 => ?_)
            · skip
              exfalso
              omega
            · skip
              refine jt_aload_n d_GM_call_76 rfl ?_
              refine jt_bipush d_GM_call_77 (by omega) ?_
              refine jt_iload_n d_GM_call_79 rfl ?_
              refine gct_call (Y := Y_GM_stop) (As := [.int (jI (-6)), .int (jI k)]) (rest := []) d_GM_call_80 GM_c164 yk_GM_stop yv_GM_stop rfl (Nat.le_of_ble_eq_true rfl) rfl rfl (Nat.le_of_ble_eq_true rfl) (c_GM_stop G _ m (-6) k I (va_up (va_up A 28 X1) 29 Y1)) (fun rvq17 Iq17 Aq17 hq17 => ?_)
              obtain ⟨rfl, hIq17, hAq17⟩ := hq17
              rw [hIq17, hAq17]
              show jt _ 83 [(0, .ref m), (1, .int (jI k)), (2, .int (jI q)), (3, .int (jI (-1)))] [] (gmf m f0 (va_up (va_up I 5 (-6)) 6 k) (va_up (va_up A 28 X1) 29 Y1)) _ _ _
              exact gm_vret d_GM_call_83 rfl (⟨rfl, fun z => absurd z (by omega), fun _ z => absurd z (by omega), fun _ _ _ _ => ⟨rfl, X1, Y1, rfl⟩, fun _ _ z => absurd (z (by omega)) gok⟩)
      · skip
        exfalso
        omega
    · skip
      refine jt_aload_n d_GM_call_30 rfl ?_
      refine jt_bipush d_GM_call_31 (by omega) ?_
      refine jt_iload_n d_GM_call_33 rfl ?_
      refine gct_call (Y := Y_GM_stop) (As := [.int (jI (-5)), .int (jI k)]) (rest := []) d_GM_call_34 GM_c164 yk_GM_stop yv_GM_stop rfl (Nat.le_of_ble_eq_true rfl) rfl rfl (Nat.le_of_ble_eq_true rfl) (c_GM_stop G _ m (-5) k I A) (fun rvq18 Iq18 Aq18 hq18 => ?_)
      obtain ⟨rfl, hIq18, hAq18⟩ := hq18
      rw [hIq18, hAq18]
      show jt _ 37 [(0, .ref m), (1, .int (jI k)), (2, .int (jI q))] [] (gmf m f0 (va_up (va_up I 5 (-5)) 6 k) A) _ _ _
      refine jt_aload_n d_GM_call_37 rfl ?_
      refine gm_gI (k := 5) (v := -5) d_GM_call_38 GM_f25 (by decide) rfl ?_
      refine jt_if_eq (t := 45) d_GM_call_41 rfl (by unfold jRi; omega) (fun c19 => ?_) (fun c19 => ?_)
      · skip
        exfalso
        omega
      · skip
        exact gm_vret d_GM_call_44 rfl (⟨rfl, fun z => absurd z (by omega), fun _ z => ⟨rfl, rfl⟩, fun _ z => absurd (by omega) z, fun _ z => absurd (by omega) z⟩)
  · skip
    refine jt_aload_n d_GM_call_9 rfl ?_
    refine jt_bipush d_GM_call_10 (by omega) ?_
    refine jt_iload_n d_GM_call_12 rfl ?_
    refine gct_call (Y := Y_GM_stop) (As := [.int (jI (-4)), .int (jI k)]) (rest := []) d_GM_call_13 GM_c164 yk_GM_stop yv_GM_stop rfl (Nat.le_of_ble_eq_true rfl) rfl rfl (Nat.le_of_ble_eq_true rfl) (c_GM_stop G _ m (-4) k I A) (fun rvq20 Iq20 Aq20 hq20 => ?_)
    obtain ⟨rfl, hIq20, hAq20⟩ := hq20
    rw [hIq20, hAq20]
    show jt _ 16 [(0, .ref m), (1, .int (jI k)), (2, .int (jI q))] [] (gmf m f0 (va_up (va_up I 5 (-4)) 6 k) A) _ _ _
    refine jt_goto (t := 37) d_GM_call_16 rfl ?_
    refine jt_aload_n d_GM_call_37 rfl ?_
    refine gm_gI (k := 5) (v := -4) d_GM_call_38 GM_f25 (by decide) rfl ?_
    refine jt_if_eq (t := 45) d_GM_call_41 rfl (by unfold jRi; omega) (fun c21 => ?_) (fun c21 => ?_)
    · skip
      exfalso
      omega
    · skip
      exact gm_vret d_GM_call_44 rfl (⟨rfl, fun z => ⟨rfl, rfl⟩, fun z => absurd (by omega) z, fun z => absurd (by omega) z, fun z => absurd (by omega) z⟩)

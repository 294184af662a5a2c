set_option maxRecDepth 100000 in
set_option maxHeartbeats 4000000 in
theorem l5_Ar_fill_xv (G : jG) (d b : Nat) (x : Int) (I : Nat → Nat → Int) (A : Nat → Int → Int) (hI : cSI I) (hA : cSA A) (hx : -2147483648 ≤ x ∧ x ≤ 2147483647) (f0 : jF) (sz : Nat)   : ∀ (n9 : Nat) (i : Int) (J : Nat → Nat → Int) (B : Nat → Int → Int), cPx [] [470] I A J B → (0 ≤ i ∧ i ≤ 32) → (∀ w : Int, 0 ≤ w → w < i → B 470 w = x) → 32 - i < (n9 : Int) → jt (jm G Y_Ar_fill (gR d) (cQ b f0 sz (fun (rv : Option Value) (I2 : Nat → Nat → Int) (A2 : Nat → Int → Int) => rv = none ∧ cPx [] [470] I A I2 A2 ∧ ∀ w : Int, 0 ≤ w → w < 32 → A2 470 w = x))) 5 [(0, .ref (b + 470)), (1, .int (jI x)), (2, .int (jI i)), (3, .int (jI 32))] [] (cmf b f0 J B) sz 0 0 := by
  intro n9
  induction n9 with
  | zero =>
    intro i J B hJ i0 hc hmeas
    exfalso
    omega
  | succ n9 ih =>
    intro i J B hJ i0 hc hmeas
    refine jt_iload_n d_Ar_fill_5 rfl ?_
    refine jt_iload_n d_Ar_fill_6 rfl ?_
    refine jt_icmp_ge (t := 20) d_Ar_fill_7 rfl (by unfold jRi; omega) (by unfold jRi; omega) (fun c101 => ?_) (fun c101 => ?_)
    · skip
      exact cm_vret d_Ar_fill_20 rfl (⟨rfl, hJ, fun w a c => hc w a (by omega)⟩)
    · skip
      refine jt_aload_n d_Ar_fill_10 rfl ?_
      refine jt_iload_n d_Ar_fill_11 rfl ?_
      refine jt_iload_n d_Ar_fill_12 rfl ?_
      refine cm_st0 (k := 470) (n := 32) (v := x) d_Ar_fill_13 (by decide) rfl rfl (by omega) (by omega) (by omega) ?_
      have p102 := cPx.A 470 (ju (B 470) i x) hJ (Or.inl rfl) (gju (hJ.2.1 470) (show -2147483648 ≤ x ∧ x ≤ 2147483647 by omega))
      refine jt_iinc (L' := [(0, .ref (b + 470)), (1, .int (jI x)), (2, .int (jI (i + 1))), (3, .int (jI 32))]) d_Ar_fill_14 rfl (Nat.le_of_ble_eq_true rfl) rfl ?_
      refine jt_goto (t := 5) d_Ar_fill_17 rfl ?_
      exact ih (i + 1) J (va_up B 470 (ju (B 470) i x)) p102 (by omega) (fun w a c => by show ju (B 470) i x w = x; rcases Classical.em (w = i) with z | z; exact (by rw [z, ju_self]); exact (by rw [ju_ne _ _ z]; exact hc w a (by omega))) (by omega)
set_option maxRecDepth 100000 in
set_option maxHeartbeats 4000000 in
theorem v_Ar_fill_x (G : jG) (d b : Nat) (x : Int) (I : Nat → Nat → Int) (A : Nat → Int → Int) (hI : cSI I) (hA : cSA A) (hx : -2147483648 ≤ x ∧ x ≤ 2147483647) : cct G Y_Ar_fill d b [.ref (b + 470), .int (jI x)] I A (fun (rv : Option Value) (I2 : Nat → Nat → Int) (A2 : Nat → Int → Int) => rv = none ∧ cPx [] [470] I A I2 A2 ∧ ∀ w : Int, 0 ≤ w → w < 32 → A2 470 w = x) := by
  refine cct_of (by decide) (Nat.le_of_ble_eq_true rfl) (fun f0 sz => ?_)
  show jt _ 0 [(0, .ref (b + 470)), (1, .int (jI x))] [] _ _ _ _
  have hz0 : cPx [] [470] I A I A := cPx.refl hI hA
  refine jt_iconst d_Ar_fill_0 ?_
  refine jt_istore_n (L' := [(0, .ref (b + 470)), (1, .int (jI x)), (2, .int (jI 0))]) d_Ar_fill_1 (Nat.le_of_ble_eq_true rfl) rfl ?_
  refine jt_aload_n d_Ar_fill_2 rfl ?_
  refine cm_len (k := 470) (n := 32) d_Ar_fill_3 jTy_0 (by decide) (cc_8 rfl rfl) ?_
  refine jt_istore_n (L' := [(0, .ref (b + 470)), (1, .int (jI x)), (2, .int (jI 0)), (3, .int (jI 32))]) d_Ar_fill_4 (Nat.le_of_ble_eq_true rfl) rfl ?_
  exact l5_Ar_fill_xv G d b x I A hI hA hx f0 sz  33 0 I A hz0 (by omega) (fun w a c => by omega) (by omega)
set_option maxRecDepth 100000 in
set_option maxHeartbeats 4000000 in
theorem l48_PI_paint_xv (G : jG) (d b : Nat) (c : Int) (I : Nat → Nat → Int) (A : Nat → Int → Int) (hI : cSI I) (hA : cSA A) (hc : 0 ≤ c ∧ c ≤ 1) (Ps : List Pc) (hP : gPc (A 466) (A 467) (fun z => A 466 (z + 1)) (fun z => A 467 (z + 1)) Ps) (hn : I 464 3 = (Ps.length : Int) + 1) (hin : ∀ t, t ∈ Ps → pin t) (f0 : jF) (sz : Nat)  (j : Int) (j0 : 0 ≤ j ∧ j < 24) (hout : ∀ (i : Int) (J : Nat → Nat → Int) (B : Nat → Int → Int), cPx [] [469, 470] I A J B → (0 ≤ i ∧ i ≤ 32) → (∀ w : Int, 0 ≤ w → w < 32 → B 470 w = pwn (pmd w) (pmd j) Ps) → (ptq c Ps (A 469) (B 469) (j * 32 + i)) → (32 ≤ i) → jt (jm G Y_PI_paint (gR (d + 2)) (cQ b f0 sz (fun (rv : Option Value) (I2 : Nat → Nat → Int) (A2 : Nat → Int → Int) => rv = none ∧ cPx [] [469, 470] I A I2 A2 ∧ ptd c Ps (A 469) (A2 469)))) 84 [(0, .ref (b + 468)), (1, .ref (b + 464)), (2, .int (jI c)), (3, .int (jI j)), (4, .int (jI i))] [] (cmf b f0 J B) sz 0 0) : ∀ (n9 : Nat) (i : Int) (J : Nat → Nat → Int) (B : Nat → Int → Int), cPx [] [469, 470] I A J B → (0 ≤ i ∧ i ≤ 32) → (∀ w : Int, 0 ≤ w → w < 32 → B 470 w = pwn (pmd w) (pmd j) Ps) → (ptq c Ps (A 469) (B 469) (j * 32 + i)) → 32 - i < (n9 : Int) → jt (jm G Y_PI_paint (gR (d + 2)) (cQ b f0 sz (fun (rv : Option Value) (I2 : Nat → Nat → Int) (A2 : Nat → Int → Int) => rv = none ∧ cPx [] [469, 470] I A I2 A2 ∧ ptd c Ps (A 469) (A2 469)))) 48 [(0, .ref (b + 468)), (1, .ref (b + 464)), (2, .int (jI c)), (3, .int (jI j)), (4, .int (jI i))] [] (cmf b f0 J B) sz 0 0 := by
  have r46 : 0 ≤ I 464 3 ∧ I 464 3 ≤ 98 := hI 464 3
  intro n9
  induction n9 with
  | zero =>
    intro i J B hJ i0 hw9 hq hmeas
    exfalso
    omega
  | succ n9 ih =>
    intro i J B hJ i0 hw9 hq hmeas
    refine jt_iload d_PI_paint_48 rfl ?_
    refine jt_bipush d_PI_paint_50 (by omega) ?_
    refine jt_icmp_ge (t := 84) d_PI_paint_52 rfl (by unfold jRi; omega) (by unfold jRi; omega) (fun c101 => ?_) (fun c101 => ?_)
    · skip
      exact hout i J B hJ i0 hw9 hq (by omega)
    · skip
      refine jt_aload_n d_PI_paint_55 rfl ?_
      refine cm_get (k := 468) (v := .ref (b + 470)) d_PI_paint_56 PI_f15 (by decide) cc_7 rfl ?_
      refine jt_iload d_PI_paint_59 rfl ?_
      refine cm_ld0 (k := 470) (n := 32) (v := (B 470) i) d_PI_paint_61 (by decide) rfl rfl (by omega) (by omega) (by omega) rfl ?_
      refine jt_topi (fun v102 ev102 => ?_)
      have bv102 : -2147483648 ≤ v102 ∧ v102 ≤ 2147483647 := by rw [ev102]; exact hJ.2.1 470 i
      refine jt_if_eq (t := 78) d_PI_paint_62 rfl (by unfold jRi; omega) (fun c103 => ?_) (fun c103 => ?_)
      · skip
        refine jt_iinc (L' := [(0, .ref (b + 468)), (1, .ref (b + 464)), (2, .int (jI c)), (3, .int (jI j)), (4, .int (jI (i + 1)))]) d_PI_paint_78 rfl (Nat.le_of_ble_eq_true rfl) rfl ?_
        refine jt_goto (t := 48) d_PI_paint_81 rfl ?_
        exact ih (i + 1) J B hJ (by omega) hw9 (ptq_n hq (by omega) (by omega) (by rw [← hw9 i (by omega) (by omega), ← ev102]; omega)) (by omega)
      · skip
        refine jt_aload_n d_PI_paint_65 rfl ?_
        refine cm_get (k := 468) (v := .ref (b + 469)) d_PI_paint_66 PI_f9 (by decide) cc_7 rfl ?_
        refine jt_iload_n d_PI_paint_69 rfl ?_
        refine jt_bipush d_PI_paint_70 (by omega) ?_
        refine jt_imul d_PI_paint_72 ?_
        refine jt_iload d_PI_paint_73 rfl ?_
        refine jt_iadd d_PI_paint_75 ?_
        refine jt_iload_n d_PI_paint_76 rfl ?_
        refine cm_st2 (k := 469) (n := 768) (v := c) d_PI_paint_77 (by decide) rfl rfl (by omega) (by omega) (by omega) (by omega) ?_
        have p104 := cPx.A 469 (ju (B 469) ((j * 32) + i) c) hJ (Or.inl rfl) (gju (hJ.2.1 469) (show 0 ≤ c ∧ c ≤ 1 by omega))
        refine jt_iinc (L' := [(0, .ref (b + 468)), (1, .ref (b + 464)), (2, .int (jI c)), (3, .int (jI j)), (4, .int (jI (i + 1)))]) d_PI_paint_78 rfl (Nat.le_of_ble_eq_true rfl) rfl ?_
        refine jt_goto (t := 48) d_PI_paint_81 rfl ?_
        exact ih (i + 1) J (va_up B 469 (ju (B 469) ((j * 32) + i) c)) p104 (by omega) hw9 (ptq_y hq (by omega) (by omega) (by rw [← hw9 i (by omega) (by omega), ← ev102]; omega)) (by omega)
set_option maxRecDepth 100000 in
set_option maxHeartbeats 4000000 in
theorem l19_PI_paint_xv (G : jG) (d b : Nat) (c : Int) (I : Nat → Nat → Int) (A : Nat → Int → Int) (hI : cSI I) (hA : cSA A) (hc : 0 ≤ c ∧ c ≤ 1) (Ps : List Pc) (hP : gPc (A 466) (A 467) (fun z => A 466 (z + 1)) (fun z => A 467 (z + 1)) Ps) (hn : I 464 3 = (Ps.length : Int) + 1) (hin : ∀ t, t ∈ Ps → pin t) (f0 : jF) (sz : Nat)  (j : Int) (j0 : 0 ≤ j ∧ j < 24) (hout : ∀ (e : Int) (J : Nat → Nat → Int) (B : Nat → Int → Int), cPx [] [469, 470] I A J B → (1 ≤ e ∧ e ≤ (Ps.length : Int) + 1) → (∀ w : Int, 0 ≤ w → w < 32 → B 470 w = pwn (pmd w) (pmd j) (Ps.take (e - 1).toNat)) → (ptq c Ps (A 469) (B 469) (j * 32)) → ((Ps.length : Int) + 1 ≤ e) → jt (jm G Y_PI_paint (gR (d + 2)) (cQ b f0 sz (fun (rv : Option Value) (I2 : Nat → Nat → Int) (A2 : Nat → Int → Int) => rv = none ∧ cPx [] [469, 470] I A I2 A2 ∧ ptd c Ps (A 469) (A2 469)))) 45 [(0, .ref (b + 468)), (1, .ref (b + 464)), (2, .int (jI c)), (3, .int (jI j)), (4, .int (jI e))] [] (cmf b f0 J B) sz 0 0) : ∀ (n9 : Nat) (e : Int) (J : Nat → Nat → Int) (B : Nat → Int → Int), cPx [] [469, 470] I A J B → (1 ≤ e ∧ e ≤ (Ps.length : Int) + 1) → (∀ w : Int, 0 ≤ w → w < 32 → B 470 w = pwn (pmd w) (pmd j) (Ps.take (e - 1).toNat)) → (ptq c Ps (A 469) (B 469) (j * 32)) → 98 - e < (n9 : Int) → jt (jm G Y_PI_paint (gR (d + 2)) (cQ b f0 sz (fun (rv : Option Value) (I2 : Nat → Nat → Int) (A2 : Nat → Int → Int) => rv = none ∧ cPx [] [469, 470] I A I2 A2 ∧ ptd c Ps (A 469) (A2 469)))) 19 [(0, .ref (b + 468)), (1, .ref (b + 464)), (2, .int (jI c)), (3, .int (jI j)), (4, .int (jI e))] [] (cmf b f0 J B) sz 0 0 := by
  have r46 : 0 ≤ I 464 3 ∧ I 464 3 ≤ 98 := hI 464 3
  intro n9
  induction n9 with
  | zero =>
    intro e J B hJ e0 hw9 hq hmeas
    have f46 : J 464 3 = I 464 3 := hJ.2.2.1 464 3 rfl
    exfalso
    omega
  | succ n9 ih =>
    intro e J B hJ e0 hw9 hq hmeas
    have f46 : J 464 3 = I 464 3 := hJ.2.2.1 464 3 rfl
    refine jt_iload d_PI_paint_19 rfl ?_
    refine jt_aload_n d_PI_paint_21 rfl ?_
    refine cm_get (k := 464) (v := .int (jI (J 464 3))) d_PI_paint_22 PI_f25 (by decide) cc_6 rfl ?_
    have rb201 : 0 ≤ J 464 3 ∧ J 464 3 ≤ 98 := hJ.1 464 3
    refine jt_icmp_ge (t := 45) d_PI_paint_25 rfl (by unfold jRi; omega) (by unfold jRi; omega) (fun c202 => ?_) (fun c202 => ?_)
    · skip
      exact hout e J B hJ e0 hw9 hq (by omega)
    · skip
      obtain ⟨t9, ht9⟩ : ∃ t9, Ps[(e - 1).toNat]? = some t9 := ⟨_, List.getElem?_eq_getElem (by omega)⟩
      have ht9p := hP (e - 1).toNat t9 ht9
      rw [show (((e - 1).toNat : Nat) : Int) = e - 1 by omega] at ht9p
      have ht9p : A 466 (e - 1) = t9.1 ∧ A 467 (e - 1) = t9.2.1 ∧ A 466 (e - 1 + 1) = t9.2.2.1 ∧ A 467 (e - 1 + 1) = t9.2.2.2 := ht9p
      rw [show e - 1 + 1 = e by omega] at ht9p
      refine jt_aload_n d_PI_paint_28 rfl ?_
      refine jt_aload_n d_PI_paint_29 rfl ?_
      refine jt_iload d_PI_paint_30 rfl ?_
      refine jt_iload_n d_PI_paint_32 rfl ?_
      refine cct_callS (Y := Y_PI_middle) (As := [.int (jI j)]) (rest := [.int (jI e), .ref (b + 464), .ref (b + 468)]) d_PI_paint_33 PI_c30 yk_PI_middle ys_PI_middle (Nat.le_of_ble_eq_true rfl) rfl rfl (Nat.le_of_ble_eq_true rfl) (v_PI_middle_x G _ b j J B hJ.1 hJ.2.1 (by omega)) (fun rvq203 Iq203 Aq203 hq203 => ?_)
      obtain ⟨yq203, rfl, ryq203, hIq203, hAq203, hxq203⟩ := hq203
      rw [hIq203, hAq203]
      show jt _ 36 [(0, .ref (b + 468)), (1, .ref (b + 464)), (2, .int (jI c)), (3, .int (jI j)), (4, .int (jI e))] [.long (jL yq203), .int (jI e), .ref (b + 464), .ref (b + 468)] (cmf b f0 J B) _ _ _
      refine cct_callV (Y := Y_PI_wind) (ci := 6) (k := 468) (As := [.ref (b + 464), .int (jI e), .long (jL yq203)]) (rest := []) d_PI_paint_36 PI_c34 yk_PI_wind yv_PI_wind rfl (Nat.le_of_ble_eq_true rfl) (by decide) cc_7 rfl rfl (Nat.le_of_ble_eq_true rfl) (v_PI_wind_x G _ b e yq203 J B hJ.1 hJ.2.1 (by omega) ryq203 t9 (by rw [hJ.2.2.2 466 rfl trivial, hJ.2.2.2 467 rfl trivial]; exact ht9p) (hin t9 (List.mem_of_getElem? ht9)) (fun w a c => by rw [hw9 w a c]; have h9 := pwn_r (pmd w) (pmd j) (Ps.take (e - 1).toNat); have h8 := List.length_take (i := (e - 1).toNat) (l := Ps); omega)) (fun rvq204 Iq204 Aq204 hq204 => ?_)
      obtain ⟨rfl, hqq204, hxq204⟩ := hq204
      have hpq204 := cPx.trans hJ hqq204 rfl rfl
      show jt _ 39 [(0, .ref (b + 468)), (1, .ref (b + 464)), (2, .int (jI c)), (3, .int (jI j)), (4, .int (jI e))] [] (cmf b f0 Iq204 Aq204) _ _ _
      refine jt_iinc (L' := [(0, .ref (b + 468)), (1, .ref (b + 464)), (2, .int (jI c)), (3, .int (jI j)), (4, .int (jI (e + 1)))]) d_PI_paint_39 rfl (Nat.le_of_ble_eq_true rfl) rfl ?_
      refine jt_goto (t := 19) d_PI_paint_42 rfl ?_
      exact ih (e + 1) Iq204 Aq204 hpq204 (by omega) (fun w a c => by rw [hxq204 w a c, hw9 w a c, hxq203, show (e + 1 - 1).toNat = (e - 1).toNat + 1 by omega, pwn_t ht9]) (by rw [hqq204.2.2.2 469 rfl trivial]; exact hq) (by omega)
set_option maxRecDepth 100000 in
set_option maxHeartbeats 4000000 in
theorem l2_PI_paint_xv (G : jG) (d b : Nat) (c : Int) (I : Nat → Nat → Int) (A : Nat → Int → Int) (hI : cSI I) (hA : cSA A) (hc : 0 ≤ c ∧ c ≤ 1) (Ps : List Pc) (hP : gPc (A 466) (A 467) (fun z => A 466 (z + 1)) (fun z => A 467 (z + 1)) Ps) (hn : I 464 3 = (Ps.length : Int) + 1) (hin : ∀ t, t ∈ Ps → pin t) (f0 : jF) (sz : Nat)   : ∀ (n9 : Nat) (j : Int) (J : Nat → Nat → Int) (B : Nat → Int → Int), cPx [] [469, 470] I A J B → (0 ≤ j ∧ j ≤ 24) → (ptq c Ps (A 469) (B 469) (j * 32)) → 24 - j < (n9 : Int) → jt (jm G Y_PI_paint (gR (d + 2)) (cQ b f0 sz (fun (rv : Option Value) (I2 : Nat → Nat → Int) (A2 : Nat → Int → Int) => rv = none ∧ cPx [] [469, 470] I A I2 A2 ∧ ptd c Ps (A 469) (A2 469)))) 2 [(0, .ref (b + 468)), (1, .ref (b + 464)), (2, .int (jI c)), (3, .int (jI j))] [] (cmf b f0 J B) sz 0 0 := by
  have r46 : 0 ≤ I 464 3 ∧ I 464 3 ≤ 98 := hI 464 3
  intro n9
  induction n9 with
  | zero =>
    intro j J B hJ j0 hq hmeas
    exfalso
    omega
  | succ n9 ih =>
    intro j J B hJ j0 hq hmeas
    refine jt_iload_n d_PI_paint_2 rfl ?_
    refine jt_bipush d_PI_paint_3 (by omega) ?_
    refine jt_icmp_ge (t := 90) d_PI_paint_5 rfl (by unfold jRi; omega) (by unfold jRi; omega) (fun c301 => ?_) (fun c301 => ?_)
    · skip
      exact cm_vret d_PI_paint_90 rfl (⟨rfl, hJ, ptq_e (by have h9 := hq; rw [show j * 32 = 768 by omega] at h9; exact h9)⟩)
    · skip
      refine jt_aload_n d_PI_paint_8 rfl ?_
      refine cm_get (k := 468) (v := .ref (b + 470)) d_PI_paint_9 PI_f15 (by decide) cc_7 rfl ?_
      refine jt_iconst d_PI_paint_12 ?_
      refine cct_callS (Y := Y_Ar_fill) (As := [.ref (b + 470), .int (jI 0)]) (rest := []) d_PI_paint_13 PI_c19 yk_Ar_fill ys_Ar_fill (Nat.le_of_ble_eq_true rfl) rfl rfl (Nat.le_of_ble_eq_true rfl) (v_Ar_fill_x G _ b 0 J B hJ.1 hJ.2.1 (by omega)) (fun rvq302 Iq302 Aq302 hq302 => ?_)
      obtain ⟨rfl, hqq302, hxq302⟩ := hq302
      have hpq302 := cPx.trans hJ hqq302 rfl rfl
      show jt _ 16 [(0, .ref (b + 468)), (1, .ref (b + 464)), (2, .int (jI c)), (3, .int (jI j))] [] (cmf b f0 Iq302 Aq302) _ _ _
      refine jt_iconst d_PI_paint_16 ?_
      refine jt_istore (L' := [(0, .ref (b + 468)), (1, .ref (b + 464)), (2, .int (jI c)), (3, .int (jI j)), (4, .int (jI 1))]) d_PI_paint_17 (Nat.le_of_ble_eq_true rfl) rfl ?_
      refine l19_PI_paint_xv G d b c I A hI hA hc Ps hP hn hin f0 sz j ((by omega)) (fun eo303 Jo303 Bo303 hJo303 e0o303 hw9o303 hqo303 heeo303 => ?_) 98 1 Iq302 Aq302 hpq302 (by omega) (fun w a c => by rw [hxq302 w a c]; rfl) (by rw [hqq302.2.2.2 469 rfl trivial]; exact hq) (by omega)
      refine jt_iconst d_PI_paint_45 ?_
      refine jt_istore (L' := [(0, .ref (b + 468)), (1, .ref (b + 464)), (2, .int (jI c)), (3, .int (jI j)), (4, .int (jI 0))]) d_PI_paint_46 (Nat.le_of_ble_eq_true rfl) rfl ?_
      refine l48_PI_paint_xv G d b c I A hI hA hc Ps hP hn hin f0 sz j ((by omega)) (fun io304 Jo304 Bo304 hJo304 i0o304 hw9o304 hqo304 ieo304 => ?_) 33 0 Jo303 Bo303 hJo303 (by omega) (fun w a c => by have h9 := hw9o303 w a c; rw [List.take_of_length_le (by omega)] at h9; exact h9) (by rw [Int.add_zero]; exact hqo303) (by omega)
      refine jt_iinc (L' := [(0, .ref (b + 468)), (1, .ref (b + 464)), (2, .int (jI c)), (3, .int (jI (j + 1))), (4, .int (jI io304))]) d_PI_paint_84 rfl (Nat.le_of_ble_eq_true rfl) rfl ?_
      refine jt_goto (t := 2) d_PI_paint_87 rfl ?_
      refine jt_sub (L' := [(0, .ref (b + 468)), (1, .ref (b + 464)), (2, .int (jI c)), (3, .int (jI (j + 1)))]) (fun _ h => List.mem_append_left [(4, Value.int (jI io304))] h) ?_
      exact ih (j + 1) Jo304 Bo304 hJo304 (by omega) (by have h9 := hqo304; rw [show j * 32 + io304 = (j + 1) * 32 by omega] at h9; exact h9) (by omega)
set_option maxRecDepth 100000 in
set_option maxHeartbeats 4000000 in
theorem v_PI_paint_x (G : jG) (d b : Nat) (c : Int) (I : Nat → Nat → Int) (A : Nat → Int → Int) (hI : cSI I) (hA : cSA A) (hc : 0 ≤ c ∧ c ≤ 1) (Ps : List Pc) (hP : gPc (A 466) (A 467) (fun z => A 466 (z + 1)) (fun z => A 467 (z + 1)) Ps) (hn : I 464 3 = (Ps.length : Int) + 1) (hin : ∀ t, t ∈ Ps → pin t) : cct G Y_PI_paint (d + 2) b [.ref (b + 468), .ref (b + 464), .int (jI c)] I A (fun (rv : Option Value) (I2 : Nat → Nat → Int) (A2 : Nat → Int → Int) => rv = none ∧ cPx [] [469, 470] I A I2 A2 ∧ ptd c Ps (A 469) (A2 469)) := by
  refine cct_of (by decide) (Nat.le_of_ble_eq_true rfl) (fun f0 sz => ?_)
  show jt _ 0 [(0, .ref (b + 468)), (1, .ref (b + 464)), (2, .int (jI c))] [] _ _ _ _
  have r46 : 0 ≤ I 464 3 ∧ I 464 3 ≤ 98 := hI 464 3
  have hz0 : cPx [] [469, 470] I A I A := cPx.refl hI hA
  refine jt_iconst d_PI_paint_0 ?_
  refine jt_istore_n (L' := [(0, .ref (b + 468)), (1, .ref (b + 464)), (2, .int (jI c)), (3, .int (jI 0))]) d_PI_paint_1 (Nat.le_of_ble_eq_true rfl) rfl ?_
  exact l2_PI_paint_xv G d b c I A hI hA hc Ps hP hn hin f0 sz  25 0 I A hz0 (by omega) (by rw [show (0 : Int) * 32 = 0 by omega]; exact ptq_0 _ _ _) (by omega)

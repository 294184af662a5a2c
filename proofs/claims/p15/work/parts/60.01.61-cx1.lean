set_option maxRecDepth 100000 in
set_option maxHeartbeats 4000000 in
theorem v_TR_isKind_x (G : jG) (d b : Nat) (q : Int) (k : Int) (I : Nat → Nat → Int) (A : Nat → Int → Int) (hI : cSI I) (hA : cSA A) (X9 : Int → Int) (hX : A 40 = X9) (N9 : Int) (hN : I 39 3 = N9) (hq : -2147483648 ≤ q ∧ q ≤ 2147483647) (hk : -2147483648 ≤ k ∧ k ≤ 2147483647) : cct G Y_TR_isKind d b [.ref (b + 39), .int (jI q), .int (jI k)] I A (fun (rv : Option Value) (I2 : Nat → Nat → Int) (A2 : Nat → Int → Int) => ∃ y : Int, rv = some (.int (jI y)) ∧ (0 ≤ y ∧ y ≤ 1) ∧ I2 = I ∧ A2 = A ∧ ((y = 1 → 0 ≤ q ∧ q < N9 ∧ X9 q = k) ∧ (y = 0 → ¬ (0 ≤ q ∧ q < N9 ∧ X9 q = k)))) := by
  refine cct_of (by decide) (Nat.le_of_ble_eq_true rfl) (fun f0 sz => ?_)
  show jt _ 0 [(0, .ref (b + 39)), (1, .int (jI q)), (2, .int (jI k))] [] _ _ _ _
  have hz0 : cPx [] [] I A I A := cPx.refl hI hA
  refine jt_iload_n d_TR_isKind_0 rfl ?_
  refine jt_if_lt (t := 26) d_TR_isKind_1 rfl (by unfold jRi; omega) (fun c1 => ?_) (fun c1 => ?_)
  · skip
    refine jt_iconst d_TR_isKind_26 ?_
    exact cm_ret d_TR_isKind_27 rfl (jnz (by omega)) (⟨0, rfl, by omega, rfl, rfl, ⟨fun z => by omega, fun z => by omega⟩⟩)
  · skip
    refine jt_iload_n d_TR_isKind_4 rfl ?_
    refine jt_aload_n d_TR_isKind_5 rfl ?_
    refine cm_get (k := 39) (v := .int (jI (I 39 3))) d_TR_isKind_6 TR_f21 (by decide) (cc_1 rfl) rfl ?_
    have rb2 : 0 ≤ I 39 3 ∧ I 39 3 ≤ 300 := hz0.1 39 3
    refine jt_icmp_ge (t := 26) d_TR_isKind_9 rfl (by unfold jRi; omega) (by unfold jRi; omega) (fun c3 => ?_) (fun c3 => ?_)
    · skip
      refine jt_iconst d_TR_isKind_26 ?_
      exact cm_ret d_TR_isKind_27 rfl (jnz (by omega)) (⟨0, rfl, by omega, rfl, rfl, ⟨fun z => by omega, fun z => by omega⟩⟩)
    · skip
      refine jt_aload_n d_TR_isKind_12 rfl ?_
      refine cm_get (k := 39) (v := .ref (b + 40)) d_TR_isKind_13 TR_f9 (by decide) (cc_1 rfl) rfl ?_
      refine jt_iload_n d_TR_isKind_16 rfl ?_
      refine cm_ld0 (k := 40) (n := 300) (v := (A 40) q) d_TR_isKind_17 (by decide) rfl rfl (by omega) (by omega) (by omega) rfl ?_
      refine jt_topi (fun v4 ev4 => ?_)
      have bv4 : -2147483648 ≤ v4 ∧ v4 ≤ 2147483647 := by rw [ev4]; exact hz0.2.1 40 q
      rw [hX] at ev4
      refine jt_iload_n d_TR_isKind_18 rfl ?_
      refine jt_icmp_ne (t := 26) d_TR_isKind_19 rfl (by unfold jRi; omega) (by unfold jRi; omega) (fun c5 => ?_) (fun c5 => ?_)
      · skip
        refine jt_iconst d_TR_isKind_26 ?_
        exact cm_ret d_TR_isKind_27 rfl (jnz (by omega)) (⟨0, rfl, by omega, rfl, rfl, ⟨fun z => by omega, fun z => by omega⟩⟩)
      · skip
        refine jt_iconst d_TR_isKind_22 ?_
        refine jt_goto (t := 27) d_TR_isKind_23 rfl ?_
        exact cm_ret d_TR_isKind_27 rfl (jnz (by omega)) (⟨1, rfl, by omega, rfl, rfl, ⟨fun z => by omega, fun z => by omega⟩⟩)
set_option maxRecDepth 100000 in
set_option maxHeartbeats 4000000 in
theorem v_TR_isWord_x (G : jG) (d b : Nat) (q : Int) (k : Int) (I : Nat → Nat → Int) (A : Nat → Int → Int) (hI : cSI I) (hA : cSA A) (X9 : Int → Int) (hX : A 40 = X9) (Y9 : Int → Int) (hY : A 41 = Y9) (N9 : Int) (hN : I 39 3 = N9) (hq : -2147483648 ≤ q ∧ q ≤ 2147483647) (hk : -2147483648 ≤ k ∧ k ≤ 2147483647) : cct G Y_TR_isWord d b [.ref (b + 39), .int (jI q), .int (jI k)] I A (fun (rv : Option Value) (I2 : Nat → Nat → Int) (A2 : Nat → Int → Int) => ∃ y : Int, rv = some (.int (jI y)) ∧ (0 ≤ y ∧ y ≤ 1) ∧ I2 = I ∧ A2 = A ∧ ((y = 1 → 0 ≤ q ∧ xW N9 X9 Y9 q k) ∧ (y = 0 → ¬ (0 ≤ q ∧ xW N9 X9 Y9 q k)))) := by
  refine cct_of (by decide) (Nat.le_of_ble_eq_true rfl) (fun f0 sz => ?_)
  show jt _ 0 [(0, .ref (b + 39)), (1, .int (jI q)), (2, .int (jI k))] [] _ _ _ _
  have hz0 : cPx [] [] I A I A := cPx.refl hI hA
  refine jt_iload_n d_TR_isWord_0 rfl ?_
  refine jt_if_lt (t := 36) d_TR_isWord_1 rfl (by unfold jRi; omega) (fun c1 => ?_) (fun c1 => ?_)
  · skip
    refine jt_iconst d_TR_isWord_36 ?_
    exact cm_ret d_TR_isWord_37 rfl (jnz (by omega)) (⟨0, rfl, by omega, rfl, rfl, ⟨fun z => by omega, fun z => by omega⟩⟩)
  · skip
    refine jt_iload_n d_TR_isWord_4 rfl ?_
    refine jt_aload_n d_TR_isWord_5 rfl ?_
    refine cm_get (k := 39) (v := .int (jI (I 39 3))) d_TR_isWord_6 TR_f21 (by decide) (cc_1 rfl) rfl ?_
    have rb2 : 0 ≤ I 39 3 ∧ I 39 3 ≤ 300 := hz0.1 39 3
    refine jt_icmp_ge (t := 36) d_TR_isWord_9 rfl (by unfold jRi; omega) (by unfold jRi; omega) (fun c3 => ?_) (fun c3 => ?_)
    · skip
      refine jt_iconst d_TR_isWord_36 ?_
      exact cm_ret d_TR_isWord_37 rfl (jnz (by omega)) (⟨0, rfl, by omega, rfl, rfl, ⟨fun z => by omega, fun z => by omega⟩⟩)
    · skip
      refine jt_aload_n d_TR_isWord_12 rfl ?_
      refine cm_get (k := 39) (v := .ref (b + 40)) d_TR_isWord_13 TR_f9 (by decide) (cc_1 rfl) rfl ?_
      refine jt_iload_n d_TR_isWord_16 rfl ?_
      refine cm_ld0 (k := 40) (n := 300) (v := (A 40) q) d_TR_isWord_17 (by decide) rfl rfl (by omega) (by omega) (by omega) rfl ?_
      refine jt_topi (fun v4 ev4 => ?_)
      have bv4 : -2147483648 ≤ v4 ∧ v4 ≤ 2147483647 := by rw [ev4]; exact hz0.2.1 40 q
      rw [hX] at ev4
      refine jt_iconst d_TR_isWord_18 ?_
      refine jt_icmp_ne (t := 36) d_TR_isWord_19 rfl (by unfold jRi; omega) (by unfold jRi; omega) (fun c5 => ?_) (fun c5 => ?_)
      · skip
        refine jt_iconst d_TR_isWord_36 ?_
        exact cm_ret d_TR_isWord_37 rfl (jnz (by omega)) (⟨0, rfl, by omega, rfl, rfl, ⟨fun z => by omega, fun z => by omega⟩⟩)
      · skip
        refine jt_aload_n d_TR_isWord_22 rfl ?_
        refine cm_get (k := 39) (v := .ref (b + 41)) d_TR_isWord_23 TR_f15 (by decide) (cc_1 rfl) rfl ?_
        refine jt_iload_n d_TR_isWord_26 rfl ?_
        refine cm_ld0 (k := 41) (n := 300) (v := (A 41) q) d_TR_isWord_27 (by decide) rfl rfl (by omega) (by omega) (by omega) rfl ?_
        refine jt_topi (fun v6 ev6 => ?_)
        have bv6 : -2147483648 ≤ v6 ∧ v6 ≤ 2147483647 := by rw [ev6]; exact hz0.2.1 41 q
        rw [hY] at ev6
        refine jt_iload_n d_TR_isWord_28 rfl ?_
        refine jt_icmp_ne (t := 36) d_TR_isWord_29 rfl (by unfold jRi; omega) (by unfold jRi; omega) (fun c7 => ?_) (fun c7 => ?_)
        · skip
          refine jt_iconst d_TR_isWord_36 ?_
          exact cm_ret d_TR_isWord_37 rfl (jnz (by omega)) (⟨0, rfl, by omega, rfl, rfl, ⟨fun z => by omega, fun z => by omega⟩⟩)
        · skip
          refine jt_iconst d_TR_isWord_32 ?_
          refine jt_goto (t := 37) d_TR_isWord_33 rfl ?_
          exact cm_ret d_TR_isWord_37 rfl (jnz (by omega)) (⟨1, rfl, by omega, rfl, rfl, ⟨fun z => by omega, fun z => by omega⟩⟩)
set_option maxRecDepth 100000 in
set_option maxHeartbeats 4000000 in
theorem l4_EX_endOfArgument_xv (G : jG) (d b : Nat) (q : Int) (I : Nat → Nat → Int) (A : Nat → Int → Int) (hI : cSI I) (hA : cSA A) (X9 : Int → Int) (hX : A 40 = X9) (Y9 : Int → Int) (hY : A 41 = Y9) (N9 : Int) (hN : I 39 3 = N9) (hq : 0 ≤ q ∧ q ≤ N9) (f0 : jF) (sz : Nat)   : ∀ (n9 : Nat) (n : Int) (e : Int) (J : Nat → Nat → Int) (B : Nat → Int → Int), cPx [] [] I A J B → (q ≤ e ∧ e ≤ N9) → (0 ≤ n ∧ n ≤ e) → (xEnd N9 X9 Y9 (N9 - e).toNat e n = xEnd N9 X9 Y9 (N9 - q).toNat q 0) → (J = I) → (B = A) → (B 40 = X9) → (B 41 = Y9) → (J 39 3 = N9) → 300 - e < (n9 : Int) → jt (jm G Y_EX_endOfArgument (gR (d + 1)) (cQ b f0 sz (fun (rv : Option Value) (I2 : Nat → Nat → Int) (A2 : Nat → Int → Int) => ∃ y : Int, rv = some (.int (jI y)) ∧ (0 ≤ y ∧ y ≤ 300) ∧ I2 = I ∧ A2 = A ∧ y = xEnd N9 X9 Y9 (N9 - q).toNat q 0))) 4 [(0, .ref (b + 39)), (1, .int (jI q)), (2, .int (jI n)), (3, .int (jI e))] [] (cmf b f0 J B) sz 0 0 := by
  have r39 : 0 ≤ I 39 3 ∧ I 39 3 ≤ 300 := hI 39 3
  intro n9
  induction n9 with
  | zero =>
    intro n e J B hJ e0 n0 he eJ eB cX cY cN hmeas
    exfalso
    omega
  | succ n9 ih =>
    intro n e J B hJ e0 n0 he eJ eB cX cY cN hmeas
    refine jt_iload_n d_EX_endOfArgument_4 rfl ?_
    refine jt_aload_n d_EX_endOfArgument_5 rfl ?_
    refine cm_get (k := 39) (v := .int (jI (J 39 3))) d_EX_endOfArgument_6 EX_f38 (by decide) (cc_1 rfl) rfl ?_
    have rb101 : 0 ≤ J 39 3 ∧ J 39 3 ≤ 300 := hJ.1 39 3
    refine jt_icmp_ge (t := 69) d_EX_endOfArgument_9 rfl (by unfold jRi; omega) (by unfold jRi; omega) (fun c102 => ?_) (fun c102 => ?_)
    · skip
      refine jt_aload_n d_EX_endOfArgument_69 rfl ?_
      refine cm_get (k := 39) (v := .int (jI (J 39 3))) d_EX_endOfArgument_70 EX_f38 (by decide) (cc_1 rfl) rfl ?_
      exact cm_ret d_EX_endOfArgument_73 rfl rfl (⟨J 39 3, rfl, by omega, eJ, eB, by rw [← he, xEnd_stop N9 X9 Y9 _ e n (by omega)]; try omega⟩)
    · skip
      refine jt_aload_n d_EX_endOfArgument_12 rfl ?_
      refine jt_iload_n d_EX_endOfArgument_13 rfl ?_
      refine jt_iconst d_EX_endOfArgument_14 ?_
      refine cct_callV (Y := Y_TR_isWord) (ci := 0) (k := 39) (As := [.int (jI e), .int (jI 4)]) (rest := []) d_EX_endOfArgument_15 EX_c73 yk_TR_isWord yv_TR_isWord rfl (Nat.le_of_ble_eq_true rfl) (by decide) (cc_1 rfl) rfl rfl (Nat.le_of_ble_eq_true rfl) (v_TR_isWord_x G _ b e 4 J B hJ.1 hJ.2.1 X9 cX Y9 cY N9 cN (by omega) (by omega)) (fun rvq103 Iq103 Aq103 hq103 => ?_)
      obtain ⟨yq103, rfl, ryq103, hIq103, hAq103, hxq103⟩ := hq103
      rw [hIq103, hAq103]
      by_cases gbq103 : yq103 = 1
      · skip
        obtain rfl : yq103 = 1 := by omega
        have hwq103 := hxq103.1 rfl
        show jt _ 18 [(0, .ref (b + 39)), (1, .int (jI q)), (2, .int (jI n)), (3, .int (jI e))] [.int (jI 1)] (cmf b f0 J B) _ _ _
        refine jt_istore (L' := [(0, .ref (b + 39)), (1, .int (jI q)), (2, .int (jI n)), (3, .int (jI e)), (4, .int (jI 1))]) d_EX_endOfArgument_18 (Nat.le_of_ble_eq_true rfl) rfl ?_
        refine jt_iload_n d_EX_endOfArgument_20 rfl ?_
        refine jt_if_ne (t := 40) d_EX_endOfArgument_21 rfl (by unfold jRi; omega) (fun c104 => ?_) (fun c104 => ?_)
        · skip
          refine jt_iload d_EX_endOfArgument_40 rfl ?_
          refine jt_if_eq (t := 51) d_EX_endOfArgument_42 rfl (by unfold jRi; omega) (fun c105 => ?_) (fun c105 => ?_)
          · skip
            exfalso
            omega
          · skip
            refine jt_iinc (L' := [(0, .ref (b + 39)), (1, .int (jI q)), (2, .int (jI (n + (-1)))), (3, .int (jI e)), (4, .int (jI 1))]) d_EX_endOfArgument_45 rfl (Nat.le_of_ble_eq_true rfl) rfl ?_
            refine jt_goto (t := 63) d_EX_endOfArgument_48 rfl ?_
            refine jt_iinc (L' := [(0, .ref (b + 39)), (1, .int (jI q)), (2, .int (jI (n + (-1)))), (3, .int (jI (e + 1))), (4, .int (jI 1))]) d_EX_endOfArgument_63 rfl (Nat.le_of_ble_eq_true rfl) rfl ?_
            refine jt_goto (t := 4) d_EX_endOfArgument_66 rfl ?_
            refine jt_sub (L' := [(0, .ref (b + 39)), (1, .int (jI q)), (2, .int (jI (n + (-1)))), (3, .int (jI (e + 1)))]) (fun _ h => List.mem_append_left [(4, Value.int (jI 1))] h) ?_
            exact ih (n + (-1)) (e + 1) J B hJ (by omega) (by omega) (by rw [← he]; exact (xEnd_go N9 X9 Y9 e n _ (by omega) (fun z => by omega) (fun z => by omega) (fun z1 z2 => by omega)).symm) eJ eB cX cY cN (by omega)
        · skip
          refine jt_iload d_EX_endOfArgument_24 rfl ?_
          refine jt_if_ne (t := 38) d_EX_endOfArgument_26 rfl (by unfold jRi; omega) (fun c106 => ?_) (fun c106 => ?_)
          · skip
            refine jt_iload_n d_EX_endOfArgument_38 rfl ?_
            exact cm_ret d_EX_endOfArgument_39 rfl rfl (⟨e, rfl, by omega, eJ, eB, by rw [← he, xEnd_stop N9 X9 Y9 _ e n (by omega)]; try omega⟩)
          · skip
            exfalso
            omega
      · skip
        obtain rfl : yq103 = 0 := by omega
        have hwq103 := hxq103.2 rfl
        show jt _ 18 [(0, .ref (b + 39)), (1, .int (jI q)), (2, .int (jI n)), (3, .int (jI e))] [.int (jI 0)] (cmf b f0 J B) _ _ _
        refine jt_istore (L' := [(0, .ref (b + 39)), (1, .int (jI q)), (2, .int (jI n)), (3, .int (jI e)), (4, .int (jI 0))]) d_EX_endOfArgument_18 (Nat.le_of_ble_eq_true rfl) rfl ?_
        refine jt_iload_n d_EX_endOfArgument_20 rfl ?_
        refine jt_if_ne (t := 40) d_EX_endOfArgument_21 rfl (by unfold jRi; omega) (fun c107 => ?_) (fun c107 => ?_)
        · skip
          refine jt_iload d_EX_endOfArgument_40 rfl ?_
          refine jt_if_eq (t := 51) d_EX_endOfArgument_42 rfl (by unfold jRi; omega) (fun c108 => ?_) (fun c108 => ?_)
          · skip
            refine jt_aload_n d_EX_endOfArgument_51 rfl ?_
            refine jt_iload_n d_EX_endOfArgument_52 rfl ?_
            refine jt_iconst d_EX_endOfArgument_53 ?_
            refine cct_callV (Y := Y_TR_isWord) (ci := 0) (k := 39) (As := [.int (jI e), .int (jI 3)]) (rest := []) d_EX_endOfArgument_54 EX_c73 yk_TR_isWord yv_TR_isWord rfl (Nat.le_of_ble_eq_true rfl) (by decide) (cc_1 rfl) rfl rfl (Nat.le_of_ble_eq_true rfl) (v_TR_isWord_x G _ b e 3 J B hJ.1 hJ.2.1 X9 cX Y9 cY N9 cN (by omega) (by omega)) (fun rvq109 Iq109 Aq109 hq109 => ?_)
            obtain ⟨yq109, rfl, ryq109, hIq109, hAq109, hxq109⟩ := hq109
            rw [hIq109, hAq109]
            by_cases gbq109 : yq109 = 1
            · skip
              obtain rfl : yq109 = 1 := by omega
              have hwq109 := hxq109.1 rfl
              show jt _ 57 [(0, .ref (b + 39)), (1, .int (jI q)), (2, .int (jI n)), (3, .int (jI e)), (4, .int (jI 0))] [.int (jI 1)] (cmf b f0 J B) _ _ _
              refine jt_if_eq (t := 63) d_EX_endOfArgument_57 rfl (by unfold jRi; omega) (fun c110 => ?_) (fun c110 => ?_)
              · skip
                exfalso
                omega
              · skip
                refine jt_iinc (L' := [(0, .ref (b + 39)), (1, .int (jI q)), (2, .int (jI (n + 1))), (3, .int (jI e)), (4, .int (jI 0))]) d_EX_endOfArgument_60 rfl (Nat.le_of_ble_eq_true rfl) rfl ?_
                refine jt_iinc (L' := [(0, .ref (b + 39)), (1, .int (jI q)), (2, .int (jI (n + 1))), (3, .int (jI (e + 1))), (4, .int (jI 0))]) d_EX_endOfArgument_63 rfl (Nat.le_of_ble_eq_true rfl) rfl ?_
                refine jt_goto (t := 4) d_EX_endOfArgument_66 rfl ?_
                refine jt_sub (L' := [(0, .ref (b + 39)), (1, .int (jI q)), (2, .int (jI (n + 1))), (3, .int (jI (e + 1)))]) (fun _ h => List.mem_append_left [(4, Value.int (jI 0))] h) ?_
                exact ih (n + 1) (e + 1) J B hJ (by omega) (by omega) (by rw [← he]; exact (xEnd_go N9 X9 Y9 e n _ (by omega) (fun z => by omega) (fun z => by omega) (fun z1 z2 => by omega)).symm) eJ eB cX cY cN (by omega)
            · skip
              obtain rfl : yq109 = 0 := by omega
              have hwq109 := hxq109.2 rfl
              show jt _ 57 [(0, .ref (b + 39)), (1, .int (jI q)), (2, .int (jI n)), (3, .int (jI e)), (4, .int (jI 0))] [.int (jI 0)] (cmf b f0 J B) _ _ _
              refine jt_if_eq (t := 63) d_EX_endOfArgument_57 rfl (by unfold jRi; omega) (fun c111 => ?_) (fun c111 => ?_)
              · skip
                refine jt_iinc (L' := [(0, .ref (b + 39)), (1, .int (jI q)), (2, .int (jI n)), (3, .int (jI (e + 1))), (4, .int (jI 0))]) d_EX_endOfArgument_63 rfl (Nat.le_of_ble_eq_true rfl) rfl ?_
                refine jt_goto (t := 4) d_EX_endOfArgument_66 rfl ?_
                refine jt_sub (L' := [(0, .ref (b + 39)), (1, .int (jI q)), (2, .int (jI n)), (3, .int (jI (e + 1)))]) (fun _ h => List.mem_append_left [(4, Value.int (jI 0))] h) ?_
                exact ih n (e + 1) J B hJ (by omega) (by omega) (by rw [← he]; exact (xEnd_go N9 X9 Y9 e n _ (by omega) (fun z => by omega) (fun z => by omega) (fun z1 z2 => by omega)).symm) eJ eB cX cY cN (by omega)
              · skip
                exfalso
                omega
          · skip
            exfalso
            omega
        · skip
          refine jt_iload d_EX_endOfArgument_24 rfl ?_
          refine jt_if_ne (t := 38) d_EX_endOfArgument_26 rfl (by unfold jRi; omega) (fun c112 => ?_) (fun c112 => ?_)
          · skip
            exfalso
            omega
          · skip
            refine jt_aload_n d_EX_endOfArgument_29 rfl ?_
            refine jt_iload_n d_EX_endOfArgument_30 rfl ?_
            refine jt_iconst d_EX_endOfArgument_31 ?_
            refine cct_callV (Y := Y_TR_isWord) (ci := 0) (k := 39) (As := [.int (jI e), .int (jI 5)]) (rest := []) d_EX_endOfArgument_32 EX_c73 yk_TR_isWord yv_TR_isWord rfl (Nat.le_of_ble_eq_true rfl) (by decide) (cc_1 rfl) rfl rfl (Nat.le_of_ble_eq_true rfl) (v_TR_isWord_x G _ b e 5 J B hJ.1 hJ.2.1 X9 cX Y9 cY N9 cN (by omega) (by omega)) (fun rvq113 Iq113 Aq113 hq113 => ?_)
            obtain ⟨yq113, rfl, ryq113, hIq113, hAq113, hxq113⟩ := hq113
            rw [hIq113, hAq113]
            by_cases gbq113 : yq113 = 1
            · skip
              obtain rfl : yq113 = 1 := by omega
              have hwq113 := hxq113.1 rfl
              show jt _ 35 [(0, .ref (b + 39)), (1, .int (jI q)), (2, .int (jI n)), (3, .int (jI e)), (4, .int (jI 0))] [.int (jI 1)] (cmf b f0 J B) _ _ _
              refine jt_if_eq (t := 40) d_EX_endOfArgument_35 rfl (by unfold jRi; omega) (fun c114 => ?_) (fun c114 => ?_)
              · skip
                exfalso
                omega
              · skip
                refine jt_iload_n d_EX_endOfArgument_38 rfl ?_
                exact cm_ret d_EX_endOfArgument_39 rfl rfl (⟨e, rfl, by omega, eJ, eB, by rw [← he, xEnd_stop N9 X9 Y9 _ e n (by omega)]; try omega⟩)
            · skip
              obtain rfl : yq113 = 0 := by omega
              have hwq113 := hxq113.2 rfl
              show jt _ 35 [(0, .ref (b + 39)), (1, .int (jI q)), (2, .int (jI n)), (3, .int (jI e)), (4, .int (jI 0))] [.int (jI 0)] (cmf b f0 J B) _ _ _
              refine jt_if_eq (t := 40) d_EX_endOfArgument_35 rfl (by unfold jRi; omega) (fun c115 => ?_) (fun c115 => ?_)
              · skip
                refine jt_iload d_EX_endOfArgument_40 rfl ?_
                refine jt_if_eq (t := 51) d_EX_endOfArgument_42 rfl (by unfold jRi; omega) (fun c116 => ?_) (fun c116 => ?_)
                · skip
                  refine jt_aload_n d_EX_endOfArgument_51 rfl ?_
                  refine jt_iload_n d_EX_endOfArgument_52 rfl ?_
                  refine jt_iconst d_EX_endOfArgument_53 ?_
                  refine cct_callV (Y := Y_TR_isWord) (ci := 0) (k := 39) (As := [.int (jI e), .int (jI 3)]) (rest := []) d_EX_endOfArgument_54 EX_c73 yk_TR_isWord yv_TR_isWord rfl (Nat.le_of_ble_eq_true rfl) (by decide) (cc_1 rfl) rfl rfl (Nat.le_of_ble_eq_true rfl) (v_TR_isWord_x G _ b e 3 J B hJ.1 hJ.2.1 X9 cX Y9 cY N9 cN (by omega) (by omega)) (fun rvq117 Iq117 Aq117 hq117 => ?_)
                  obtain ⟨yq117, rfl, ryq117, hIq117, hAq117, hxq117⟩ := hq117
                  rw [hIq117, hAq117]
                  by_cases gbq117 : yq117 = 1
                  · skip
                    obtain rfl : yq117 = 1 := by omega
                    have hwq117 := hxq117.1 rfl
                    show jt _ 57 [(0, .ref (b + 39)), (1, .int (jI q)), (2, .int (jI n)), (3, .int (jI e)), (4, .int (jI 0))] [.int (jI 1)] (cmf b f0 J B) _ _ _
                    refine jt_if_eq (t := 63) d_EX_endOfArgument_57 rfl (by unfold jRi; omega) (fun c118 => ?_) (fun c118 => ?_)
                    · skip
                      exfalso
                      omega
                    · skip
                      refine jt_iinc (L' := [(0, .ref (b + 39)), (1, .int (jI q)), (2, .int (jI (n + 1))), (3, .int (jI e)), (4, .int (jI 0))]) d_EX_endOfArgument_60 rfl (Nat.le_of_ble_eq_true rfl) rfl ?_
                      refine jt_iinc (L' := [(0, .ref (b + 39)), (1, .int (jI q)), (2, .int (jI (n + 1))), (3, .int (jI (e + 1))), (4, .int (jI 0))]) d_EX_endOfArgument_63 rfl (Nat.le_of_ble_eq_true rfl) rfl ?_
                      refine jt_goto (t := 4) d_EX_endOfArgument_66 rfl ?_
                      refine jt_sub (L' := [(0, .ref (b + 39)), (1, .int (jI q)), (2, .int (jI (n + 1))), (3, .int (jI (e + 1)))]) (fun _ h => List.mem_append_left [(4, Value.int (jI 0))] h) ?_
                      exact ih (n + 1) (e + 1) J B hJ (by omega) (by omega) (by rw [← he]; exact (xEnd_go N9 X9 Y9 e n _ (by omega) (fun z => by omega) (fun z => by omega) (fun z1 z2 => by omega)).symm) eJ eB cX cY cN (by omega)
                  · skip
                    obtain rfl : yq117 = 0 := by omega
                    have hwq117 := hxq117.2 rfl
                    show jt _ 57 [(0, .ref (b + 39)), (1, .int (jI q)), (2, .int (jI n)), (3, .int (jI e)), (4, .int (jI 0))] [.int (jI 0)] (cmf b f0 J B) _ _ _
                    refine jt_if_eq (t := 63) d_EX_endOfArgument_57 rfl (by unfold jRi; omega) (fun c119 => ?_) (fun c119 => ?_)
                    · skip
                      refine jt_iinc (L' := [(0, .ref (b + 39)), (1, .int (jI q)), (2, .int (jI n)), (3, .int (jI (e + 1))), (4, .int (jI 0))]) d_EX_endOfArgument_63 rfl (Nat.le_of_ble_eq_true rfl) rfl ?_
                      refine jt_goto (t := 4) d_EX_endOfArgument_66 rfl ?_
                      refine jt_sub (L' := [(0, .ref (b + 39)), (1, .int (jI q)), (2, .int (jI n)), (3, .int (jI (e + 1)))]) (fun _ h => List.mem_append_left [(4, Value.int (jI 0))] h) ?_
                      exact ih n (e + 1) J B hJ (by omega) (by omega) (by rw [← he]; exact (xEnd_go N9 X9 Y9 e n _ (by omega) (fun z => by omega) (fun z => by omega) (fun z1 z2 => by omega)).symm) eJ eB cX cY cN (by omega)
                    · skip
                      exfalso
                      omega
                · skip
                  exfalso
                  omega
              · skip
                exfalso
                omega
set_option maxRecDepth 100000 in
set_option maxHeartbeats 4000000 in
theorem v_EX_endOfArgument_x (G : jG) (d b : Nat) (q : Int) (I : Nat → Nat → Int) (A : Nat → Int → Int) (hI : cSI I) (hA : cSA A) (X9 : Int → Int) (hX : A 40 = X9) (Y9 : Int → Int) (hY : A 41 = Y9) (N9 : Int) (hN : I 39 3 = N9) (hq : 0 ≤ q ∧ q ≤ N9) : cct G Y_EX_endOfArgument (d + 1) b [.ref (b + 39), .int (jI q)] I A (fun (rv : Option Value) (I2 : Nat → Nat → Int) (A2 : Nat → Int → Int) => ∃ y : Int, rv = some (.int (jI y)) ∧ (0 ≤ y ∧ y ≤ 300) ∧ I2 = I ∧ A2 = A ∧ y = xEnd N9 X9 Y9 (N9 - q).toNat q 0) := by
  refine cct_of (by decide) (Nat.le_of_ble_eq_true rfl) (fun f0 sz => ?_)
  show jt _ 0 [(0, .ref (b + 39)), (1, .int (jI q))] [] _ _ _ _
  have r39 : 0 ≤ I 39 3 ∧ I 39 3 ≤ 300 := hI 39 3
  have hz0 : cPx [] [] I A I A := cPx.refl hI hA
  refine jt_iconst d_EX_endOfArgument_0 ?_
  refine jt_istore_n (L' := [(0, .ref (b + 39)), (1, .int (jI q)), (2, .int (jI 0))]) d_EX_endOfArgument_1 (Nat.le_of_ble_eq_true rfl) rfl ?_
  refine jt_iload_n d_EX_endOfArgument_2 rfl ?_
  refine jt_istore_n (L' := [(0, .ref (b + 39)), (1, .int (jI q)), (2, .int (jI 0)), (3, .int (jI q))]) d_EX_endOfArgument_3 (Nat.le_of_ble_eq_true rfl) rfl ?_
  exact l4_EX_endOfArgument_xv G d b q I A hI hA X9 hX Y9 hY N9 hN hq f0 sz  301 0 q I A hz0 (by omega) (by omega) rfl rfl rfl hX hY hN (by omega)
set_option maxRecDepth 100000 in
set_option maxHeartbeats 4000000 in
theorem l27_EX_findArguments_xv (G : jG) (d b : Nat) (n : Int) (I : Nat → Nat → Int) (A : Nat → Int → Int) (hI : cSI I) (hA : cSA A) (X9 : Int → Int) (hX : A 40 = X9) (Y9 : Int → Int) (hY : A 41 = Y9) (N9 : Int) (hN : I 39 3 = N9) (hn : 1 ≤ n ∧ n ≤ 3) (f0 : jF) (sz : Nat)  (hw3 : xW N9 X9 Y9 (I 5 5 + 1) 3) : ∀ (n9 : Nat) (q : Int) (k : Int) (J : Nat → Nat → Int) (B : Nat → Int → Int), cPx [] [12, 13] I A J B → (0 ≤ q ∧ q ≤ N9) → (0 ≤ k ∧ k ≤ n) → (q = xAq N9 X9 Y9 (I 5 5) k.toNat) → (∀ j, 0 ≤ j → j < k → xAo N9 X9 Y9 (I 5 5) n j) → (∀ j, 0 ≤ j → j < k → B 12 j = xAq N9 X9 Y9 (I 5 5) j.toNat ∧ B 13 j = xAe N9 X9 Y9 (xAq N9 X9 Y9 (I 5 5) j.toNat)) → (B 40 = X9) → (B 41 = Y9) → (J 39 3 = N9) → 3 - k < (n9 : Int) → jt (jm G Y_EX_findArguments (gR (d + 2)) (cQ b f0 sz (fun (rv : Option Value) (I2 : Nat → Nat → Int) (A2 : Nat → Int → Int) => ∃ y : Int, rv = some (.int (jI y)) ∧ (-2 ≤ y ∧ y ≤ 300 ∧ y ≠ -1) ∧ cPx [] [12, 13] I A I2 A2 ∧ (xAok N9 X9 Y9 (I 5 5) n → y = xAq N9 X9 Y9 (I 5 5) n.toNat ∧ ∀ j, 0 ≤ j → j < n → A2 12 j = xAq N9 X9 Y9 (I 5 5) j.toNat ∧ A2 13 j = xAe N9 X9 Y9 (xAq N9 X9 Y9 (I 5 5) j.toNat)) ∧ (¬ xAok N9 X9 Y9 (I 5 5) n → y = -2)))) 27 [(0, .ref (b + 5)), (1, .ref (b + 39)), (2, .int (jI n)), (3, .int (jI q)), (4, .int (jI k))] [] (cmf b f0 J B) sz 0 0 := by
  have r55 : 0 ≤ I 5 5 ∧ I 5 5 ≤ 300 := hI 5 5
  have r39 : 0 ≤ I 39 3 ∧ I 39 3 ≤ 300 := hI 39 3
  intro n9
  induction n9 with
  | zero =>
    intro q k J B hJ q0 k0 hq hj hXY cX cY cN hmeas
    have f55 : J 5 5 = I 5 5 := hJ.2.2.1 5 5 rfl
    exfalso
    omega
  | succ n9 ih =>
    intro q k J B hJ q0 k0 hq hj hXY cX cY cN hmeas
    have f55 : J 5 5 = I 5 5 := hJ.2.2.1 5 5 rfl
    refine jt_iload d_EX_findArguments_27 rfl ?_
    refine jt_iload_n d_EX_findArguments_29 rfl ?_
    refine jt_icmp_ge (t := 99) d_EX_findArguments_30 rfl (by unfold jRi; omega) (by unfold jRi; omega) (fun c101 => ?_) (fun c101 => ?_)
    · skip
      refine jt_iload_n d_EX_findArguments_99 rfl ?_
      exact cm_ret d_EX_findArguments_100 rfl rfl (⟨q, rfl, by omega, hJ, fun _ => ⟨by rw [hq, show k = n by omega], fun j a c => hXY j a (by omega)⟩, fun z => absurd (xAok_mk hw3 (fun j a c => hj j a (by omega))) z⟩)
    · skip
      refine jt_aload_n d_EX_findArguments_33 rfl ?_
      refine cm_get (k := 5) (v := .ref (b + 12)) d_EX_findArguments_34 EX_f28 (by decide) cc_2 rfl ?_
      refine jt_iload d_EX_findArguments_37 rfl ?_
      refine jt_iload_n d_EX_findArguments_39 rfl ?_
      refine cm_st0 (k := 12) (n := 3) (v := q) d_EX_findArguments_40 (by decide) rfl rfl (by omega) (by omega) (by omega) ?_
      have p102 := cPx.A 12 (ju (B 12) k q) hJ (Or.inl rfl) (gju (hJ.2.1 12) (show 0 ≤ q ∧ q ≤ 300 by omega))
      refine jt_aload_n d_EX_findArguments_41 rfl ?_
      refine cm_get (k := 5) (v := .ref (b + 13)) d_EX_findArguments_42 EX_f31 (by decide) cc_2 rfl ?_
      refine jt_iload d_EX_findArguments_45 rfl ?_
      refine jt_aload_n d_EX_findArguments_47 rfl ?_
      refine jt_iload_n d_EX_findArguments_48 rfl ?_
      refine cct_callS (Y := Y_EX_endOfArgument) (As := [.ref (b + 39), .int (jI q)]) (rest := [.int (jI k), .ref (b + 13)]) d_EX_findArguments_49 EX_c77 yk_EX_endOfArgument ys_EX_endOfArgument (Nat.le_of_ble_eq_true rfl) rfl rfl (Nat.le_of_ble_eq_true rfl) (v_EX_endOfArgument_x G _ b q J (va_up B 12 (ju (B 12) k q)) p102.1 p102.2.1 X9 cX Y9 cY N9 cN (by omega)) (fun rvq103 Iq103 Aq103 hq103 => ?_)
      obtain ⟨yq103, rfl, ryq103, hIq103, hAq103, hxq103⟩ := hq103
      rw [hIq103, hAq103]
      show jt _ 52 [(0, .ref (b + 5)), (1, .ref (b + 39)), (2, .int (jI n)), (3, .int (jI q)), (4, .int (jI k))] [.int (jI yq103), .int (jI k), .ref (b + 13)] (cmf b f0 J (va_up B 12 (ju (B 12) k q))) _ _ _
      have hye : yq103 = xEnd N9 X9 Y9 (N9 - q).toNat q 0 := hxq103
      have hyl := xEnd_le N9 X9 Y9 (N9 - q).toNat q 0
      refine cm_st0 (k := 13) (n := 3) (v := yq103) d_EX_findArguments_52 (by decide) rfl rfl (by omega) (by omega) (by omega) ?_
      have p104 := cPx.A 13 (ju (B 13) k yq103) p102 (Or.inl rfl) (gju (p102.2.1 13) (show 0 ≤ yq103 ∧ yq103 ≤ 300 by omega))
      refine jt_aload_n d_EX_findArguments_53 rfl ?_
      refine jt_aload_n d_EX_findArguments_54 rfl ?_
      refine cm_get (k := 5) (v := .ref (b + 13)) d_EX_findArguments_55 EX_f31 (by decide) cc_2 rfl ?_
      refine jt_iload d_EX_findArguments_58 rfl ?_
      refine cm_ld0 (k := 13) (n := 3) (v := (ju (B 13) k yq103) k) d_EX_findArguments_60 (by decide) rfl rfl (by omega) (by omega) (by omega) rfl ?_
      refine jt_topi (fun v105 ev105 => ?_)
      have bv105 : 0 ≤ v105 ∧ v105 ≤ 300 := by rw [ev105]; exact p104.2.1 13 k
      rw [ju_self] at ev105
      refine jt_iload d_EX_findArguments_61 rfl ?_
      refine jt_iload_n d_EX_findArguments_63 rfl ?_
      refine jt_iconst d_EX_findArguments_64 ?_
      refine jt_isub d_EX_findArguments_65 ?_
      refine jt_icmp_ne (t := 73) d_EX_findArguments_66 rfl (by unfold jRi; omega) (by unfold jRi; omega) (fun c106 => ?_) (fun c106 => ?_)
      · skip
        refine jt_iconst d_EX_findArguments_73 ?_
        refine cct_callV (Y := Y_TR_isWord) (ci := 0) (k := 39) (As := [.int (jI v105), .int (jI 5)]) (rest := []) d_EX_findArguments_74 EX_c73 yk_TR_isWord yv_TR_isWord rfl (Nat.le_of_ble_eq_true rfl) (by decide) (cc_1 rfl) rfl rfl (Nat.le_of_ble_eq_true rfl) (v_TR_isWord_x G _ b v105 5 J (va_up (va_up B 12 (ju (B 12) k q)) 13 (ju (B 13) k yq103)) p104.1 p104.2.1 X9 cX Y9 cY N9 cN (by omega) (by omega)) (fun rvq107 Iq107 Aq107 hq107 => ?_)
        obtain ⟨yq107, rfl, ryq107, hIq107, hAq107, hxq107⟩ := hq107
        rw [hIq107, hAq107]
        by_cases gbq107 : yq107 = 1
        · skip
          obtain rfl : yq107 = 1 := by omega
          have hwq107 := hxq107.1 rfl
          show jt _ 77 [(0, .ref (b + 5)), (1, .ref (b + 39)), (2, .int (jI n)), (3, .int (jI q)), (4, .int (jI k))] [.int (jI 1)] (cmf b f0 J (va_up (va_up B 12 (ju (B 12) k q)) 13 (ju (B 13) k yq103))) _ _ _
          refine jt_if_ne (t := 83) d_EX_findArguments_77 rfl (by unfold jRi; omega) (fun c108 => ?_) (fun c108 => ?_)
          · skip
            refine jt_aload_n d_EX_findArguments_83 rfl ?_
            refine cm_get (k := 5) (v := .ref (b + 13)) d_EX_findArguments_84 EX_f31 (by decide) cc_2 rfl ?_
            refine jt_iload d_EX_findArguments_87 rfl ?_
            refine cm_ld0 (k := 13) (n := 3) (v := (ju (B 13) k yq103) k) d_EX_findArguments_89 (by decide) rfl rfl (by omega) (by omega) (by omega) rfl ?_
            refine jt_topi (fun v109 ev109 => ?_)
            have bv109 : 0 ≤ v109 ∧ v109 ≤ 300 := by rw [ev109]; exact p104.2.1 13 k
            rw [ju_self] at ev109
            refine jt_iconst d_EX_findArguments_90 ?_
            refine jt_iadd d_EX_findArguments_91 ?_
            refine jt_topi (fun v110 ev110 => ?_)
            refine jt_istore_n (L' := [(0, .ref (b + 5)), (1, .ref (b + 39)), (2, .int (jI n)), (3, .int (jI v110)), (4, .int (jI k))]) d_EX_findArguments_92 (Nat.le_of_ble_eq_true rfl) rfl ?_
            refine jt_iinc (L' := [(0, .ref (b + 5)), (1, .ref (b + 39)), (2, .int (jI n)), (3, .int (jI v110)), (4, .int (jI (k + 1)))]) d_EX_findArguments_93 rfl (Nat.le_of_ble_eq_true rfl) rfl ?_
            refine jt_goto (t := 27) d_EX_findArguments_96 rfl ?_
            exact ih v110 (k + 1) J (va_up (va_up B 12 (ju (B 12) k q)) 13 (ju (B 13) k yq103)) p104 (by omega) (by omega) (by rw [xAq_s N9 X9 Y9 (I 5 5) k (by omega), ← hq]; omega) (fun j a c => by
            by_cases c2 : j = k
            · subst c2; exact xAo_ok hq (by omega) (fun z5 => by omega) (fun z4 => by omega) hwq107.2
            · exact hj j a (by omega)) (fun j a c => by
            by_cases c2 : j = k
            · subst c2; exact ⟨(ju_self _ _ _).trans hq, (ju_self _ _ _).trans (by rw [hye, ← hq]; rfl)⟩
            · have h9 := hXY j a (by omega); exact ⟨(ju_ne _ _ c2).trans h9.1, (ju_ne _ _ c2).trans h9.2⟩) cX cY cN (by omega)
          · skip
            exfalso
            omega
        · skip
          obtain rfl : yq107 = 0 := by omega
          have hwq107 := hxq107.2 rfl
          show jt _ 77 [(0, .ref (b + 5)), (1, .ref (b + 39)), (2, .int (jI n)), (3, .int (jI q)), (4, .int (jI k))] [.int (jI 0)] (cmf b f0 J (va_up (va_up B 12 (ju (B 12) k q)) 13 (ju (B 13) k yq103))) _ _ _
          refine jt_if_ne (t := 83) d_EX_findArguments_77 rfl (by unfold jRi; omega) (fun c111 => ?_) (fun c111 => ?_)
          · skip
            exfalso
            omega
          · skip
            refine jt_bipush d_EX_findArguments_80 (by omega) ?_
            exact cm_ret d_EX_findArguments_82 rfl rfl (⟨-2, rfl, by omega, p104, fun z => absurd (xAok_o z k (by omega) (by omega)) (xAo_bad (v := v105) (w := 5) hq (by omega) (fun z5 => by omega) (fun z4 => by omega) (fun z6 => hwq107 ⟨by omega, z6⟩)), fun _ => rfl⟩)
      · skip
        refine jt_iconst d_EX_findArguments_69 ?_
        refine jt_goto (t := 74) d_EX_findArguments_70 rfl ?_
        refine cct_callV (Y := Y_TR_isWord) (ci := 0) (k := 39) (As := [.int (jI v105), .int (jI 4)]) (rest := []) d_EX_findArguments_74 EX_c73 yk_TR_isWord yv_TR_isWord rfl (Nat.le_of_ble_eq_true rfl) (by decide) (cc_1 rfl) rfl rfl (Nat.le_of_ble_eq_true rfl) (v_TR_isWord_x G _ b v105 4 J (va_up (va_up B 12 (ju (B 12) k q)) 13 (ju (B 13) k yq103)) p104.1 p104.2.1 X9 cX Y9 cY N9 cN (by omega) (by omega)) (fun rvq112 Iq112 Aq112 hq112 => ?_)
        obtain ⟨yq112, rfl, ryq112, hIq112, hAq112, hxq112⟩ := hq112
        rw [hIq112, hAq112]
        by_cases gbq112 : yq112 = 1
        · skip
          obtain rfl : yq112 = 1 := by omega
          have hwq112 := hxq112.1 rfl
          show jt _ 77 [(0, .ref (b + 5)), (1, .ref (b + 39)), (2, .int (jI n)), (3, .int (jI q)), (4, .int (jI k))] [.int (jI 1)] (cmf b f0 J (va_up (va_up B 12 (ju (B 12) k q)) 13 (ju (B 13) k yq103))) _ _ _
          refine jt_if_ne (t := 83) d_EX_findArguments_77 rfl (by unfold jRi; omega) (fun c113 => ?_) (fun c113 => ?_)
          · skip
            refine jt_aload_n d_EX_findArguments_83 rfl ?_
            refine cm_get (k := 5) (v := .ref (b + 13)) d_EX_findArguments_84 EX_f31 (by decide) cc_2 rfl ?_
            refine jt_iload d_EX_findArguments_87 rfl ?_
            refine cm_ld0 (k := 13) (n := 3) (v := (ju (B 13) k yq103) k) d_EX_findArguments_89 (by decide) rfl rfl (by omega) (by omega) (by omega) rfl ?_
            refine jt_topi (fun v114 ev114 => ?_)
            have bv114 : 0 ≤ v114 ∧ v114 ≤ 300 := by rw [ev114]; exact p104.2.1 13 k
            rw [ju_self] at ev114
            refine jt_iconst d_EX_findArguments_90 ?_
            refine jt_iadd d_EX_findArguments_91 ?_
            refine jt_topi (fun v115 ev115 => ?_)
            refine jt_istore_n (L' := [(0, .ref (b + 5)), (1, .ref (b + 39)), (2, .int (jI n)), (3, .int (jI v115)), (4, .int (jI k))]) d_EX_findArguments_92 (Nat.le_of_ble_eq_true rfl) rfl ?_
            refine jt_iinc (L' := [(0, .ref (b + 5)), (1, .ref (b + 39)), (2, .int (jI n)), (3, .int (jI v115)), (4, .int (jI (k + 1)))]) d_EX_findArguments_93 rfl (Nat.le_of_ble_eq_true rfl) rfl ?_
            refine jt_goto (t := 27) d_EX_findArguments_96 rfl ?_
            exact ih v115 (k + 1) J (va_up (va_up B 12 (ju (B 12) k q)) 13 (ju (B 13) k yq103)) p104 (by omega) (by omega) (by rw [xAq_s N9 X9 Y9 (I 5 5) k (by omega), ← hq]; omega) (fun j a c => by
            by_cases c2 : j = k
            · subst c2; exact xAo_ok hq (by omega) (fun z5 => by omega) (fun z4 => by omega) hwq112.2
            · exact hj j a (by omega)) (fun j a c => by
            by_cases c2 : j = k
            · subst c2; exact ⟨(ju_self _ _ _).trans hq, (ju_self _ _ _).trans (by rw [hye, ← hq]; rfl)⟩
            · have h9 := hXY j a (by omega); exact ⟨(ju_ne _ _ c2).trans h9.1, (ju_ne _ _ c2).trans h9.2⟩) cX cY cN (by omega)
          · skip
            exfalso
            omega
        · skip
          obtain rfl : yq112 = 0 := by omega
          have hwq112 := hxq112.2 rfl
          show jt _ 77 [(0, .ref (b + 5)), (1, .ref (b + 39)), (2, .int (jI n)), (3, .int (jI q)), (4, .int (jI k))] [.int (jI 0)] (cmf b f0 J (va_up (va_up B 12 (ju (B 12) k q)) 13 (ju (B 13) k yq103))) _ _ _
          refine jt_if_ne (t := 83) d_EX_findArguments_77 rfl (by unfold jRi; omega) (fun c116 => ?_) (fun c116 => ?_)
          · skip
            exfalso
            omega
          · skip
            refine jt_bipush d_EX_findArguments_80 (by omega) ?_
            exact cm_ret d_EX_findArguments_82 rfl rfl (⟨-2, rfl, by omega, p104, fun z => absurd (xAok_o z k (by omega) (by omega)) (xAo_bad (v := v105) (w := 4) hq (by omega) (fun z5 => by omega) (fun z4 => by omega) (fun z6 => hwq112 ⟨by omega, z6⟩)), fun _ => rfl⟩)
set_option maxRecDepth 100000 in
set_option maxHeartbeats 4000000 in
theorem v_EX_findArguments_x (G : jG) (d b : Nat) (n : Int) (I : Nat → Nat → Int) (A : Nat → Int → Int) (hI : cSI I) (hA : cSA A) (X9 : Int → Int) (hX : A 40 = X9) (Y9 : Int → Int) (hY : A 41 = Y9) (N9 : Int) (hN : I 39 3 = N9) (hn : 1 ≤ n ∧ n ≤ 3) : cct G Y_EX_findArguments (d + 2) b [.ref (b + 5), .ref (b + 39), .int (jI n)] I A (fun (rv : Option Value) (I2 : Nat → Nat → Int) (A2 : Nat → Int → Int) => ∃ y : Int, rv = some (.int (jI y)) ∧ (-2 ≤ y ∧ y ≤ 300 ∧ y ≠ -1) ∧ cPx [] [12, 13] I A I2 A2 ∧ (xAok N9 X9 Y9 (I 5 5) n → y = xAq N9 X9 Y9 (I 5 5) n.toNat ∧ ∀ j, 0 ≤ j → j < n → A2 12 j = xAq N9 X9 Y9 (I 5 5) j.toNat ∧ A2 13 j = xAe N9 X9 Y9 (xAq N9 X9 Y9 (I 5 5) j.toNat)) ∧ (¬ xAok N9 X9 Y9 (I 5 5) n → y = -2)) := by
  refine cct_of (by decide) (Nat.le_of_ble_eq_true rfl) (fun f0 sz => ?_)
  show jt _ 0 [(0, .ref (b + 5)), (1, .ref (b + 39)), (2, .int (jI n))] [] _ _ _ _
  have r55 : 0 ≤ I 5 5 ∧ I 5 5 ≤ 300 := hI 5 5
  have r39 : 0 ≤ I 39 3 ∧ I 39 3 ≤ 300 := hI 39 3
  have hz0 : cPx [] [12, 13] I A I A := cPx.refl hI hA
  refine jt_aload_n d_EX_findArguments_0 rfl ?_
  refine jt_aload_n d_EX_findArguments_1 rfl ?_
  refine cm_get (k := 5) (v := .int (jI (I 5 5))) d_EX_findArguments_2 EX_f42 (by decide) cc_2 rfl ?_
  have rb1 : 0 ≤ I 5 5 ∧ I 5 5 ≤ 300 := hz0.1 5 5
  refine jt_iconst d_EX_findArguments_5 ?_
  refine jt_iadd d_EX_findArguments_6 ?_
  refine jt_iconst d_EX_findArguments_7 ?_
  refine cct_callV (Y := Y_TR_isWord) (ci := 0) (k := 39) (As := [.int (jI ((I 5 5) + 1)), .int (jI 3)]) (rest := []) d_EX_findArguments_8 EX_c73 yk_TR_isWord yv_TR_isWord rfl (Nat.le_of_ble_eq_true rfl) (by decide) (cc_1 rfl) rfl rfl (Nat.le_of_ble_eq_true rfl) (v_TR_isWord_x G _ b ((I 5 5) + 1) 3 I A hz0.1 hz0.2.1 X9 hX Y9 hY N9 hN (by omega) (by omega)) (fun rvq2 Iq2 Aq2 hq2 => ?_)
  obtain ⟨yq2, rfl, ryq2, hIq2, hAq2, hxq2⟩ := hq2
  rw [hIq2, hAq2]
  by_cases gbq2 : yq2 = 1
  · skip
    obtain rfl : yq2 = 1 := by omega
    have hwq2 := hxq2.1 rfl
    show jt _ 11 [(0, .ref (b + 5)), (1, .ref (b + 39)), (2, .int (jI n))] [.int (jI 1)] (cmf b f0 I A) _ _ _
    refine jt_if_ne (t := 17) d_EX_findArguments_11 rfl (by unfold jRi; omega) (fun c3 => ?_) (fun c3 => ?_)
    · skip
      refine jt_aload_n d_EX_findArguments_17 rfl ?_
      refine cm_get (k := 5) (v := .int (jI (I 5 5))) d_EX_findArguments_18 EX_f42 (by decide) cc_2 rfl ?_
      refine jt_iconst d_EX_findArguments_21 ?_
      refine jt_iadd d_EX_findArguments_22 ?_
      refine jt_topi (fun v4 ev4 => ?_)
      refine jt_istore_n (L' := [(0, .ref (b + 5)), (1, .ref (b + 39)), (2, .int (jI n)), (3, .int (jI v4))]) d_EX_findArguments_23 (Nat.le_of_ble_eq_true rfl) rfl ?_
      refine jt_iconst d_EX_findArguments_24 ?_
      refine jt_istore (L' := [(0, .ref (b + 5)), (1, .ref (b + 39)), (2, .int (jI n)), (3, .int (jI v4)), (4, .int (jI 0))]) d_EX_findArguments_25 (Nat.le_of_ble_eq_true rfl) rfl ?_
      exact l27_EX_findArguments_xv G d b n I A hI hA X9 hX Y9 hY N9 hN hn f0 sz ((hwq2.2)) 4 v4 0 I A hz0 (by omega) (by omega) (show v4 = I 5 5 + 2 by omega) (fun j a c => by omega) (fun j a c => by omega) hX hY hN (by omega)
    · skip
      exfalso
      omega
  · skip
    obtain rfl : yq2 = 0 := by omega
    have hwq2 := hxq2.2 rfl
    show jt _ 11 [(0, .ref (b + 5)), (1, .ref (b + 39)), (2, .int (jI n))] [.int (jI 0)] (cmf b f0 I A) _ _ _
    refine jt_if_ne (t := 17) d_EX_findArguments_11 rfl (by unfold jRi; omega) (fun c5 => ?_) (fun c5 => ?_)
    · skip
      exfalso
      omega
    · skip
      refine jt_bipush d_EX_findArguments_14 (by omega) ?_
      exact cm_ret d_EX_findArguments_16 rfl rfl (⟨-2, rfl, by omega, hz0, fun z => by have z2 := xAok_w z; omega, fun _ => rfl⟩)

set_option maxRecDepth 100000 in
set_option maxHeartbeats 4000000 in
theorem l4_EX_endOfArgumentv (G : jG) (d b : Nat) (q : Int) (I : Nat → Nat → Int) (A : Nat → Int → Int) (hI : cSI I) (hA : cSA A) (hq : 0 ≤ q ∧ q ≤ 300) (f0 : jF) (sz : Nat)   : ∀ (n9 : Nat) (n : Int) (e : Int) (J : Nat → Nat → Int) (B : Nat → Int → Int), cPo [] [] I A J B → (q ≤ e ∧ e ≤ 300) → (-e ≤ n ∧ n ≤ e) → 300 - e < (n9 : Int) → jt (jm G Y_EX_endOfArgument (gR (d + 1)) (cQ b f0 sz (fun (rv : Option Value) (I2 : Nat → Nat → Int) (A2 : Nat → Int → Int) => ∃ y : Int, rv = some (.int (jI y)) ∧ (0 ≤ y ∧ y ≤ 300) ∧ cPo [] [] I A I2 A2))) 4 [(0, .ref (b + 39)), (1, .int (jI q)), (2, .int (jI n)), (3, .int (jI e))] [] (cmf b f0 J B) sz 0 0 := by
  intro n9
  induction n9 with
  | zero =>
    intro n e J B hJ e0 n0 hmeas
    have f39 : J 39 3 = I 39 3 := hJ.2.2.1 39 3 rfl
    have l39 : 0 ≤ J 39 3 ∧ J 39 3 ≤ 300 := hJ.1 39 3
    exfalso
    omega
  | succ n9 ih =>
    intro n e J B hJ e0 n0 hmeas
    have f39 : J 39 3 = I 39 3 := hJ.2.2.1 39 3 rfl
    have l39 : 0 ≤ J 39 3 ∧ J 39 3 ≤ 300 := hJ.1 39 3
    refine jt_iload_n d_EX_endOfArgument_4 rfl ?_
    refine jt_aload_n d_EX_endOfArgument_5 rfl ?_
    refine cm_get (k := 39) (v := .int (jI (J 39 3))) d_EX_endOfArgument_6 EX_f38 (by decide) (cc_1 rfl) rfl ?_
    have rb101 : 0 ≤ J 39 3 ∧ J 39 3 ≤ 300 := hJ.1 39 3
    refine jt_icmp_ge (t := 69) d_EX_endOfArgument_9 rfl (by unfold jRi; omega) (by unfold jRi; omega) (fun c102 => ?_) (fun c102 => ?_)
    · skip
      refine jt_aload_n d_EX_endOfArgument_69 rfl ?_
      refine cm_get (k := 39) (v := .int (jI (J 39 3))) d_EX_endOfArgument_70 EX_f38 (by decide) (cc_1 rfl) rfl ?_
      exact cm_ret d_EX_endOfArgument_73 rfl rfl (⟨J 39 3, rfl, by omega, hJ⟩)
    · skip
      refine jt_aload_n d_EX_endOfArgument_12 rfl ?_
      refine jt_iload_n d_EX_endOfArgument_13 rfl ?_
      refine jt_iconst d_EX_endOfArgument_14 ?_
      refine cct_callV (Y := Y_TR_isWord) (ci := 0) (k := 39) (As := [.int (jI e), .int (jI 4)]) (rest := []) d_EX_endOfArgument_15 EX_c73 yk_TR_isWord yv_TR_isWord rfl (Nat.le_of_ble_eq_true rfl) (by decide) (cc_1 rfl) rfl rfl (Nat.le_of_ble_eq_true rfl) (v_TR_isWord G _ b e 4 J B hJ.1 hJ.2.1 (by omega) (by omega)) (fun rvq103 Iq103 Aq103 hq103 => ?_)
      obtain ⟨yq103, rfl, ryq103, hqq103, hxq103⟩ := hq103
      have hpq103 := cPo.trans hJ hqq103 rfl rfl
      show jt _ 18 [(0, .ref (b + 39)), (1, .int (jI q)), (2, .int (jI n)), (3, .int (jI e))] [.int (jI yq103)] (cmf b f0 Iq103 Aq103) _ _ _
      refine jt_istore (L' := [(0, .ref (b + 39)), (1, .int (jI q)), (2, .int (jI n)), (3, .int (jI e)), (4, .int (jI yq103))]) d_EX_endOfArgument_18 (Nat.le_of_ble_eq_true rfl) rfl ?_
      refine jt_iload_n d_EX_endOfArgument_20 rfl ?_
      refine jt_if_ne (t := 40) d_EX_endOfArgument_21 rfl (by unfold jRi; omega) (fun c104 => ?_) (fun c104 => ?_)
      · skip
        refine jt_iload d_EX_endOfArgument_40 rfl ?_
        refine jt_if_eq (t := 51) d_EX_endOfArgument_42 rfl (by unfold jRi; omega) (fun c105 => ?_) (fun c105 => ?_)
        · skip
          refine jt_aload_n d_EX_endOfArgument_51 rfl ?_
          refine jt_iload_n d_EX_endOfArgument_52 rfl ?_
          refine jt_iconst d_EX_endOfArgument_53 ?_
          refine cct_callV (Y := Y_TR_isWord) (ci := 0) (k := 39) (As := [.int (jI e), .int (jI 3)]) (rest := []) d_EX_endOfArgument_54 EX_c73 yk_TR_isWord yv_TR_isWord rfl (Nat.le_of_ble_eq_true rfl) (by decide) (cc_1 rfl) rfl rfl (Nat.le_of_ble_eq_true rfl) (v_TR_isWord G _ b e 3 Iq103 Aq103 hpq103.1 hpq103.2.1 (by omega) (by omega)) (fun rvq106 Iq106 Aq106 hq106 => ?_)
          obtain ⟨yq106, rfl, ryq106, hqq106, hxq106⟩ := hq106
          have hpq106 := cPo.trans hpq103 hqq106 rfl rfl
          show jt _ 57 [(0, .ref (b + 39)), (1, .int (jI q)), (2, .int (jI n)), (3, .int (jI e)), (4, .int (jI yq103))] [.int (jI yq106)] (cmf b f0 Iq106 Aq106) _ _ _
          refine jt_if_eq (t := 63) d_EX_endOfArgument_57 rfl (by unfold jRi; omega) (fun c107 => ?_) (fun c107 => ?_)
          · skip
            refine jt_iinc (L' := [(0, .ref (b + 39)), (1, .int (jI q)), (2, .int (jI n)), (3, .int (jI (e + 1))), (4, .int (jI yq103))]) d_EX_endOfArgument_63 rfl (Nat.le_of_ble_eq_true rfl) rfl ?_
            refine jt_goto (t := 4) d_EX_endOfArgument_66 rfl ?_
            refine jt_sub (L' := [(0, .ref (b + 39)), (1, .int (jI q)), (2, .int (jI n)), (3, .int (jI (e + 1)))]) (fun _ h => List.mem_append_left [(4, Value.int (jI yq103))] h) ?_
            exact ih n (e + 1) Iq106 Aq106 hpq106 (by omega) (by omega) (by omega)
          · skip
            refine jt_iinc (L' := [(0, .ref (b + 39)), (1, .int (jI q)), (2, .int (jI (n + 1))), (3, .int (jI e)), (4, .int (jI yq103))]) d_EX_endOfArgument_60 rfl (Nat.le_of_ble_eq_true rfl) rfl ?_
            refine jt_iinc (L' := [(0, .ref (b + 39)), (1, .int (jI q)), (2, .int (jI (n + 1))), (3, .int (jI (e + 1))), (4, .int (jI yq103))]) d_EX_endOfArgument_63 rfl (Nat.le_of_ble_eq_true rfl) rfl ?_
            refine jt_goto (t := 4) d_EX_endOfArgument_66 rfl ?_
            refine jt_sub (L' := [(0, .ref (b + 39)), (1, .int (jI q)), (2, .int (jI (n + 1))), (3, .int (jI (e + 1)))]) (fun _ h => List.mem_append_left [(4, Value.int (jI yq103))] h) ?_
            exact ih (n + 1) (e + 1) Iq106 Aq106 hpq106 (by omega) (by omega) (by omega)
        · skip
          refine jt_iinc (L' := [(0, .ref (b + 39)), (1, .int (jI q)), (2, .int (jI (n + (-1)))), (3, .int (jI e)), (4, .int (jI yq103))]) d_EX_endOfArgument_45 rfl (Nat.le_of_ble_eq_true rfl) rfl ?_
          refine jt_goto (t := 63) d_EX_endOfArgument_48 rfl ?_
          refine jt_iinc (L' := [(0, .ref (b + 39)), (1, .int (jI q)), (2, .int (jI (n + (-1)))), (3, .int (jI (e + 1))), (4, .int (jI yq103))]) d_EX_endOfArgument_63 rfl (Nat.le_of_ble_eq_true rfl) rfl ?_
          refine jt_goto (t := 4) d_EX_endOfArgument_66 rfl ?_
          refine jt_sub (L' := [(0, .ref (b + 39)), (1, .int (jI q)), (2, .int (jI (n + (-1)))), (3, .int (jI (e + 1)))]) (fun _ h => List.mem_append_left [(4, Value.int (jI yq103))] h) ?_
          exact ih (n + (-1)) (e + 1) Iq103 Aq103 hpq103 (by omega) (by omega) (by omega)
      · skip
        refine jt_iload d_EX_endOfArgument_24 rfl ?_
        refine jt_if_ne (t := 38) d_EX_endOfArgument_26 rfl (by unfold jRi; omega) (fun c108 => ?_) (fun c108 => ?_)
        · skip
          refine jt_iload_n d_EX_endOfArgument_38 rfl ?_
          exact cm_ret d_EX_endOfArgument_39 rfl rfl (⟨e, rfl, by omega, hpq103⟩)
        · skip
          refine jt_aload_n d_EX_endOfArgument_29 rfl ?_
          refine jt_iload_n d_EX_endOfArgument_30 rfl ?_
          refine jt_iconst d_EX_endOfArgument_31 ?_
          refine cct_callV (Y := Y_TR_isWord) (ci := 0) (k := 39) (As := [.int (jI e), .int (jI 5)]) (rest := []) d_EX_endOfArgument_32 EX_c73 yk_TR_isWord yv_TR_isWord rfl (Nat.le_of_ble_eq_true rfl) (by decide) (cc_1 rfl) rfl rfl (Nat.le_of_ble_eq_true rfl) (v_TR_isWord G _ b e 5 Iq103 Aq103 hpq103.1 hpq103.2.1 (by omega) (by omega)) (fun rvq109 Iq109 Aq109 hq109 => ?_)
          obtain ⟨yq109, rfl, ryq109, hqq109, hxq109⟩ := hq109
          have hpq109 := cPo.trans hpq103 hqq109 rfl rfl
          show jt _ 35 [(0, .ref (b + 39)), (1, .int (jI q)), (2, .int (jI n)), (3, .int (jI e)), (4, .int (jI yq103))] [.int (jI yq109)] (cmf b f0 Iq109 Aq109) _ _ _
          refine jt_if_eq (t := 40) d_EX_endOfArgument_35 rfl (by unfold jRi; omega) (fun c110 => ?_) (fun c110 => ?_)
          · skip
            refine jt_iload d_EX_endOfArgument_40 rfl ?_
            refine jt_if_eq (t := 51) d_EX_endOfArgument_42 rfl (by unfold jRi; omega) (fun c111 => ?_) (fun c111 => ?_)
            · skip
              refine jt_aload_n d_EX_endOfArgument_51 rfl ?_
              refine jt_iload_n d_EX_endOfArgument_52 rfl ?_
              refine jt_iconst d_EX_endOfArgument_53 ?_
              refine cct_callV (Y := Y_TR_isWord) (ci := 0) (k := 39) (As := [.int (jI e), .int (jI 3)]) (rest := []) d_EX_endOfArgument_54 EX_c73 yk_TR_isWord yv_TR_isWord rfl (Nat.le_of_ble_eq_true rfl) (by decide) (cc_1 rfl) rfl rfl (Nat.le_of_ble_eq_true rfl) (v_TR_isWord G _ b e 3 Iq109 Aq109 hpq109.1 hpq109.2.1 (by omega) (by omega)) (fun rvq112 Iq112 Aq112 hq112 => ?_)
              obtain ⟨yq112, rfl, ryq112, hqq112, hxq112⟩ := hq112
              have hpq112 := cPo.trans hpq109 hqq112 rfl rfl
              show jt _ 57 [(0, .ref (b + 39)), (1, .int (jI q)), (2, .int (jI n)), (3, .int (jI e)), (4, .int (jI yq103))] [.int (jI yq112)] (cmf b f0 Iq112 Aq112) _ _ _
              refine jt_if_eq (t := 63) d_EX_endOfArgument_57 rfl (by unfold jRi; omega) (fun c113 => ?_) (fun c113 => ?_)
              · skip
                refine jt_iinc (L' := [(0, .ref (b + 39)), (1, .int (jI q)), (2, .int (jI n)), (3, .int (jI (e + 1))), (4, .int (jI yq103))]) d_EX_endOfArgument_63 rfl (Nat.le_of_ble_eq_true rfl) rfl ?_
                refine jt_goto (t := 4) d_EX_endOfArgument_66 rfl ?_
                refine jt_sub (L' := [(0, .ref (b + 39)), (1, .int (jI q)), (2, .int (jI n)), (3, .int (jI (e + 1)))]) (fun _ h => List.mem_append_left [(4, Value.int (jI yq103))] h) ?_
                exact ih n (e + 1) Iq112 Aq112 hpq112 (by omega) (by omega) (by omega)
              · skip
                refine jt_iinc (L' := [(0, .ref (b + 39)), (1, .int (jI q)), (2, .int (jI (n + 1))), (3, .int (jI e)), (4, .int (jI yq103))]) d_EX_endOfArgument_60 rfl (Nat.le_of_ble_eq_true rfl) rfl ?_
                refine jt_iinc (L' := [(0, .ref (b + 39)), (1, .int (jI q)), (2, .int (jI (n + 1))), (3, .int (jI (e + 1))), (4, .int (jI yq103))]) d_EX_endOfArgument_63 rfl (Nat.le_of_ble_eq_true rfl) rfl ?_
                refine jt_goto (t := 4) d_EX_endOfArgument_66 rfl ?_
                refine jt_sub (L' := [(0, .ref (b + 39)), (1, .int (jI q)), (2, .int (jI (n + 1))), (3, .int (jI (e + 1)))]) (fun _ h => List.mem_append_left [(4, Value.int (jI yq103))] h) ?_
                exact ih (n + 1) (e + 1) Iq112 Aq112 hpq112 (by omega) (by omega) (by omega)
            · skip
              refine jt_iinc (L' := [(0, .ref (b + 39)), (1, .int (jI q)), (2, .int (jI (n + (-1)))), (3, .int (jI e)), (4, .int (jI yq103))]) d_EX_endOfArgument_45 rfl (Nat.le_of_ble_eq_true rfl) rfl ?_
              refine jt_goto (t := 63) d_EX_endOfArgument_48 rfl ?_
              refine jt_iinc (L' := [(0, .ref (b + 39)), (1, .int (jI q)), (2, .int (jI (n + (-1)))), (3, .int (jI (e + 1))), (4, .int (jI yq103))]) d_EX_endOfArgument_63 rfl (Nat.le_of_ble_eq_true rfl) rfl ?_
              refine jt_goto (t := 4) d_EX_endOfArgument_66 rfl ?_
              refine jt_sub (L' := [(0, .ref (b + 39)), (1, .int (jI q)), (2, .int (jI (n + (-1)))), (3, .int (jI (e + 1)))]) (fun _ h => List.mem_append_left [(4, Value.int (jI yq103))] h) ?_
              exact ih (n + (-1)) (e + 1) Iq109 Aq109 hpq109 (by omega) (by omega) (by omega)
          · skip
            refine jt_iload_n d_EX_endOfArgument_38 rfl ?_
            exact cm_ret d_EX_endOfArgument_39 rfl rfl (⟨e, rfl, by omega, hpq109⟩)
set_option maxRecDepth 100000 in
set_option maxHeartbeats 4000000 in
theorem v_EX_endOfArgument (G : jG) (d b : Nat) (q : Int) (I : Nat → Nat → Int) (A : Nat → Int → Int) (hI : cSI I) (hA : cSA A) (hq : 0 ≤ q ∧ q ≤ 300) : cct G Y_EX_endOfArgument (d + 1) b [.ref (b + 39), .int (jI q)] I A (fun (rv : Option Value) (I2 : Nat → Nat → Int) (A2 : Nat → Int → Int) => ∃ y : Int, rv = some (.int (jI y)) ∧ (0 ≤ y ∧ y ≤ 300) ∧ cPo [] [] I A I2 A2) := by
  refine cct_of (by decide) (Nat.le_of_ble_eq_true rfl) (fun f0 sz => ?_)
  show jt _ 0 [(0, .ref (b + 39)), (1, .int (jI q))] [] _ _ _ _
  have hz0 : cPo [] [] I A I A := cPo.refl hI hA
  refine jt_iconst d_EX_endOfArgument_0 ?_
  refine jt_istore_n (L' := [(0, .ref (b + 39)), (1, .int (jI q)), (2, .int (jI 0))]) d_EX_endOfArgument_1 (Nat.le_of_ble_eq_true rfl) rfl ?_
  refine jt_iload_n d_EX_endOfArgument_2 rfl ?_
  refine jt_istore_n (L' := [(0, .ref (b + 39)), (1, .int (jI q)), (2, .int (jI 0)), (3, .int (jI q))]) d_EX_endOfArgument_3 (Nat.le_of_ble_eq_true rfl) rfl ?_
  exact l4_EX_endOfArgumentv G d b q I A hI hA hq f0 sz  301 0 q I A hz0 (by omega) (by omega) (by omega)
set_option maxRecDepth 100000 in
set_option maxHeartbeats 4000000 in
theorem l27_EX_findArgumentsv (G : jG) (d b : Nat) (n : Int) (I : Nat → Nat → Int) (A : Nat → Int → Int) (hI : cSI I) (hA : cSA A) (hn : 1 ≤ n ∧ n ≤ 3) (f0 : jF) (sz : Nat)   : ∀ (n9 : Nat) (q : Int) (k : Int) (J : Nat → Nat → Int) (B : Nat → Int → Int), cPo [] [12, 13] I A J B → (0 ≤ q ∧ q ≤ 300) → (0 ≤ k ∧ k ≤ 3) → 3 - k < (n9 : Int) → jt (jm G Y_EX_findArguments (gR (d + 2)) (cQ b f0 sz (fun (rv : Option Value) (I2 : Nat → Nat → Int) (A2 : Nat → Int → Int) => ∃ y : Int, rv = some (.int (jI y)) ∧ (-2 ≤ y ∧ y ≤ 300 ∧ y ≠ -1) ∧ cPo [] [12, 13] I A I2 A2))) 27 [(0, .ref (b + 5)), (1, .ref (b + 39)), (2, .int (jI n)), (3, .int (jI q)), (4, .int (jI k))] [] (cmf b f0 J B) sz 0 0 := by
  have r55 : 0 ≤ I 5 5 ∧ I 5 5 ≤ 300 := hI 5 5
  have r39 : 0 ≤ I 39 3 ∧ I 39 3 ≤ 300 := hI 39 3
  intro n9
  induction n9 with
  | zero =>
    intro q k J B hJ q0 k0 hmeas
    have f39 : J 39 3 = I 39 3 := hJ.2.2.1 39 3 rfl
    exfalso
    omega
  | succ n9 ih =>
    intro q k J B hJ q0 k0 hmeas
    have f39 : J 39 3 = I 39 3 := hJ.2.2.1 39 3 rfl
    refine jt_iload d_EX_findArguments_27 rfl ?_
    refine jt_iload_n d_EX_findArguments_29 rfl ?_
    refine jt_icmp_ge (t := 99) d_EX_findArguments_30 rfl (by unfold jRi; omega) (by unfold jRi; omega) (fun c101 => ?_) (fun c101 => ?_)
    · skip
      refine jt_iload_n d_EX_findArguments_99 rfl ?_
      exact cm_ret d_EX_findArguments_100 rfl rfl (⟨q, rfl, by omega, hJ⟩)
    · skip
      refine jt_aload_n d_EX_findArguments_33 rfl ?_
      refine cm_get (k := 5) (v := .ref (b + 12)) d_EX_findArguments_34 EX_f28 (by decide) cc_2 rfl ?_
      refine jt_iload d_EX_findArguments_37 rfl ?_
      refine jt_iload_n d_EX_findArguments_39 rfl ?_
      refine cm_st0 (k := 12) (n := 3) (v := q) d_EX_findArguments_40 (by decide) rfl rfl (by omega) (by omega) (by omega) ?_
      have p102 := cPo.A 12 (ju (B 12) k q) hJ (Or.inl rfl) (gju (hJ.2.1 12) (show 0 ≤ q ∧ q ≤ 300 by omega))
      refine jt_aload_n d_EX_findArguments_41 rfl ?_
      refine cm_get (k := 5) (v := .ref (b + 13)) d_EX_findArguments_42 EX_f31 (by decide) cc_2 rfl ?_
      refine jt_iload d_EX_findArguments_45 rfl ?_
      refine jt_aload_n d_EX_findArguments_47 rfl ?_
      refine jt_iload_n d_EX_findArguments_48 rfl ?_
      refine cct_callS (Y := Y_EX_endOfArgument) (As := [.ref (b + 39), .int (jI q)]) (rest := [.int (jI k), .ref (b + 13)]) d_EX_findArguments_49 EX_c77 yk_EX_endOfArgument ys_EX_endOfArgument (Nat.le_of_ble_eq_true rfl) rfl rfl (Nat.le_of_ble_eq_true rfl) (v_EX_endOfArgument G _ b q J (va_up B 12 (ju (B 12) k q)) p102.1 p102.2.1 (by omega)) (fun rvq103 Iq103 Aq103 hq103 => ?_)
      obtain ⟨yq103, rfl, ryq103, hqq103⟩ := hq103
      have hpq103 := cPo.trans p102 hqq103 rfl rfl
      have m39_3q103 : Iq103 39 3 = J 39 3 := hqq103.2.2.1 39 3 rfl
      have m5_5q103 : Iq103 5 5 = J 5 5 := hqq103.2.2.1 5 5 rfl
      have a13q103 : Aq103 13 = B 13 := hqq103.2.2.2 13 rfl (by decide)
      show jt _ 52 [(0, .ref (b + 5)), (1, .ref (b + 39)), (2, .int (jI n)), (3, .int (jI q)), (4, .int (jI k))] [.int (jI yq103), .int (jI k), .ref (b + 13)] (cmf b f0 Iq103 Aq103) _ _ _
      refine cm_st0 (k := 13) (n := 3) (v := yq103) d_EX_findArguments_52 (by decide) rfl rfl (by omega) (by omega) (by omega) ?_
      have p104 := cPo.A 13 (ju (Aq103 13) k yq103) hpq103 (Or.inl rfl) (gju (hpq103.2.1 13) (show 0 ≤ yq103 ∧ yq103 ≤ 300 by omega))
      refine jt_aload_n d_EX_findArguments_53 rfl ?_
      refine jt_aload_n d_EX_findArguments_54 rfl ?_
      refine cm_get (k := 5) (v := .ref (b + 13)) d_EX_findArguments_55 EX_f31 (by decide) cc_2 rfl ?_
      refine jt_iload d_EX_findArguments_58 rfl ?_
      refine cm_ld0 (k := 13) (n := 3) (v := (ju (Aq103 13) k yq103) k) d_EX_findArguments_60 (by decide) rfl rfl (by omega) (by omega) (by omega) rfl ?_
      refine jt_topi (fun v105 ev105 => ?_)
      have bv105 : 0 ≤ v105 ∧ v105 ≤ 300 := by rw [ev105]; exact p104.2.1 13 k
      refine jt_iload d_EX_findArguments_61 rfl ?_
      refine jt_iload_n d_EX_findArguments_63 rfl ?_
      refine jt_iconst d_EX_findArguments_64 ?_
      refine jt_isub d_EX_findArguments_65 ?_
      refine jt_icmp_ne (t := 73) d_EX_findArguments_66 rfl (by unfold jRi; omega) (by unfold jRi; omega) (fun c106 => ?_) (fun c106 => ?_)
      · skip
        refine jt_iconst d_EX_findArguments_73 ?_
        refine cct_callV (Y := Y_TR_isWord) (ci := 0) (k := 39) (As := [.int (jI v105), .int (jI 5)]) (rest := []) d_EX_findArguments_74 EX_c73 yk_TR_isWord yv_TR_isWord rfl (Nat.le_of_ble_eq_true rfl) (by decide) (cc_1 rfl) rfl rfl (Nat.le_of_ble_eq_true rfl) (v_TR_isWord G _ b v105 5 Iq103 (va_up Aq103 13 (ju (Aq103 13) k yq103)) p104.1 p104.2.1 (by omega) (by omega)) (fun rvq107 Iq107 Aq107 hq107 => ?_)
        obtain ⟨yq107, rfl, ryq107, hqq107, hxq107⟩ := hq107
        have hpq107 := cPo.trans p104 hqq107 rfl rfl
        have m39_3q107 : Iq107 39 3 = Iq103 39 3 := hqq107.2.2.1 39 3 rfl
        have m5_5q107 : Iq107 5 5 = Iq103 5 5 := hqq107.2.2.1 5 5 rfl
        have a13q107 : Aq107 13 = ju (Aq103 13) k yq103 := hqq107.2.2.2 13 rfl (by decide)
        show jt _ 77 [(0, .ref (b + 5)), (1, .ref (b + 39)), (2, .int (jI n)), (3, .int (jI q)), (4, .int (jI k))] [.int (jI yq107)] (cmf b f0 Iq107 Aq107) _ _ _
        refine jt_if_ne (t := 83) d_EX_findArguments_77 rfl (by unfold jRi; omega) (fun c108 => ?_) (fun c108 => ?_)
        · skip
          refine jt_aload_n d_EX_findArguments_83 rfl ?_
          refine cm_get (k := 5) (v := .ref (b + 13)) d_EX_findArguments_84 EX_f31 (by decide) cc_2 rfl ?_
          refine jt_iload d_EX_findArguments_87 rfl ?_
          refine cm_ld0 (k := 13) (n := 3) (v := (Aq107 13) k) d_EX_findArguments_89 (by decide) rfl rfl (by omega) (by omega) (by omega) rfl ?_
          refine jt_topi (fun v109 ev109 => ?_)
          have bv109 : 0 ≤ v109 ∧ v109 ≤ 300 := by rw [ev109]; exact hpq107.2.1 13 k
          rw [a13q107] at ev109
          refine jt_iconst d_EX_findArguments_90 ?_
          refine jt_iadd d_EX_findArguments_91 ?_
          refine jt_topi (fun v110 ev110 => ?_)
          refine jt_istore_n (L' := [(0, .ref (b + 5)), (1, .ref (b + 39)), (2, .int (jI n)), (3, .int (jI v110)), (4, .int (jI k))]) d_EX_findArguments_92 (Nat.le_of_ble_eq_true rfl) rfl ?_
          refine jt_iinc (L' := [(0, .ref (b + 5)), (1, .ref (b + 39)), (2, .int (jI n)), (3, .int (jI v110)), (4, .int (jI (k + 1)))]) d_EX_findArguments_93 rfl (Nat.le_of_ble_eq_true rfl) rfl ?_
          refine jt_goto (t := 27) d_EX_findArguments_96 rfl ?_
          exact ih v110 (k + 1) Iq107 Aq107 hpq107 (by omega) (by omega) (by omega)
        · skip
          refine jt_bipush d_EX_findArguments_80 (by omega) ?_
          exact cm_ret d_EX_findArguments_82 rfl rfl (⟨-2, rfl, by omega, hpq107⟩)
      · skip
        refine jt_iconst d_EX_findArguments_69 ?_
        refine jt_goto (t := 74) d_EX_findArguments_70 rfl ?_
        refine cct_callV (Y := Y_TR_isWord) (ci := 0) (k := 39) (As := [.int (jI v105), .int (jI 4)]) (rest := []) d_EX_findArguments_74 EX_c73 yk_TR_isWord yv_TR_isWord rfl (Nat.le_of_ble_eq_true rfl) (by decide) (cc_1 rfl) rfl rfl (Nat.le_of_ble_eq_true rfl) (v_TR_isWord G _ b v105 4 Iq103 (va_up Aq103 13 (ju (Aq103 13) k yq103)) p104.1 p104.2.1 (by omega) (by omega)) (fun rvq111 Iq111 Aq111 hq111 => ?_)
        obtain ⟨yq111, rfl, ryq111, hqq111, hxq111⟩ := hq111
        have hpq111 := cPo.trans p104 hqq111 rfl rfl
        have m39_3q111 : Iq111 39 3 = Iq103 39 3 := hqq111.2.2.1 39 3 rfl
        have m5_5q111 : Iq111 5 5 = Iq103 5 5 := hqq111.2.2.1 5 5 rfl
        have a13q111 : Aq111 13 = ju (Aq103 13) k yq103 := hqq111.2.2.2 13 rfl (by decide)
        show jt _ 77 [(0, .ref (b + 5)), (1, .ref (b + 39)), (2, .int (jI n)), (3, .int (jI q)), (4, .int (jI k))] [.int (jI yq111)] (cmf b f0 Iq111 Aq111) _ _ _
        refine jt_if_ne (t := 83) d_EX_findArguments_77 rfl (by unfold jRi; omega) (fun c112 => ?_) (fun c112 => ?_)
        · skip
          refine jt_aload_n d_EX_findArguments_83 rfl ?_
          refine cm_get (k := 5) (v := .ref (b + 13)) d_EX_findArguments_84 EX_f31 (by decide) cc_2 rfl ?_
          refine jt_iload d_EX_findArguments_87 rfl ?_
          refine cm_ld0 (k := 13) (n := 3) (v := (Aq111 13) k) d_EX_findArguments_89 (by decide) rfl rfl (by omega) (by omega) (by omega) rfl ?_
          refine jt_topi (fun v113 ev113 => ?_)
          have bv113 : 0 ≤ v113 ∧ v113 ≤ 300 := by rw [ev113]; exact hpq111.2.1 13 k
          rw [a13q111] at ev113
          refine jt_iconst d_EX_findArguments_90 ?_
          refine jt_iadd d_EX_findArguments_91 ?_
          refine jt_topi (fun v114 ev114 => ?_)
          refine jt_istore_n (L' := [(0, .ref (b + 5)), (1, .ref (b + 39)), (2, .int (jI n)), (3, .int (jI v114)), (4, .int (jI k))]) d_EX_findArguments_92 (Nat.le_of_ble_eq_true rfl) rfl ?_
          refine jt_iinc (L' := [(0, .ref (b + 5)), (1, .ref (b + 39)), (2, .int (jI n)), (3, .int (jI v114)), (4, .int (jI (k + 1)))]) d_EX_findArguments_93 rfl (Nat.le_of_ble_eq_true rfl) rfl ?_
          refine jt_goto (t := 27) d_EX_findArguments_96 rfl ?_
          exact ih v114 (k + 1) Iq111 Aq111 hpq111 (by omega) (by omega) (by omega)
        · skip
          refine jt_bipush d_EX_findArguments_80 (by omega) ?_
          exact cm_ret d_EX_findArguments_82 rfl rfl (⟨-2, rfl, by omega, hpq111⟩)
set_option maxRecDepth 100000 in
set_option maxHeartbeats 4000000 in
theorem v_EX_findArguments (G : jG) (d b : Nat) (n : Int) (I : Nat → Nat → Int) (A : Nat → Int → Int) (hI : cSI I) (hA : cSA A) (hn : 1 ≤ n ∧ n ≤ 3) : cct G Y_EX_findArguments (d + 2) b [.ref (b + 5), .ref (b + 39), .int (jI n)] I A (fun (rv : Option Value) (I2 : Nat → Nat → Int) (A2 : Nat → Int → Int) => ∃ y : Int, rv = some (.int (jI y)) ∧ (-2 ≤ y ∧ y ≤ 300 ∧ y ≠ -1) ∧ cPo [] [12, 13] I A I2 A2) := by
  refine cct_of (by decide) (Nat.le_of_ble_eq_true rfl) (fun f0 sz => ?_)
  show jt _ 0 [(0, .ref (b + 5)), (1, .ref (b + 39)), (2, .int (jI n))] [] _ _ _ _
  have r55 : 0 ≤ I 5 5 ∧ I 5 5 ≤ 300 := hI 5 5
  have r39 : 0 ≤ I 39 3 ∧ I 39 3 ≤ 300 := hI 39 3
  have hz0 : cPo [] [12, 13] I A I A := cPo.refl hI hA
  refine jt_aload_n d_EX_findArguments_0 rfl ?_
  refine jt_aload_n d_EX_findArguments_1 rfl ?_
  refine cm_get (k := 5) (v := .int (jI (I 5 5))) d_EX_findArguments_2 EX_f42 (by decide) cc_2 rfl ?_
  have rb1 : 0 ≤ I 5 5 ∧ I 5 5 ≤ 300 := hz0.1 5 5
  refine jt_iconst d_EX_findArguments_5 ?_
  refine jt_iadd d_EX_findArguments_6 ?_
  refine jt_iconst d_EX_findArguments_7 ?_
  refine cct_callV (Y := Y_TR_isWord) (ci := 0) (k := 39) (As := [.int (jI ((I 5 5) + 1)), .int (jI 3)]) (rest := []) d_EX_findArguments_8 EX_c73 yk_TR_isWord yv_TR_isWord rfl (Nat.le_of_ble_eq_true rfl) (by decide) (cc_1 rfl) rfl rfl (Nat.le_of_ble_eq_true rfl) (v_TR_isWord G _ b ((I 5 5) + 1) 3 I A hz0.1 hz0.2.1 (by omega) (by omega)) (fun rvq2 Iq2 Aq2 hq2 => ?_)
  obtain ⟨yq2, rfl, ryq2, hqq2, hxq2⟩ := hq2
  have hpq2 := cPo.trans hz0 hqq2 rfl rfl
  have m39_3q2 : Iq2 39 3 = I 39 3 := hqq2.2.2.1 39 3 rfl
  have m5_5q2 : Iq2 5 5 = I 5 5 := hqq2.2.2.1 5 5 rfl
  have a13q2 : Aq2 13 = A 13 := hqq2.2.2.2 13 rfl (by decide)
  show jt _ 11 [(0, .ref (b + 5)), (1, .ref (b + 39)), (2, .int (jI n))] [.int (jI yq2)] (cmf b f0 Iq2 Aq2) _ _ _
  refine jt_if_ne (t := 17) d_EX_findArguments_11 rfl (by unfold jRi; omega) (fun c3 => ?_) (fun c3 => ?_)
  · skip
    refine jt_aload_n d_EX_findArguments_17 rfl ?_
    refine cm_get (k := 5) (v := .int (jI (Iq2 5 5))) d_EX_findArguments_18 EX_f42 (by decide) cc_2 rfl ?_
    have rb4 : 0 ≤ Iq2 5 5 ∧ Iq2 5 5 ≤ 300 := hpq2.1 5 5
    refine jt_iconst d_EX_findArguments_21 ?_
    refine jt_iadd d_EX_findArguments_22 ?_
    refine jt_topi (fun v5 ev5 => ?_)
    refine jt_istore_n (L' := [(0, .ref (b + 5)), (1, .ref (b + 39)), (2, .int (jI n)), (3, .int (jI v5))]) d_EX_findArguments_23 (Nat.le_of_ble_eq_true rfl) rfl ?_
    refine jt_iconst d_EX_findArguments_24 ?_
    refine jt_istore (L' := [(0, .ref (b + 5)), (1, .ref (b + 39)), (2, .int (jI n)), (3, .int (jI v5)), (4, .int (jI 0))]) d_EX_findArguments_25 (Nat.le_of_ble_eq_true rfl) rfl ?_
    exact l27_EX_findArgumentsv G d b n I A hI hA hn f0 sz  4 v5 0 Iq2 Aq2 hpq2 (by omega) (by omega) (by omega)
  · skip
    refine jt_bipush d_EX_findArguments_14 (by omega) ?_
    exact cm_ret d_EX_findArguments_16 rfl rfl (⟨-2, rfl, by omega, hpq2⟩)
set_option maxRecDepth 100000 in
set_option maxHeartbeats 4000000 in
theorem l16_EX_lengthAfter_14v (G : jG) (d b : Nat) (q : Int) (I : Nat → Nat → Int) (A : Nat → Int → Int) (hI : cSI I) (hA : cSA A) (hK : cTok A) (hq : 0 ≤ q ∧ q ≤ 301) (f0 : jF) (sz : Nat)   : ∀ (n9 : Nat) (l : Int) (i : Int) (J : Nat → Nat → Int) (B : Nat → Int → Int), cPo [] [] I A J B → (0 ≤ i ∧ i ≤ 40) → (-700 - 300 * i ≤ l ∧ l ≤ 700 + 300 * i) → 40 - i < (n9 : Int) → jt (jm G Y_EX_lengthAfter (gR d) (cQ b f0 sz (fun (rv : Option Value) (I2 : Nat → Nat → Int) (A2 : Nat → Int → Int) => ∃ y : Int, rv = some (.int (jI y)) ∧ (-2147483648 ≤ y ∧ y ≤ 2147483647) ∧ cPo [] [] I A I2 A2))) 16 [(0, .ref (b + 5)), (1, .ref (b + 39)), (2, .ref (b + 14)), (3, .int (jI q)), (4, .int (jI l)), (5, .int (jI i))] [] (cmf b f0 J B) sz 0 0 := by
  intro n9
  induction n9 with
  | zero =>
    intro l i J B hJ i0 l0 hmeas
    have tk : gtok (B 15 i) (B 16 i) := (cTok_of hJ hK rfl) 14 rfl i
    unfold gtok at tk
    exfalso
    omega
  | succ n9 ih =>
    intro l i J B hJ i0 l0 hmeas
    have tk : gtok (B 15 i) (B 16 i) := (cTok_of hJ hK rfl) 14 rfl i
    unfold gtok at tk
    refine jt_iload d_EX_lengthAfter_16 rfl ?_
    refine jt_aload_n d_EX_lengthAfter_18 rfl ?_
    refine cm_get (k := 14) (v := .int (jI (J 14 3))) d_EX_lengthAfter_19 EX_f38 (by decide) (cc_1 rfl) rfl ?_
    have rb101 : 0 ≤ J 14 3 ∧ J 14 3 ≤ 40 := hJ.1 14 3
    refine jt_icmp_ge (t := 75) d_EX_lengthAfter_22 rfl (by unfold jRi; omega) (by unfold jRi; omega) (fun c102 => ?_) (fun c102 => ?_)
    · skip
      refine jt_iload d_EX_lengthAfter_75 rfl ?_
      exact cm_ret d_EX_lengthAfter_77 rfl rfl (⟨l, rfl, by omega, hJ⟩)
    · skip
      refine jt_aload_n d_EX_lengthAfter_25 rfl ?_
      refine cm_get (k := 14) (v := .ref (b + 16)) d_EX_lengthAfter_26 EX_f55 (by decide) (cc_1 rfl) rfl ?_
      refine jt_iload d_EX_lengthAfter_29 rfl ?_
      refine cm_ld0 (k := 16) (n := 40) (v := (B 16) i) d_EX_lengthAfter_31 (by decide) rfl rfl (by omega) (by omega) (by omega) rfl ?_
      refine jt_topi (fun v103 ev103 => ?_)
      have bv103 : -2147483648 ≤ v103 ∧ v103 ≤ 2147483647 := by rw [ev103]; exact hJ.2.1 16 i
      refine jt_istore (L' := [(0, .ref (b + 5)), (1, .ref (b + 39)), (2, .ref (b + 14)), (3, .int (jI q)), (4, .int (jI l)), (5, .int (jI i)), (6, .int (jI v103))]) d_EX_lengthAfter_32 (Nat.le_of_ble_eq_true rfl) rfl ?_
      refine jt_iload d_EX_lengthAfter_34 rfl ?_
      refine jt_aload_n d_EX_lengthAfter_36 rfl ?_
      refine cm_get (k := 14) (v := .ref (b + 15)) d_EX_lengthAfter_37 EX_f48 (by decide) (cc_1 rfl) rfl ?_
      refine jt_iload d_EX_lengthAfter_40 rfl ?_
      refine cm_ld0 (k := 15) (n := 40) (v := (B 15) i) d_EX_lengthAfter_42 (by decide) rfl rfl (by omega) (by omega) (by omega) rfl ?_
      refine jt_topi (fun v104 ev104 => ?_)
      have bv104 : -2147483648 ≤ v104 ∧ v104 ≤ 2147483647 := by rw [ev104]; exact hJ.2.1 15 i
      refine jt_iconst d_EX_lengthAfter_43 ?_
      refine jt_icmp_ne (t := 65) d_EX_lengthAfter_44 rfl (by unfold jRi; omega) (by unfold jRi; omega) (fun c105 => ?_) (fun c105 => ?_)
      · skip
        refine jt_iconst d_EX_lengthAfter_65 ?_
        refine jt_iadd d_EX_lengthAfter_66 ?_
        refine jt_topi (fun v106 ev106 => ?_)
        refine jt_istore (L' := [(0, .ref (b + 5)), (1, .ref (b + 39)), (2, .ref (b + 14)), (3, .int (jI q)), (4, .int (jI v106)), (5, .int (jI i)), (6, .int (jI v103))]) d_EX_lengthAfter_67 (Nat.le_of_ble_eq_true rfl) rfl ?_
        refine jt_iinc (L' := [(0, .ref (b + 5)), (1, .ref (b + 39)), (2, .ref (b + 14)), (3, .int (jI q)), (4, .int (jI v106)), (5, .int (jI (i + 1))), (6, .int (jI v103))]) d_EX_lengthAfter_69 rfl (Nat.le_of_ble_eq_true rfl) rfl ?_
        refine jt_goto (t := 16) d_EX_lengthAfter_72 rfl ?_
        refine jt_sub (L' := [(0, .ref (b + 5)), (1, .ref (b + 39)), (2, .ref (b + 14)), (3, .int (jI q)), (4, .int (jI v106)), (5, .int (jI (i + 1)))]) (fun _ h => List.mem_append_left [(6, Value.int (jI v103))] h) ?_
        exact ih v106 (i + 1) J B hJ (by omega) (by omega) (by omega)
      · skip
        refine jt_aload_n d_EX_lengthAfter_47 rfl ?_
        refine cm_get (k := 5) (v := .ref (b + 13)) d_EX_lengthAfter_48 EX_f31 (by decide) cc_2 rfl ?_
        refine jt_iload d_EX_lengthAfter_51 rfl ?_
        refine cm_ld0 (k := 13) (n := 3) (v := (B 13) v103) d_EX_lengthAfter_53 (by decide) rfl rfl (by omega) (by omega) (by omega) rfl ?_
        refine jt_topi (fun v107 ev107 => ?_)
        have bv107 : 0 ≤ v107 ∧ v107 ≤ 300 := by rw [ev107]; exact hJ.2.1 13 v103
        refine jt_aload_n d_EX_lengthAfter_54 rfl ?_
        refine cm_get (k := 5) (v := .ref (b + 12)) d_EX_lengthAfter_55 EX_f28 (by decide) cc_2 rfl ?_
        refine jt_iload d_EX_lengthAfter_58 rfl ?_
        refine cm_ld0 (k := 12) (n := 3) (v := (B 12) v103) d_EX_lengthAfter_60 (by decide) rfl rfl (by omega) (by omega) (by omega) rfl ?_
        refine jt_topi (fun v108 ev108 => ?_)
        have bv108 : 0 ≤ v108 ∧ v108 ≤ 300 := by rw [ev108]; exact hJ.2.1 12 v103
        refine jt_isub d_EX_lengthAfter_61 ?_
        refine jt_goto (t := 66) d_EX_lengthAfter_62 rfl ?_
        refine jt_iadd d_EX_lengthAfter_66 ?_
        refine jt_topi (fun v109 ev109 => ?_)
        refine jt_istore (L' := [(0, .ref (b + 5)), (1, .ref (b + 39)), (2, .ref (b + 14)), (3, .int (jI q)), (4, .int (jI v109)), (5, .int (jI i)), (6, .int (jI v103))]) d_EX_lengthAfter_67 (Nat.le_of_ble_eq_true rfl) rfl ?_
        refine jt_iinc (L' := [(0, .ref (b + 5)), (1, .ref (b + 39)), (2, .ref (b + 14)), (3, .int (jI q)), (4, .int (jI v109)), (5, .int (jI (i + 1))), (6, .int (jI v103))]) d_EX_lengthAfter_69 rfl (Nat.le_of_ble_eq_true rfl) rfl ?_
        refine jt_goto (t := 16) d_EX_lengthAfter_72 rfl ?_
        refine jt_sub (L' := [(0, .ref (b + 5)), (1, .ref (b + 39)), (2, .ref (b + 14)), (3, .int (jI q)), (4, .int (jI v109)), (5, .int (jI (i + 1)))]) (fun _ h => List.mem_append_left [(6, Value.int (jI v103))] h) ?_
        exact ih v109 (i + 1) J B hJ (by omega) (by omega) (by omega)
set_option maxRecDepth 100000 in
set_option maxHeartbeats 4000000 in
theorem v_EX_lengthAfter_14 (G : jG) (d b : Nat) (q : Int) (I : Nat → Nat → Int) (A : Nat → Int → Int) (hI : cSI I) (hA : cSA A) (hK : cTok A) (hq : 0 ≤ q ∧ q ≤ 301) : cct G Y_EX_lengthAfter d b [.ref (b + 5), .ref (b + 39), .ref (b + 14), .int (jI q)] I A (fun (rv : Option Value) (I2 : Nat → Nat → Int) (A2 : Nat → Int → Int) => ∃ y : Int, rv = some (.int (jI y)) ∧ (-2147483648 ≤ y ∧ y ≤ 2147483647) ∧ cPo [] [] I A I2 A2) := by
  refine cct_of (by decide) (Nat.le_of_ble_eq_true rfl) (fun f0 sz => ?_)
  show jt _ 0 [(0, .ref (b + 5)), (1, .ref (b + 39)), (2, .ref (b + 14)), (3, .int (jI q))] [] _ _ _ _
  have hz0 : cPo [] [] I A I A := cPo.refl hI hA
  refine jt_aload_n d_EX_lengthAfter_0 rfl ?_
  refine cm_get (k := 5) (v := .int (jI (I 5 5))) d_EX_lengthAfter_1 EX_f42 (by decide) cc_2 rfl ?_
  have rb1 : 0 ≤ I 5 5 ∧ I 5 5 ≤ 300 := hz0.1 5 5
  refine jt_aload_n d_EX_lengthAfter_4 rfl ?_
  refine cm_get (k := 39) (v := .int (jI (I 39 3))) d_EX_lengthAfter_5 EX_f38 (by decide) (cc_1 rfl) rfl ?_
  have rb2 : 0 ≤ I 39 3 ∧ I 39 3 ≤ 300 := hz0.1 39 3
  refine jt_iadd d_EX_lengthAfter_8 ?_
  refine jt_iload_n d_EX_lengthAfter_9 rfl ?_
  refine jt_isub d_EX_lengthAfter_10 ?_
  refine jt_topi (fun v3 ev3 => ?_)
  refine jt_istore (L' := [(0, .ref (b + 5)), (1, .ref (b + 39)), (2, .ref (b + 14)), (3, .int (jI q)), (4, .int (jI v3))]) d_EX_lengthAfter_11 (Nat.le_of_ble_eq_true rfl) rfl ?_
  refine jt_iconst d_EX_lengthAfter_13 ?_
  refine jt_istore (L' := [(0, .ref (b + 5)), (1, .ref (b + 39)), (2, .ref (b + 14)), (3, .int (jI q)), (4, .int (jI v3)), (5, .int (jI 0))]) d_EX_lengthAfter_14 (Nat.le_of_ble_eq_true rfl) rfl ?_
  exact l16_EX_lengthAfter_14v G d b q I A hI hA hK hq f0 sz  41 v3 0 I A hz0 (by omega) (by omega) (by omega)
set_option maxRecDepth 100000 in
set_option maxHeartbeats 4000000 in
theorem l24_EX_putBody_14v (G : jG) (d b : Nat) (q : Int) (I : Nat → Nat → Int) (A : Nat → Int → Int) (hI : cSI I) (hA : cSA A) (hK : cTok A) (hq : 0 ≤ q ∧ q ≤ 301) (ha : I 5 5 < 300) (f0 : jF) (sz : Nat)  (e : Int) (e0 : -2147483648 ≤ e ∧ e ≤ 2147483647) : ∀ (n9 : Nat) (i : Int) (J : Nat → Nat → Int) (B : Nat → Int → Int), cPo [131, 627] [9, 10, 11, 40, 41, 42] I A J B → (0 ≤ i ∧ i ≤ 40) → (cTok B) → 40 - i < (n9 : Int) → jt (jm G Y_EX_putBody (gR (d + 2)) (cQ b f0 sz (fun (rv : Option Value) (I2 : Nat → Nat → Int) (A2 : Nat → Int → Int) => rv = none ∧ cPo [131, 627] [9, 10, 11, 40, 41, 42] I A I2 A2 ∧ cTok A2))) 24 [(0, .ref (b + 5)), (1, .ref (b + 39)), (2, .ref (b + 14)), (3, .int (jI q)), (4, .int (jI e)), (5, .int (jI i))] [] (cmf b f0 J B) sz 0 0 := by
  have r55 : 0 ≤ I 5 5 ∧ I 5 5 ≤ 300 := hI 5 5
  intro n9
  induction n9 with
  | zero =>
    intro i J B hJ i0 hKJ hmeas
    have tk : gtok (B 15 i) (B 16 i) := hKJ 14 rfl i
    have tk2 := tk
    unfold gtok at tk
    have f55 : J 5 5 = I 5 5 := hJ.2.2.1 5 5 rfl
    exfalso
    omega
  | succ n9 ih =>
    intro i J B hJ i0 hKJ hmeas
    have tk : gtok (B 15 i) (B 16 i) := hKJ 14 rfl i
    have tk2 := tk
    unfold gtok at tk
    have f55 : J 5 5 = I 5 5 := hJ.2.2.1 5 5 rfl
    refine jt_iload d_EX_putBody_24 rfl ?_
    refine jt_aload_n d_EX_putBody_26 rfl ?_
    refine cm_get (k := 14) (v := .int (jI (J 14 3))) d_EX_putBody_27 EX_f38 (by decide) (cc_1 rfl) rfl ?_
    have rb101 : 0 ≤ J 14 3 ∧ J 14 3 ≤ 40 := hJ.1 14 3
    refine jt_icmp_ge (t := 102) d_EX_putBody_30 rfl (by unfold jRi; omega) (by unfold jRi; omega) (fun c102 => ?_) (fun c102 => ?_)
    · skip
      refine jt_aload_n d_EX_putBody_102 rfl ?_
      refine cm_get (k := 5) (v := .ref (b + 8)) d_EX_putBody_103 EX_f24 (by decide) cc_2 rfl ?_
      refine jt_aload_n d_EX_putBody_106 rfl ?_
      refine jt_iload_n d_EX_putBody_107 rfl ?_
      refine jt_aload_n d_EX_putBody_108 rfl ?_
      refine cm_get (k := 39) (v := .int (jI (J 39 3))) d_EX_putBody_109 EX_f38 (by decide) (cc_1 rfl) rfl ?_
      have rb103 : 0 ≤ J 39 3 ∧ J 39 3 ≤ 300 := hJ.1 39 3
      refine cct_callV (Y := Y_TR_addAll) (ci := 0) (k := 8) (As := [.ref (b + 39), .int (jI q), .int (jI (J 39 3))]) (rest := []) d_EX_putBody_112 EX_c80 yk_TR_addAll yv_TR_addAll rfl (Nat.le_of_ble_eq_true rfl) (by decide) (cc_1 rfl) rfl rfl (Nat.le_of_ble_eq_true rfl) (v_TR_addAll_8_39 G _ b q (J 39 3) J B hJ.1 hJ.2.1 (by omega) (by omega)) (fun rvq104 Iq104 Aq104 hq104 => ?_)
      obtain ⟨rfl, hqq104, hxq104⟩ := hq104
      have hpq104 := cPo.trans hJ hqq104 rfl rfl
      have m39_3q104 : Iq104 39 3 = J 39 3 := hqq104.2.2.1 39 3 rfl
      have m5_5q104 : Iq104 5 5 = J 5 5 := hqq104.2.2.1 5 5 rfl
      show jt _ 115 [(0, .ref (b + 5)), (1, .ref (b + 39)), (2, .ref (b + 14)), (3, .int (jI q)), (4, .int (jI e)), (5, .int (jI i))] [] (cmf b f0 Iq104 Aq104) _ _ _
      refine jt_aload_n d_EX_putBody_115 rfl ?_
      refine jt_aload_n d_EX_putBody_116 rfl ?_
      refine cm_get (k := 5) (v := .int (jI (Iq104 5 5))) d_EX_putBody_117 EX_f42 (by decide) cc_2 rfl ?_
      have rb105 : 0 ≤ Iq104 5 5 ∧ Iq104 5 5 ≤ 300 := hpq104.1 5 5
      refine cm_put (k := 39) (j := 3) (v := (Iq104 5 5)) d_EX_putBody_120 (EX_w38 _ rfl) (by decide) (cc_1 rfl) rfl rfl (Nat.le_of_ble_eq_true rfl) rfl ?_
      have p106 := cPo.I 39 3 (Iq104 5 5) hpq104 rfl (show 0 ≤ Iq104 5 5 ∧ Iq104 5 5 ≤ 300 by omega)
      refine jt_aload_n d_EX_putBody_123 rfl ?_
      refine jt_aload_n d_EX_putBody_124 rfl ?_
      refine cm_get (k := 5) (v := .ref (b + 8)) d_EX_putBody_125 EX_f24 (by decide) cc_2 rfl ?_
      refine jt_iconst d_EX_putBody_128 ?_
      refine jt_aload_n d_EX_putBody_129 rfl ?_
      refine cm_get (k := 5) (v := .ref (b + 8)) d_EX_putBody_130 EX_f24 (by decide) cc_2 rfl ?_
      refine cm_get (k := 8) (v := .int (jI (Iq104 8 3))) d_EX_putBody_133 EX_f38 (by decide) (cc_1 rfl) rfl ?_
      have rb107 : 0 ≤ Iq104 8 3 ∧ Iq104 8 3 ≤ 300 := p106.1 8 3
      refine cct_callV (Y := Y_TR_addAll) (ci := 0) (k := 39) (As := [.ref (b + 8), .int (jI 0), .int (jI (Iq104 8 3))]) (rest := []) d_EX_putBody_136 EX_c80 yk_TR_addAll yv_TR_addAll rfl (Nat.le_of_ble_eq_true rfl) (by decide) (cc_1 rfl) rfl rfl (Nat.le_of_ble_eq_true rfl) (v_TR_addAll_39_8 G _ b 0 (Iq104 8 3) (cu Iq104 39 3 (Iq104 5 5)) Aq104 p106.1 p106.2.1 (by omega) (by omega)) (fun rvq108 Iq108 Aq108 hq108 => ?_)
      obtain ⟨rfl, hqq108, hxq108⟩ := hq108
      have hpq108 := cPo.trans p106 hqq108 rfl rfl
      have s39_3q108 : (cu Iq104 39 3 (Iq104 5 5)) 39 3 = Iq104 5 5 := rfl
      have s5_5q108 : (cu Iq104 39 3 (Iq104 5 5)) 5 5 = Iq104 5 5 := rfl
      have s8_3q108 : (cu Iq104 39 3 (Iq104 5 5)) 8 3 = Iq104 8 3 := rfl
      have m5_5q108 : Iq108 5 5 = Iq104 5 5 := hqq108.2.2.1 5 5 rfl
      have m8_3q108 : Iq108 8 3 = Iq104 8 3 := hqq108.2.2.1 8 3 rfl
      show jt _ 139 [(0, .ref (b + 5)), (1, .ref (b + 39)), (2, .ref (b + 14)), (3, .int (jI q)), (4, .int (jI e)), (5, .int (jI i))] [] (cmf b f0 Iq108 Aq108) _ _ _
      exact cm_vret d_EX_putBody_139 rfl (⟨rfl, hpq108, (hxq108 (hxq104 hKJ))⟩)
    · skip
      refine jt_aload_n d_EX_putBody_33 rfl ?_
      refine cm_get (k := 14) (v := .ref (b + 16)) d_EX_putBody_34 EX_f55 (by decide) (cc_1 rfl) rfl ?_
      refine jt_iload d_EX_putBody_37 rfl ?_
      refine cm_ld0 (k := 16) (n := 40) (v := (B 16) i) d_EX_putBody_39 (by decide) rfl rfl (by omega) (by omega) (by omega) rfl ?_
      refine jt_topi (fun v109 ev109 => ?_)
      have bv109 : -2147483648 ≤ v109 ∧ v109 ≤ 2147483647 := by rw [ev109]; exact hJ.2.1 16 i
      refine jt_istore (L' := [(0, .ref (b + 5)), (1, .ref (b + 39)), (2, .ref (b + 14)), (3, .int (jI q)), (4, .int (jI e)), (5, .int (jI i)), (6, .int (jI v109))]) d_EX_putBody_40 (Nat.le_of_ble_eq_true rfl) rfl ?_
      refine jt_aload_n d_EX_putBody_42 rfl ?_
      refine cm_get (k := 14) (v := .ref (b + 15)) d_EX_putBody_43 EX_f48 (by decide) (cc_1 rfl) rfl ?_
      refine jt_iload d_EX_putBody_46 rfl ?_
      refine cm_ld0 (k := 15) (n := 40) (v := (B 15) i) d_EX_putBody_48 (by decide) rfl rfl (by omega) (by omega) (by omega) rfl ?_
      refine jt_topi (fun v110 ev110 => ?_)
      have bv110 : -2147483648 ≤ v110 ∧ v110 ≤ 2147483647 := by rw [ev110]; exact hJ.2.1 15 i
      refine jt_iconst d_EX_putBody_49 ?_
      refine jt_icmp_ne (t := 78) d_EX_putBody_50 rfl (by unfold jRi; omega) (by unfold jRi; omega) (fun c111 => ?_) (fun c111 => ?_)
      · skip
        refine jt_aload_n d_EX_putBody_78 rfl ?_
        refine cm_get (k := 5) (v := .ref (b + 8)) d_EX_putBody_79 EX_f24 (by decide) cc_2 rfl ?_
        refine jt_aload_n d_EX_putBody_82 rfl ?_
        refine cm_get (k := 14) (v := .ref (b + 15)) d_EX_putBody_83 EX_f48 (by decide) (cc_1 rfl) rfl ?_
        refine jt_iload d_EX_putBody_86 rfl ?_
        refine cm_ld0 (k := 15) (n := 40) (v := (B 15) i) d_EX_putBody_88 (by decide) rfl rfl (by omega) (by omega) (by omega) rfl ?_
        refine jt_topi (fun v112 ev112 => ?_)
        have bv112 : -2147483648 ≤ v112 ∧ v112 ≤ 2147483647 := by rw [ev112]; exact hJ.2.1 15 i
        refine jt_iload d_EX_putBody_89 rfl ?_
        refine jt_iload d_EX_putBody_91 rfl ?_
        refine cct_callV (Y := Y_TR_add) (ci := 0) (k := 8) (As := [.int (jI v112), .int (jI v109), .int (jI e)]) (rest := []) d_EX_putBody_93 EX_c84 yk_TR_add yv_TR_add rfl (Nat.le_of_ble_eq_true rfl) (by decide) (cc_1 rfl) rfl rfl (Nat.le_of_ble_eq_true rfl) (v_TR_add_8 G _ b v112 v109 e J B hJ.1 hJ.2.1 (by omega) (by omega) (by omega)) (fun rvq113 Iq113 Aq113 hq113 => ?_)
        obtain ⟨rfl, hqq113, hxq113⟩ := hq113
        have hpq113 := cPo.trans hJ hqq113 rfl rfl
        have m39_3q113 : Iq113 39 3 = J 39 3 := hqq113.2.2.1 39 3 rfl
        have m5_5q113 : Iq113 5 5 = J 5 5 := hqq113.2.2.1 5 5 rfl
        show jt _ 96 [(0, .ref (b + 5)), (1, .ref (b + 39)), (2, .ref (b + 14)), (3, .int (jI q)), (4, .int (jI e)), (5, .int (jI i)), (6, .int (jI v109))] [] (cmf b f0 Iq113 Aq113) _ _ _
        refine jt_iinc (L' := [(0, .ref (b + 5)), (1, .ref (b + 39)), (2, .ref (b + 14)), (3, .int (jI q)), (4, .int (jI e)), (5, .int (jI (i + 1))), (6, .int (jI v109))]) d_EX_putBody_96 rfl (Nat.le_of_ble_eq_true rfl) rfl ?_
        refine jt_goto (t := 24) d_EX_putBody_99 rfl ?_
        refine jt_sub (L' := [(0, .ref (b + 5)), (1, .ref (b + 39)), (2, .ref (b + 14)), (3, .int (jI q)), (4, .int (jI e)), (5, .int (jI (i + 1)))]) (fun _ h => List.mem_append_left [(6, Value.int (jI v109))] h) ?_
        exact ih (i + 1) Iq113 Aq113 hpq113 (by omega) (hxq113.1 hKJ (by rw [ev112, ev109]; exact tk2)) (by omega)
      · skip
        refine jt_aload_n d_EX_putBody_53 rfl ?_
        refine cm_get (k := 5) (v := .ref (b + 8)) d_EX_putBody_54 EX_f24 (by decide) cc_2 rfl ?_
        refine jt_aload_n d_EX_putBody_57 rfl ?_
        refine jt_aload_n d_EX_putBody_58 rfl ?_
        refine cm_get (k := 5) (v := .ref (b + 12)) d_EX_putBody_59 EX_f28 (by decide) cc_2 rfl ?_
        refine jt_iload d_EX_putBody_62 rfl ?_
        refine cm_ld0 (k := 12) (n := 3) (v := (B 12) v109) d_EX_putBody_64 (by decide) rfl rfl (by omega) (by omega) (by omega) rfl ?_
        refine jt_topi (fun v114 ev114 => ?_)
        have bv114 : 0 ≤ v114 ∧ v114 ≤ 300 := by rw [ev114]; exact hJ.2.1 12 v109
        refine jt_aload_n d_EX_putBody_65 rfl ?_
        refine cm_get (k := 5) (v := .ref (b + 13)) d_EX_putBody_66 EX_f31 (by decide) cc_2 rfl ?_
        refine jt_iload d_EX_putBody_69 rfl ?_
        refine cm_ld0 (k := 13) (n := 3) (v := (B 13) v109) d_EX_putBody_71 (by decide) rfl rfl (by omega) (by omega) (by omega) rfl ?_
        refine jt_topi (fun v115 ev115 => ?_)
        have bv115 : 0 ≤ v115 ∧ v115 ≤ 300 := by rw [ev115]; exact hJ.2.1 13 v109
        refine cct_callV (Y := Y_TR_addAll) (ci := 0) (k := 8) (As := [.ref (b + 39), .int (jI v114), .int (jI v115)]) (rest := []) d_EX_putBody_72 EX_c80 yk_TR_addAll yv_TR_addAll rfl (Nat.le_of_ble_eq_true rfl) (by decide) (cc_1 rfl) rfl rfl (Nat.le_of_ble_eq_true rfl) (v_TR_addAll_8_39 G _ b v114 v115 J B hJ.1 hJ.2.1 (by omega) (by omega)) (fun rvq116 Iq116 Aq116 hq116 => ?_)
        obtain ⟨rfl, hqq116, hxq116⟩ := hq116
        have hpq116 := cPo.trans hJ hqq116 rfl rfl
        have m39_3q116 : Iq116 39 3 = J 39 3 := hqq116.2.2.1 39 3 rfl
        have m5_5q116 : Iq116 5 5 = J 5 5 := hqq116.2.2.1 5 5 rfl
        show jt _ 75 [(0, .ref (b + 5)), (1, .ref (b + 39)), (2, .ref (b + 14)), (3, .int (jI q)), (4, .int (jI e)), (5, .int (jI i)), (6, .int (jI v109))] [] (cmf b f0 Iq116 Aq116) _ _ _
        refine jt_goto (t := 96) d_EX_putBody_75 rfl ?_
        refine jt_iinc (L' := [(0, .ref (b + 5)), (1, .ref (b + 39)), (2, .ref (b + 14)), (3, .int (jI q)), (4, .int (jI e)), (5, .int (jI (i + 1))), (6, .int (jI v109))]) d_EX_putBody_96 rfl (Nat.le_of_ble_eq_true rfl) rfl ?_
        refine jt_goto (t := 24) d_EX_putBody_99 rfl ?_
        refine jt_sub (L' := [(0, .ref (b + 5)), (1, .ref (b + 39)), (2, .ref (b + 14)), (3, .int (jI q)), (4, .int (jI e)), (5, .int (jI (i + 1)))]) (fun _ h => List.mem_append_left [(6, Value.int (jI v109))] h) ?_
        exact ih (i + 1) Iq116 Aq116 hpq116 (by omega) (hxq116 hKJ) (by omega)
set_option maxRecDepth 100000 in
set_option maxHeartbeats 4000000 in
theorem v_EX_putBody_14 (G : jG) (d b : Nat) (q : Int) (I : Nat → Nat → Int) (A : Nat → Int → Int) (hI : cSI I) (hA : cSA A) (hK : cTok A) (hq : 0 ≤ q ∧ q ≤ 301) (ha : I 5 5 < 300) : cct G Y_EX_putBody (d + 2) b [.ref (b + 5), .ref (b + 39), .ref (b + 14), .int (jI q)] I A (fun (rv : Option Value) (I2 : Nat → Nat → Int) (A2 : Nat → Int → Int) => rv = none ∧ cPo [131, 627] [9, 10, 11, 40, 41, 42] I A I2 A2 ∧ cTok A2) := by
  refine cct_of (by decide) (Nat.le_of_ble_eq_true rfl) (fun f0 sz => ?_)
  show jt _ 0 [(0, .ref (b + 5)), (1, .ref (b + 39)), (2, .ref (b + 14)), (3, .int (jI q))] [] _ _ _ _
  have r55 : 0 ≤ I 5 5 ∧ I 5 5 ≤ 300 := hI 5 5
  have hz0 : cPo [131, 627] [9, 10, 11, 40, 41, 42] I A I A := cPo.refl hI hA
  refine jt_aload_n d_EX_putBody_0 rfl ?_
  refine cm_get (k := 39) (v := .ref (b + 42)) d_EX_putBody_1 EX_f58 (by decide) (cc_1 rfl) rfl ?_
  refine jt_aload_n d_EX_putBody_4 rfl ?_
  refine cm_get (k := 5) (v := .int (jI (I 5 5))) d_EX_putBody_5 EX_f42 (by decide) cc_2 rfl ?_
  have rb1 : 0 ≤ I 5 5 ∧ I 5 5 ≤ 300 := hz0.1 5 5
  refine cm_ld0 (k := 42) (n := 300) (v := (A 42) (I 5 5)) d_EX_putBody_8 (by decide) rfl rfl (by omega) (by omega) (by omega) rfl ?_
  refine jt_topi (fun v2 ev2 => ?_)
  have bv2 : -2147483648 ≤ v2 ∧ v2 ≤ 2147483647 := by rw [ev2]; exact hz0.2.1 42 (I 5 5)
  refine jt_iconst d_EX_putBody_9 ?_
  refine jt_iadd d_EX_putBody_10 ?_
  refine jt_topie (fun v3 bv3 ev3 => ?_)
  refine jt_istore (L' := [(0, .ref (b + 5)), (1, .ref (b + 39)), (2, .ref (b + 14)), (3, .int (jI q)), (4, .int (jI v3))]) d_EX_putBody_11 (Nat.le_of_ble_eq_true rfl) rfl ?_
  refine jt_aload_n d_EX_putBody_13 rfl ?_
  refine cm_get (k := 5) (v := .ref (b + 8)) d_EX_putBody_14 EX_f24 (by decide) cc_2 rfl ?_
  refine jt_iconst d_EX_putBody_17 ?_
  refine cm_put (k := 8) (j := 3) (v := 0) d_EX_putBody_18 (EX_w38 _ rfl) (by decide) (cc_1 rfl) rfl rfl (Nat.le_of_ble_eq_true rfl) rfl ?_
  have p4 := cPo.I 8 3 0 hz0 rfl (show 0 ≤ 0 ∧ 0 ≤ 300 by omega)
  refine jt_iconst d_EX_putBody_21 ?_
  refine jt_istore (L' := [(0, .ref (b + 5)), (1, .ref (b + 39)), (2, .ref (b + 14)), (3, .int (jI q)), (4, .int (jI v3)), (5, .int (jI 0))]) d_EX_putBody_22 (Nat.le_of_ble_eq_true rfl) rfl ?_
  exact l24_EX_putBody_14v G d b q I A hI hA hK hq ha f0 sz v3 ((by omega)) 41 0 (cu I 8 3 0) A p4 (by omega) hK (by omega)
set_option maxRecDepth 100000 in
set_option maxHeartbeats 4000000 in
theorem l16_EX_lengthAfter_18v (G : jG) (d b : Nat) (q : Int) (I : Nat → Nat → Int) (A : Nat → Int → Int) (hI : cSI I) (hA : cSA A) (hK : cTok A) (hq : 0 ≤ q ∧ q ≤ 301) (f0 : jF) (sz : Nat)   : ∀ (n9 : Nat) (l : Int) (i : Int) (J : Nat → Nat → Int) (B : Nat → Int → Int), cPo [] [] I A J B → (0 ≤ i ∧ i ≤ 40) → (-700 - 300 * i ≤ l ∧ l ≤ 700 + 300 * i) → 40 - i < (n9 : Int) → jt (jm G Y_EX_lengthAfter (gR d) (cQ b f0 sz (fun (rv : Option Value) (I2 : Nat → Nat → Int) (A2 : Nat → Int → Int) => ∃ y : Int, rv = some (.int (jI y)) ∧ (-2147483648 ≤ y ∧ y ≤ 2147483647) ∧ cPo [] [] I A I2 A2))) 16 [(0, .ref (b + 5)), (1, .ref (b + 39)), (2, .ref (b + 18)), (3, .int (jI q)), (4, .int (jI l)), (5, .int (jI i))] [] (cmf b f0 J B) sz 0 0 := by
  intro n9
  induction n9 with
  | zero =>
    intro l i J B hJ i0 l0 hmeas
    have tk : gtok (B 19 i) (B 20 i) := (cTok_of hJ hK rfl) 18 rfl i
    unfold gtok at tk
    exfalso
    omega
  | succ n9 ih =>
    intro l i J B hJ i0 l0 hmeas
    have tk : gtok (B 19 i) (B 20 i) := (cTok_of hJ hK rfl) 18 rfl i
    unfold gtok at tk
    refine jt_iload d_EX_lengthAfter_16 rfl ?_
    refine jt_aload_n d_EX_lengthAfter_18 rfl ?_
    refine cm_get (k := 18) (v := .int (jI (J 18 3))) d_EX_lengthAfter_19 EX_f38 (by decide) (cc_1 rfl) rfl ?_
    have rb101 : 0 ≤ J 18 3 ∧ J 18 3 ≤ 40 := hJ.1 18 3
    refine jt_icmp_ge (t := 75) d_EX_lengthAfter_22 rfl (by unfold jRi; omega) (by unfold jRi; omega) (fun c102 => ?_) (fun c102 => ?_)
    · skip
      refine jt_iload d_EX_lengthAfter_75 rfl ?_
      exact cm_ret d_EX_lengthAfter_77 rfl rfl (⟨l, rfl, by omega, hJ⟩)
    · skip
      refine jt_aload_n d_EX_lengthAfter_25 rfl ?_
      refine cm_get (k := 18) (v := .ref (b + 20)) d_EX_lengthAfter_26 EX_f55 (by decide) (cc_1 rfl) rfl ?_
      refine jt_iload d_EX_lengthAfter_29 rfl ?_
      refine cm_ld0 (k := 20) (n := 40) (v := (B 20) i) d_EX_lengthAfter_31 (by decide) rfl rfl (by omega) (by omega) (by omega) rfl ?_
      refine jt_topi (fun v103 ev103 => ?_)
      have bv103 : -2147483648 ≤ v103 ∧ v103 ≤ 2147483647 := by rw [ev103]; exact hJ.2.1 20 i
      refine jt_istore (L' := [(0, .ref (b + 5)), (1, .ref (b + 39)), (2, .ref (b + 18)), (3, .int (jI q)), (4, .int (jI l)), (5, .int (jI i)), (6, .int (jI v103))]) d_EX_lengthAfter_32 (Nat.le_of_ble_eq_true rfl) rfl ?_
      refine jt_iload d_EX_lengthAfter_34 rfl ?_
      refine jt_aload_n d_EX_lengthAfter_36 rfl ?_
      refine cm_get (k := 18) (v := .ref (b + 19)) d_EX_lengthAfter_37 EX_f48 (by decide) (cc_1 rfl) rfl ?_
      refine jt_iload d_EX_lengthAfter_40 rfl ?_
      refine cm_ld0 (k := 19) (n := 40) (v := (B 19) i) d_EX_lengthAfter_42 (by decide) rfl rfl (by omega) (by omega) (by omega) rfl ?_
      refine jt_topi (fun v104 ev104 => ?_)
      have bv104 : -2147483648 ≤ v104 ∧ v104 ≤ 2147483647 := by rw [ev104]; exact hJ.2.1 19 i
      refine jt_iconst d_EX_lengthAfter_43 ?_
      refine jt_icmp_ne (t := 65) d_EX_lengthAfter_44 rfl (by unfold jRi; omega) (by unfold jRi; omega) (fun c105 => ?_) (fun c105 => ?_)
      · skip
        refine jt_iconst d_EX_lengthAfter_65 ?_
        refine jt_iadd d_EX_lengthAfter_66 ?_
        refine jt_topi (fun v106 ev106 => ?_)
        refine jt_istore (L' := [(0, .ref (b + 5)), (1, .ref (b + 39)), (2, .ref (b + 18)), (3, .int (jI q)), (4, .int (jI v106)), (5, .int (jI i)), (6, .int (jI v103))]) d_EX_lengthAfter_67 (Nat.le_of_ble_eq_true rfl) rfl ?_
        refine jt_iinc (L' := [(0, .ref (b + 5)), (1, .ref (b + 39)), (2, .ref (b + 18)), (3, .int (jI q)), (4, .int (jI v106)), (5, .int (jI (i + 1))), (6, .int (jI v103))]) d_EX_lengthAfter_69 rfl (Nat.le_of_ble_eq_true rfl) rfl ?_
        refine jt_goto (t := 16) d_EX_lengthAfter_72 rfl ?_
        refine jt_sub (L' := [(0, .ref (b + 5)), (1, .ref (b + 39)), (2, .ref (b + 18)), (3, .int (jI q)), (4, .int (jI v106)), (5, .int (jI (i + 1)))]) (fun _ h => List.mem_append_left [(6, Value.int (jI v103))] h) ?_
        exact ih v106 (i + 1) J B hJ (by omega) (by omega) (by omega)
      · skip
        refine jt_aload_n d_EX_lengthAfter_47 rfl ?_
        refine cm_get (k := 5) (v := .ref (b + 13)) d_EX_lengthAfter_48 EX_f31 (by decide) cc_2 rfl ?_
        refine jt_iload d_EX_lengthAfter_51 rfl ?_
        refine cm_ld0 (k := 13) (n := 3) (v := (B 13) v103) d_EX_lengthAfter_53 (by decide) rfl rfl (by omega) (by omega) (by omega) rfl ?_
        refine jt_topi (fun v107 ev107 => ?_)
        have bv107 : 0 ≤ v107 ∧ v107 ≤ 300 := by rw [ev107]; exact hJ.2.1 13 v103
        refine jt_aload_n d_EX_lengthAfter_54 rfl ?_
        refine cm_get (k := 5) (v := .ref (b + 12)) d_EX_lengthAfter_55 EX_f28 (by decide) cc_2 rfl ?_
        refine jt_iload d_EX_lengthAfter_58 rfl ?_
        refine cm_ld0 (k := 12) (n := 3) (v := (B 12) v103) d_EX_lengthAfter_60 (by decide) rfl rfl (by omega) (by omega) (by omega) rfl ?_
        refine jt_topi (fun v108 ev108 => ?_)
        have bv108 : 0 ≤ v108 ∧ v108 ≤ 300 := by rw [ev108]; exact hJ.2.1 12 v103
        refine jt_isub d_EX_lengthAfter_61 ?_
        refine jt_goto (t := 66) d_EX_lengthAfter_62 rfl ?_
        refine jt_iadd d_EX_lengthAfter_66 ?_
        refine jt_topi (fun v109 ev109 => ?_)
        refine jt_istore (L' := [(0, .ref (b + 5)), (1, .ref (b + 39)), (2, .ref (b + 18)), (3, .int (jI q)), (4, .int (jI v109)), (5, .int (jI i)), (6, .int (jI v103))]) d_EX_lengthAfter_67 (Nat.le_of_ble_eq_true rfl) rfl ?_
        refine jt_iinc (L' := [(0, .ref (b + 5)), (1, .ref (b + 39)), (2, .ref (b + 18)), (3, .int (jI q)), (4, .int (jI v109)), (5, .int (jI (i + 1))), (6, .int (jI v103))]) d_EX_lengthAfter_69 rfl (Nat.le_of_ble_eq_true rfl) rfl ?_
        refine jt_goto (t := 16) d_EX_lengthAfter_72 rfl ?_
        refine jt_sub (L' := [(0, .ref (b + 5)), (1, .ref (b + 39)), (2, .ref (b + 18)), (3, .int (jI q)), (4, .int (jI v109)), (5, .int (jI (i + 1)))]) (fun _ h => List.mem_append_left [(6, Value.int (jI v103))] h) ?_
        exact ih v109 (i + 1) J B hJ (by omega) (by omega) (by omega)
set_option maxRecDepth 100000 in
set_option maxHeartbeats 4000000 in
theorem v_EX_lengthAfter_18 (G : jG) (d b : Nat) (q : Int) (I : Nat → Nat → Int) (A : Nat → Int → Int) (hI : cSI I) (hA : cSA A) (hK : cTok A) (hq : 0 ≤ q ∧ q ≤ 301) : cct G Y_EX_lengthAfter d b [.ref (b + 5), .ref (b + 39), .ref (b + 18), .int (jI q)] I A (fun (rv : Option Value) (I2 : Nat → Nat → Int) (A2 : Nat → Int → Int) => ∃ y : Int, rv = some (.int (jI y)) ∧ (-2147483648 ≤ y ∧ y ≤ 2147483647) ∧ cPo [] [] I A I2 A2) := by
  refine cct_of (by decide) (Nat.le_of_ble_eq_true rfl) (fun f0 sz => ?_)
  show jt _ 0 [(0, .ref (b + 5)), (1, .ref (b + 39)), (2, .ref (b + 18)), (3, .int (jI q))] [] _ _ _ _
  have hz0 : cPo [] [] I A I A := cPo.refl hI hA
  refine jt_aload_n d_EX_lengthAfter_0 rfl ?_
  refine cm_get (k := 5) (v := .int (jI (I 5 5))) d_EX_lengthAfter_1 EX_f42 (by decide) cc_2 rfl ?_
  have rb1 : 0 ≤ I 5 5 ∧ I 5 5 ≤ 300 := hz0.1 5 5
  refine jt_aload_n d_EX_lengthAfter_4 rfl ?_
  refine cm_get (k := 39) (v := .int (jI (I 39 3))) d_EX_lengthAfter_5 EX_f38 (by decide) (cc_1 rfl) rfl ?_
  have rb2 : 0 ≤ I 39 3 ∧ I 39 3 ≤ 300 := hz0.1 39 3
  refine jt_iadd d_EX_lengthAfter_8 ?_
  refine jt_iload_n d_EX_lengthAfter_9 rfl ?_
  refine jt_isub d_EX_lengthAfter_10 ?_
  refine jt_topi (fun v3 ev3 => ?_)
  refine jt_istore (L' := [(0, .ref (b + 5)), (1, .ref (b + 39)), (2, .ref (b + 18)), (3, .int (jI q)), (4, .int (jI v3))]) d_EX_lengthAfter_11 (Nat.le_of_ble_eq_true rfl) rfl ?_
  refine jt_iconst d_EX_lengthAfter_13 ?_
  refine jt_istore (L' := [(0, .ref (b + 5)), (1, .ref (b + 39)), (2, .ref (b + 18)), (3, .int (jI q)), (4, .int (jI v3)), (5, .int (jI 0))]) d_EX_lengthAfter_14 (Nat.le_of_ble_eq_true rfl) rfl ?_
  exact l16_EX_lengthAfter_18v G d b q I A hI hA hK hq f0 sz  41 v3 0 I A hz0 (by omega) (by omega) (by omega)
set_option maxRecDepth 100000 in
set_option maxHeartbeats 4000000 in
theorem l24_EX_putBody_18v (G : jG) (d b : Nat) (q : Int) (I : Nat → Nat → Int) (A : Nat → Int → Int) (hI : cSI I) (hA : cSA A) (hK : cTok A) (hq : 0 ≤ q ∧ q ≤ 301) (ha : I 5 5 < 300) (f0 : jF) (sz : Nat)  (e : Int) (e0 : -2147483648 ≤ e ∧ e ≤ 2147483647) : ∀ (n9 : Nat) (i : Int) (J : Nat → Nat → Int) (B : Nat → Int → Int), cPo [131, 627] [9, 10, 11, 40, 41, 42] I A J B → (0 ≤ i ∧ i ≤ 40) → (cTok B) → 40 - i < (n9 : Int) → jt (jm G Y_EX_putBody (gR (d + 2)) (cQ b f0 sz (fun (rv : Option Value) (I2 : Nat → Nat → Int) (A2 : Nat → Int → Int) => rv = none ∧ cPo [131, 627] [9, 10, 11, 40, 41, 42] I A I2 A2 ∧ cTok A2))) 24 [(0, .ref (b + 5)), (1, .ref (b + 39)), (2, .ref (b + 18)), (3, .int (jI q)), (4, .int (jI e)), (5, .int (jI i))] [] (cmf b f0 J B) sz 0 0 := by
  have r55 : 0 ≤ I 5 5 ∧ I 5 5 ≤ 300 := hI 5 5
  intro n9
  induction n9 with
  | zero =>
    intro i J B hJ i0 hKJ hmeas
    have tk : gtok (B 19 i) (B 20 i) := hKJ 18 rfl i
    have tk2 := tk
    unfold gtok at tk
    have f55 : J 5 5 = I 5 5 := hJ.2.2.1 5 5 rfl
    exfalso
    omega
  | succ n9 ih =>
    intro i J B hJ i0 hKJ hmeas
    have tk : gtok (B 19 i) (B 20 i) := hKJ 18 rfl i
    have tk2 := tk
    unfold gtok at tk
    have f55 : J 5 5 = I 5 5 := hJ.2.2.1 5 5 rfl
    refine jt_iload d_EX_putBody_24 rfl ?_
    refine jt_aload_n d_EX_putBody_26 rfl ?_
    refine cm_get (k := 18) (v := .int (jI (J 18 3))) d_EX_putBody_27 EX_f38 (by decide) (cc_1 rfl) rfl ?_
    have rb101 : 0 ≤ J 18 3 ∧ J 18 3 ≤ 40 := hJ.1 18 3
    refine jt_icmp_ge (t := 102) d_EX_putBody_30 rfl (by unfold jRi; omega) (by unfold jRi; omega) (fun c102 => ?_) (fun c102 => ?_)
    · skip
      refine jt_aload_n d_EX_putBody_102 rfl ?_
      refine cm_get (k := 5) (v := .ref (b + 8)) d_EX_putBody_103 EX_f24 (by decide) cc_2 rfl ?_
      refine jt_aload_n d_EX_putBody_106 rfl ?_
      refine jt_iload_n d_EX_putBody_107 rfl ?_
      refine jt_aload_n d_EX_putBody_108 rfl ?_
      refine cm_get (k := 39) (v := .int (jI (J 39 3))) d_EX_putBody_109 EX_f38 (by decide) (cc_1 rfl) rfl ?_
      have rb103 : 0 ≤ J 39 3 ∧ J 39 3 ≤ 300 := hJ.1 39 3
      refine cct_callV (Y := Y_TR_addAll) (ci := 0) (k := 8) (As := [.ref (b + 39), .int (jI q), .int (jI (J 39 3))]) (rest := []) d_EX_putBody_112 EX_c80 yk_TR_addAll yv_TR_addAll rfl (Nat.le_of_ble_eq_true rfl) (by decide) (cc_1 rfl) rfl rfl (Nat.le_of_ble_eq_true rfl) (v_TR_addAll_8_39 G _ b q (J 39 3) J B hJ.1 hJ.2.1 (by omega) (by omega)) (fun rvq104 Iq104 Aq104 hq104 => ?_)
      obtain ⟨rfl, hqq104, hxq104⟩ := hq104
      have hpq104 := cPo.trans hJ hqq104 rfl rfl
      have m39_3q104 : Iq104 39 3 = J 39 3 := hqq104.2.2.1 39 3 rfl
      have m5_5q104 : Iq104 5 5 = J 5 5 := hqq104.2.2.1 5 5 rfl
      show jt _ 115 [(0, .ref (b + 5)), (1, .ref (b + 39)), (2, .ref (b + 18)), (3, .int (jI q)), (4, .int (jI e)), (5, .int (jI i))] [] (cmf b f0 Iq104 Aq104) _ _ _
      refine jt_aload_n d_EX_putBody_115 rfl ?_
      refine jt_aload_n d_EX_putBody_116 rfl ?_
      refine cm_get (k := 5) (v := .int (jI (Iq104 5 5))) d_EX_putBody_117 EX_f42 (by decide) cc_2 rfl ?_
      have rb105 : 0 ≤ Iq104 5 5 ∧ Iq104 5 5 ≤ 300 := hpq104.1 5 5
      refine cm_put (k := 39) (j := 3) (v := (Iq104 5 5)) d_EX_putBody_120 (EX_w38 _ rfl) (by decide) (cc_1 rfl) rfl rfl (Nat.le_of_ble_eq_true rfl) rfl ?_
      have p106 := cPo.I 39 3 (Iq104 5 5) hpq104 rfl (show 0 ≤ Iq104 5 5 ∧ Iq104 5 5 ≤ 300 by omega)
      refine jt_aload_n d_EX_putBody_123 rfl ?_
      refine jt_aload_n d_EX_putBody_124 rfl ?_
      refine cm_get (k := 5) (v := .ref (b + 8)) d_EX_putBody_125 EX_f24 (by decide) cc_2 rfl ?_
      refine jt_iconst d_EX_putBody_128 ?_
      refine jt_aload_n d_EX_putBody_129 rfl ?_
      refine cm_get (k := 5) (v := .ref (b + 8)) d_EX_putBody_130 EX_f24 (by decide) cc_2 rfl ?_
      refine cm_get (k := 8) (v := .int (jI (Iq104 8 3))) d_EX_putBody_133 EX_f38 (by decide) (cc_1 rfl) rfl ?_
      have rb107 : 0 ≤ Iq104 8 3 ∧ Iq104 8 3 ≤ 300 := p106.1 8 3
      refine cct_callV (Y := Y_TR_addAll) (ci := 0) (k := 39) (As := [.ref (b + 8), .int (jI 0), .int (jI (Iq104 8 3))]) (rest := []) d_EX_putBody_136 EX_c80 yk_TR_addAll yv_TR_addAll rfl (Nat.le_of_ble_eq_true rfl) (by decide) (cc_1 rfl) rfl rfl (Nat.le_of_ble_eq_true rfl) (v_TR_addAll_39_8 G _ b 0 (Iq104 8 3) (cu Iq104 39 3 (Iq104 5 5)) Aq104 p106.1 p106.2.1 (by omega) (by omega)) (fun rvq108 Iq108 Aq108 hq108 => ?_)
      obtain ⟨rfl, hqq108, hxq108⟩ := hq108
      have hpq108 := cPo.trans p106 hqq108 rfl rfl
      have s39_3q108 : (cu Iq104 39 3 (Iq104 5 5)) 39 3 = Iq104 5 5 := rfl
      have s5_5q108 : (cu Iq104 39 3 (Iq104 5 5)) 5 5 = Iq104 5 5 := rfl
      have s8_3q108 : (cu Iq104 39 3 (Iq104 5 5)) 8 3 = Iq104 8 3 := rfl
      have m5_5q108 : Iq108 5 5 = Iq104 5 5 := hqq108.2.2.1 5 5 rfl
      have m8_3q108 : Iq108 8 3 = Iq104 8 3 := hqq108.2.2.1 8 3 rfl
      show jt _ 139 [(0, .ref (b + 5)), (1, .ref (b + 39)), (2, .ref (b + 18)), (3, .int (jI q)), (4, .int (jI e)), (5, .int (jI i))] [] (cmf b f0 Iq108 Aq108) _ _ _
      exact cm_vret d_EX_putBody_139 rfl (⟨rfl, hpq108, (hxq108 (hxq104 hKJ))⟩)
    · skip
      refine jt_aload_n d_EX_putBody_33 rfl ?_
      refine cm_get (k := 18) (v := .ref (b + 20)) d_EX_putBody_34 EX_f55 (by decide) (cc_1 rfl) rfl ?_
      refine jt_iload d_EX_putBody_37 rfl ?_
      refine cm_ld0 (k := 20) (n := 40) (v := (B 20) i) d_EX_putBody_39 (by decide) rfl rfl (by omega) (by omega) (by omega) rfl ?_
      refine jt_topi (fun v109 ev109 => ?_)
      have bv109 : -2147483648 ≤ v109 ∧ v109 ≤ 2147483647 := by rw [ev109]; exact hJ.2.1 20 i
      refine jt_istore (L' := [(0, .ref (b + 5)), (1, .ref (b + 39)), (2, .ref (b + 18)), (3, .int (jI q)), (4, .int (jI e)), (5, .int (jI i)), (6, .int (jI v109))]) d_EX_putBody_40 (Nat.le_of_ble_eq_true rfl) rfl ?_
      refine jt_aload_n d_EX_putBody_42 rfl ?_
      refine cm_get (k := 18) (v := .ref (b + 19)) d_EX_putBody_43 EX_f48 (by decide) (cc_1 rfl) rfl ?_
      refine jt_iload d_EX_putBody_46 rfl ?_
      refine cm_ld0 (k := 19) (n := 40) (v := (B 19) i) d_EX_putBody_48 (by decide) rfl rfl (by omega) (by omega) (by omega) rfl ?_
      refine jt_topi (fun v110 ev110 => ?_)
      have bv110 : -2147483648 ≤ v110 ∧ v110 ≤ 2147483647 := by rw [ev110]; exact hJ.2.1 19 i
      refine jt_iconst d_EX_putBody_49 ?_
      refine jt_icmp_ne (t := 78) d_EX_putBody_50 rfl (by unfold jRi; omega) (by unfold jRi; omega) (fun c111 => ?_) (fun c111 => ?_)
      · skip
        refine jt_aload_n d_EX_putBody_78 rfl ?_
        refine cm_get (k := 5) (v := .ref (b + 8)) d_EX_putBody_79 EX_f24 (by decide) cc_2 rfl ?_
        refine jt_aload_n d_EX_putBody_82 rfl ?_
        refine cm_get (k := 18) (v := .ref (b + 19)) d_EX_putBody_83 EX_f48 (by decide) (cc_1 rfl) rfl ?_
        refine jt_iload d_EX_putBody_86 rfl ?_
        refine cm_ld0 (k := 19) (n := 40) (v := (B 19) i) d_EX_putBody_88 (by decide) rfl rfl (by omega) (by omega) (by omega) rfl ?_
        refine jt_topi (fun v112 ev112 => ?_)
        have bv112 : -2147483648 ≤ v112 ∧ v112 ≤ 2147483647 := by rw [ev112]; exact hJ.2.1 19 i
        refine jt_iload d_EX_putBody_89 rfl ?_
        refine jt_iload d_EX_putBody_91 rfl ?_
        refine cct_callV (Y := Y_TR_add) (ci := 0) (k := 8) (As := [.int (jI v112), .int (jI v109), .int (jI e)]) (rest := []) d_EX_putBody_93 EX_c84 yk_TR_add yv_TR_add rfl (Nat.le_of_ble_eq_true rfl) (by decide) (cc_1 rfl) rfl rfl (Nat.le_of_ble_eq_true rfl) (v_TR_add_8 G _ b v112 v109 e J B hJ.1 hJ.2.1 (by omega) (by omega) (by omega)) (fun rvq113 Iq113 Aq113 hq113 => ?_)
        obtain ⟨rfl, hqq113, hxq113⟩ := hq113
        have hpq113 := cPo.trans hJ hqq113 rfl rfl
        have m39_3q113 : Iq113 39 3 = J 39 3 := hqq113.2.2.1 39 3 rfl
        have m5_5q113 : Iq113 5 5 = J 5 5 := hqq113.2.2.1 5 5 rfl
        show jt _ 96 [(0, .ref (b + 5)), (1, .ref (b + 39)), (2, .ref (b + 18)), (3, .int (jI q)), (4, .int (jI e)), (5, .int (jI i)), (6, .int (jI v109))] [] (cmf b f0 Iq113 Aq113) _ _ _
        refine jt_iinc (L' := [(0, .ref (b + 5)), (1, .ref (b + 39)), (2, .ref (b + 18)), (3, .int (jI q)), (4, .int (jI e)), (5, .int (jI (i + 1))), (6, .int (jI v109))]) d_EX_putBody_96 rfl (Nat.le_of_ble_eq_true rfl) rfl ?_
        refine jt_goto (t := 24) d_EX_putBody_99 rfl ?_
        refine jt_sub (L' := [(0, .ref (b + 5)), (1, .ref (b + 39)), (2, .ref (b + 18)), (3, .int (jI q)), (4, .int (jI e)), (5, .int (jI (i + 1)))]) (fun _ h => List.mem_append_left [(6, Value.int (jI v109))] h) ?_
        exact ih (i + 1) Iq113 Aq113 hpq113 (by omega) (hxq113.1 hKJ (by rw [ev112, ev109]; exact tk2)) (by omega)
      · skip
        refine jt_aload_n d_EX_putBody_53 rfl ?_
        refine cm_get (k := 5) (v := .ref (b + 8)) d_EX_putBody_54 EX_f24 (by decide) cc_2 rfl ?_
        refine jt_aload_n d_EX_putBody_57 rfl ?_
        refine jt_aload_n d_EX_putBody_58 rfl ?_
        refine cm_get (k := 5) (v := .ref (b + 12)) d_EX_putBody_59 EX_f28 (by decide) cc_2 rfl ?_
        refine jt_iload d_EX_putBody_62 rfl ?_
        refine cm_ld0 (k := 12) (n := 3) (v := (B 12) v109) d_EX_putBody_64 (by decide) rfl rfl (by omega) (by omega) (by omega) rfl ?_
        refine jt_topi (fun v114 ev114 => ?_)
        have bv114 : 0 ≤ v114 ∧ v114 ≤ 300 := by rw [ev114]; exact hJ.2.1 12 v109
        refine jt_aload_n d_EX_putBody_65 rfl ?_
        refine cm_get (k := 5) (v := .ref (b + 13)) d_EX_putBody_66 EX_f31 (by decide) cc_2 rfl ?_
        refine jt_iload d_EX_putBody_69 rfl ?_
        refine cm_ld0 (k := 13) (n := 3) (v := (B 13) v109) d_EX_putBody_71 (by decide) rfl rfl (by omega) (by omega) (by omega) rfl ?_
        refine jt_topi (fun v115 ev115 => ?_)
        have bv115 : 0 ≤ v115 ∧ v115 ≤ 300 := by rw [ev115]; exact hJ.2.1 13 v109
        refine cct_callV (Y := Y_TR_addAll) (ci := 0) (k := 8) (As := [.ref (b + 39), .int (jI v114), .int (jI v115)]) (rest := []) d_EX_putBody_72 EX_c80 yk_TR_addAll yv_TR_addAll rfl (Nat.le_of_ble_eq_true rfl) (by decide) (cc_1 rfl) rfl rfl (Nat.le_of_ble_eq_true rfl) (v_TR_addAll_8_39 G _ b v114 v115 J B hJ.1 hJ.2.1 (by omega) (by omega)) (fun rvq116 Iq116 Aq116 hq116 => ?_)
        obtain ⟨rfl, hqq116, hxq116⟩ := hq116
        have hpq116 := cPo.trans hJ hqq116 rfl rfl
        have m39_3q116 : Iq116 39 3 = J 39 3 := hqq116.2.2.1 39 3 rfl
        have m5_5q116 : Iq116 5 5 = J 5 5 := hqq116.2.2.1 5 5 rfl
        show jt _ 75 [(0, .ref (b + 5)), (1, .ref (b + 39)), (2, .ref (b + 18)), (3, .int (jI q)), (4, .int (jI e)), (5, .int (jI i)), (6, .int (jI v109))] [] (cmf b f0 Iq116 Aq116) _ _ _
        refine jt_goto (t := 96) d_EX_putBody_75 rfl ?_
        refine jt_iinc (L' := [(0, .ref (b + 5)), (1, .ref (b + 39)), (2, .ref (b + 18)), (3, .int (jI q)), (4, .int (jI e)), (5, .int (jI (i + 1))), (6, .int (jI v109))]) d_EX_putBody_96 rfl (Nat.le_of_ble_eq_true rfl) rfl ?_
        refine jt_goto (t := 24) d_EX_putBody_99 rfl ?_
        refine jt_sub (L' := [(0, .ref (b + 5)), (1, .ref (b + 39)), (2, .ref (b + 18)), (3, .int (jI q)), (4, .int (jI e)), (5, .int (jI (i + 1)))]) (fun _ h => List.mem_append_left [(6, Value.int (jI v109))] h) ?_
        exact ih (i + 1) Iq116 Aq116 hpq116 (by omega) (hxq116 hKJ) (by omega)
set_option maxRecDepth 100000 in
set_option maxHeartbeats 4000000 in
theorem v_EX_putBody_18 (G : jG) (d b : Nat) (q : Int) (I : Nat → Nat → Int) (A : Nat → Int → Int) (hI : cSI I) (hA : cSA A) (hK : cTok A) (hq : 0 ≤ q ∧ q ≤ 301) (ha : I 5 5 < 300) : cct G Y_EX_putBody (d + 2) b [.ref (b + 5), .ref (b + 39), .ref (b + 18), .int (jI q)] I A (fun (rv : Option Value) (I2 : Nat → Nat → Int) (A2 : Nat → Int → Int) => rv = none ∧ cPo [131, 627] [9, 10, 11, 40, 41, 42] I A I2 A2 ∧ cTok A2) := by
  refine cct_of (by decide) (Nat.le_of_ble_eq_true rfl) (fun f0 sz => ?_)
  show jt _ 0 [(0, .ref (b + 5)), (1, .ref (b + 39)), (2, .ref (b + 18)), (3, .int (jI q))] [] _ _ _ _
  have r55 : 0 ≤ I 5 5 ∧ I 5 5 ≤ 300 := hI 5 5
  have hz0 : cPo [131, 627] [9, 10, 11, 40, 41, 42] I A I A := cPo.refl hI hA
  refine jt_aload_n d_EX_putBody_0 rfl ?_
  refine cm_get (k := 39) (v := .ref (b + 42)) d_EX_putBody_1 EX_f58 (by decide) (cc_1 rfl) rfl ?_
  refine jt_aload_n d_EX_putBody_4 rfl ?_
  refine cm_get (k := 5) (v := .int (jI (I 5 5))) d_EX_putBody_5 EX_f42 (by decide) cc_2 rfl ?_
  have rb1 : 0 ≤ I 5 5 ∧ I 5 5 ≤ 300 := hz0.1 5 5
  refine cm_ld0 (k := 42) (n := 300) (v := (A 42) (I 5 5)) d_EX_putBody_8 (by decide) rfl rfl (by omega) (by omega) (by omega) rfl ?_
  refine jt_topi (fun v2 ev2 => ?_)
  have bv2 : -2147483648 ≤ v2 ∧ v2 ≤ 2147483647 := by rw [ev2]; exact hz0.2.1 42 (I 5 5)
  refine jt_iconst d_EX_putBody_9 ?_
  refine jt_iadd d_EX_putBody_10 ?_
  refine jt_topie (fun v3 bv3 ev3 => ?_)
  refine jt_istore (L' := [(0, .ref (b + 5)), (1, .ref (b + 39)), (2, .ref (b + 18)), (3, .int (jI q)), (4, .int (jI v3))]) d_EX_putBody_11 (Nat.le_of_ble_eq_true rfl) rfl ?_
  refine jt_aload_n d_EX_putBody_13 rfl ?_
  refine cm_get (k := 5) (v := .ref (b + 8)) d_EX_putBody_14 EX_f24 (by decide) cc_2 rfl ?_
  refine jt_iconst d_EX_putBody_17 ?_
  refine cm_put (k := 8) (j := 3) (v := 0) d_EX_putBody_18 (EX_w38 _ rfl) (by decide) (cc_1 rfl) rfl rfl (Nat.le_of_ble_eq_true rfl) rfl ?_
  have p4 := cPo.I 8 3 0 hz0 rfl (show 0 ≤ 0 ∧ 0 ≤ 300 by omega)
  refine jt_iconst d_EX_putBody_21 ?_
  refine jt_istore (L' := [(0, .ref (b + 5)), (1, .ref (b + 39)), (2, .ref (b + 18)), (3, .int (jI q)), (4, .int (jI v3)), (5, .int (jI 0))]) d_EX_putBody_22 (Nat.le_of_ble_eq_true rfl) rfl ?_
  exact l24_EX_putBody_18v G d b q I A hI hA hK hq ha f0 sz v3 ((by omega)) 41 0 (cu I 8 3 0) A p4 (by omega) hK (by omega)
set_option maxRecDepth 100000 in
set_option maxHeartbeats 4000000 in
theorem l16_EX_lengthAfter_22v (G : jG) (d b : Nat) (q : Int) (I : Nat → Nat → Int) (A : Nat → Int → Int) (hI : cSI I) (hA : cSA A) (hK : cTok A) (hq : 0 ≤ q ∧ q ≤ 301) (f0 : jF) (sz : Nat)   : ∀ (n9 : Nat) (l : Int) (i : Int) (J : Nat → Nat → Int) (B : Nat → Int → Int), cPo [] [] I A J B → (0 ≤ i ∧ i ≤ 40) → (-700 - 300 * i ≤ l ∧ l ≤ 700 + 300 * i) → 40 - i < (n9 : Int) → jt (jm G Y_EX_lengthAfter (gR d) (cQ b f0 sz (fun (rv : Option Value) (I2 : Nat → Nat → Int) (A2 : Nat → Int → Int) => ∃ y : Int, rv = some (.int (jI y)) ∧ (-2147483648 ≤ y ∧ y ≤ 2147483647) ∧ cPo [] [] I A I2 A2))) 16 [(0, .ref (b + 5)), (1, .ref (b + 39)), (2, .ref (b + 22)), (3, .int (jI q)), (4, .int (jI l)), (5, .int (jI i))] [] (cmf b f0 J B) sz 0 0 := by
  intro n9
  induction n9 with
  | zero =>
    intro l i J B hJ i0 l0 hmeas
    have tk : gtok (B 23 i) (B 24 i) := (cTok_of hJ hK rfl) 22 rfl i
    unfold gtok at tk
    exfalso
    omega
  | succ n9 ih =>
    intro l i J B hJ i0 l0 hmeas
    have tk : gtok (B 23 i) (B 24 i) := (cTok_of hJ hK rfl) 22 rfl i
    unfold gtok at tk
    refine jt_iload d_EX_lengthAfter_16 rfl ?_
    refine jt_aload_n d_EX_lengthAfter_18 rfl ?_
    refine cm_get (k := 22) (v := .int (jI (J 22 3))) d_EX_lengthAfter_19 EX_f38 (by decide) (cc_1 rfl) rfl ?_
    have rb101 : 0 ≤ J 22 3 ∧ J 22 3 ≤ 40 := hJ.1 22 3
    refine jt_icmp_ge (t := 75) d_EX_lengthAfter_22 rfl (by unfold jRi; omega) (by unfold jRi; omega) (fun c102 => ?_) (fun c102 => ?_)
    · skip
      refine jt_iload d_EX_lengthAfter_75 rfl ?_
      exact cm_ret d_EX_lengthAfter_77 rfl rfl (⟨l, rfl, by omega, hJ⟩)
    · skip
      refine jt_aload_n d_EX_lengthAfter_25 rfl ?_
      refine cm_get (k := 22) (v := .ref (b + 24)) d_EX_lengthAfter_26 EX_f55 (by decide) (cc_1 rfl) rfl ?_
      refine jt_iload d_EX_lengthAfter_29 rfl ?_
      refine cm_ld0 (k := 24) (n := 40) (v := (B 24) i) d_EX_lengthAfter_31 (by decide) rfl rfl (by omega) (by omega) (by omega) rfl ?_
      refine jt_topi (fun v103 ev103 => ?_)
      have bv103 : -2147483648 ≤ v103 ∧ v103 ≤ 2147483647 := by rw [ev103]; exact hJ.2.1 24 i
      refine jt_istore (L' := [(0, .ref (b + 5)), (1, .ref (b + 39)), (2, .ref (b + 22)), (3, .int (jI q)), (4, .int (jI l)), (5, .int (jI i)), (6, .int (jI v103))]) d_EX_lengthAfter_32 (Nat.le_of_ble_eq_true rfl) rfl ?_
      refine jt_iload d_EX_lengthAfter_34 rfl ?_
      refine jt_aload_n d_EX_lengthAfter_36 rfl ?_
      refine cm_get (k := 22) (v := .ref (b + 23)) d_EX_lengthAfter_37 EX_f48 (by decide) (cc_1 rfl) rfl ?_
      refine jt_iload d_EX_lengthAfter_40 rfl ?_
      refine cm_ld0 (k := 23) (n := 40) (v := (B 23) i) d_EX_lengthAfter_42 (by decide) rfl rfl (by omega) (by omega) (by omega) rfl ?_
      refine jt_topi (fun v104 ev104 => ?_)
      have bv104 : -2147483648 ≤ v104 ∧ v104 ≤ 2147483647 := by rw [ev104]; exact hJ.2.1 23 i
      refine jt_iconst d_EX_lengthAfter_43 ?_
      refine jt_icmp_ne (t := 65) d_EX_lengthAfter_44 rfl (by unfold jRi; omega) (by unfold jRi; omega) (fun c105 => ?_) (fun c105 => ?_)
      · skip
        refine jt_iconst d_EX_lengthAfter_65 ?_
        refine jt_iadd d_EX_lengthAfter_66 ?_
        refine jt_topi (fun v106 ev106 => ?_)
        refine jt_istore (L' := [(0, .ref (b + 5)), (1, .ref (b + 39)), (2, .ref (b + 22)), (3, .int (jI q)), (4, .int (jI v106)), (5, .int (jI i)), (6, .int (jI v103))]) d_EX_lengthAfter_67 (Nat.le_of_ble_eq_true rfl) rfl ?_
        refine jt_iinc (L' := [(0, .ref (b + 5)), (1, .ref (b + 39)), (2, .ref (b + 22)), (3, .int (jI q)), (4, .int (jI v106)), (5, .int (jI (i + 1))), (6, .int (jI v103))]) d_EX_lengthAfter_69 rfl (Nat.le_of_ble_eq_true rfl) rfl ?_
        refine jt_goto (t := 16) d_EX_lengthAfter_72 rfl ?_
        refine jt_sub (L' := [(0, .ref (b + 5)), (1, .ref (b + 39)), (2, .ref (b + 22)), (3, .int (jI q)), (4, .int (jI v106)), (5, .int (jI (i + 1)))]) (fun _ h => List.mem_append_left [(6, Value.int (jI v103))] h) ?_
        exact ih v106 (i + 1) J B hJ (by omega) (by omega) (by omega)
      · skip
        refine jt_aload_n d_EX_lengthAfter_47 rfl ?_
        refine cm_get (k := 5) (v := .ref (b + 13)) d_EX_lengthAfter_48 EX_f31 (by decide) cc_2 rfl ?_
        refine jt_iload d_EX_lengthAfter_51 rfl ?_
        refine cm_ld0 (k := 13) (n := 3) (v := (B 13) v103) d_EX_lengthAfter_53 (by decide) rfl rfl (by omega) (by omega) (by omega) rfl ?_
        refine jt_topi (fun v107 ev107 => ?_)
        have bv107 : 0 ≤ v107 ∧ v107 ≤ 300 := by rw [ev107]; exact hJ.2.1 13 v103
        refine jt_aload_n d_EX_lengthAfter_54 rfl ?_
        refine cm_get (k := 5) (v := .ref (b + 12)) d_EX_lengthAfter_55 EX_f28 (by decide) cc_2 rfl ?_
        refine jt_iload d_EX_lengthAfter_58 rfl ?_
        refine cm_ld0 (k := 12) (n := 3) (v := (B 12) v103) d_EX_lengthAfter_60 (by decide) rfl rfl (by omega) (by omega) (by omega) rfl ?_
        refine jt_topi (fun v108 ev108 => ?_)
        have bv108 : 0 ≤ v108 ∧ v108 ≤ 300 := by rw [ev108]; exact hJ.2.1 12 v103
        refine jt_isub d_EX_lengthAfter_61 ?_
        refine jt_goto (t := 66) d_EX_lengthAfter_62 rfl ?_
        refine jt_iadd d_EX_lengthAfter_66 ?_
        refine jt_topi (fun v109 ev109 => ?_)
        refine jt_istore (L' := [(0, .ref (b + 5)), (1, .ref (b + 39)), (2, .ref (b + 22)), (3, .int (jI q)), (4, .int (jI v109)), (5, .int (jI i)), (6, .int (jI v103))]) d_EX_lengthAfter_67 (Nat.le_of_ble_eq_true rfl) rfl ?_
        refine jt_iinc (L' := [(0, .ref (b + 5)), (1, .ref (b + 39)), (2, .ref (b + 22)), (3, .int (jI q)), (4, .int (jI v109)), (5, .int (jI (i + 1))), (6, .int (jI v103))]) d_EX_lengthAfter_69 rfl (Nat.le_of_ble_eq_true rfl) rfl ?_
        refine jt_goto (t := 16) d_EX_lengthAfter_72 rfl ?_
        refine jt_sub (L' := [(0, .ref (b + 5)), (1, .ref (b + 39)), (2, .ref (b + 22)), (3, .int (jI q)), (4, .int (jI v109)), (5, .int (jI (i + 1)))]) (fun _ h => List.mem_append_left [(6, Value.int (jI v103))] h) ?_
        exact ih v109 (i + 1) J B hJ (by omega) (by omega) (by omega)
set_option maxRecDepth 100000 in
set_option maxHeartbeats 4000000 in
theorem v_EX_lengthAfter_22 (G : jG) (d b : Nat) (q : Int) (I : Nat → Nat → Int) (A : Nat → Int → Int) (hI : cSI I) (hA : cSA A) (hK : cTok A) (hq : 0 ≤ q ∧ q ≤ 301) : cct G Y_EX_lengthAfter d b [.ref (b + 5), .ref (b + 39), .ref (b + 22), .int (jI q)] I A (fun (rv : Option Value) (I2 : Nat → Nat → Int) (A2 : Nat → Int → Int) => ∃ y : Int, rv = some (.int (jI y)) ∧ (-2147483648 ≤ y ∧ y ≤ 2147483647) ∧ cPo [] [] I A I2 A2) := by
  refine cct_of (by decide) (Nat.le_of_ble_eq_true rfl) (fun f0 sz => ?_)
  show jt _ 0 [(0, .ref (b + 5)), (1, .ref (b + 39)), (2, .ref (b + 22)), (3, .int (jI q))] [] _ _ _ _
  have hz0 : cPo [] [] I A I A := cPo.refl hI hA
  refine jt_aload_n d_EX_lengthAfter_0 rfl ?_
  refine cm_get (k := 5) (v := .int (jI (I 5 5))) d_EX_lengthAfter_1 EX_f42 (by decide) cc_2 rfl ?_
  have rb1 : 0 ≤ I 5 5 ∧ I 5 5 ≤ 300 := hz0.1 5 5
  refine jt_aload_n d_EX_lengthAfter_4 rfl ?_
  refine cm_get (k := 39) (v := .int (jI (I 39 3))) d_EX_lengthAfter_5 EX_f38 (by decide) (cc_1 rfl) rfl ?_
  have rb2 : 0 ≤ I 39 3 ∧ I 39 3 ≤ 300 := hz0.1 39 3
  refine jt_iadd d_EX_lengthAfter_8 ?_
  refine jt_iload_n d_EX_lengthAfter_9 rfl ?_
  refine jt_isub d_EX_lengthAfter_10 ?_
  refine jt_topi (fun v3 ev3 => ?_)
  refine jt_istore (L' := [(0, .ref (b + 5)), (1, .ref (b + 39)), (2, .ref (b + 22)), (3, .int (jI q)), (4, .int (jI v3))]) d_EX_lengthAfter_11 (Nat.le_of_ble_eq_true rfl) rfl ?_
  refine jt_iconst d_EX_lengthAfter_13 ?_
  refine jt_istore (L' := [(0, .ref (b + 5)), (1, .ref (b + 39)), (2, .ref (b + 22)), (3, .int (jI q)), (4, .int (jI v3)), (5, .int (jI 0))]) d_EX_lengthAfter_14 (Nat.le_of_ble_eq_true rfl) rfl ?_
  exact l16_EX_lengthAfter_22v G d b q I A hI hA hK hq f0 sz  41 v3 0 I A hz0 (by omega) (by omega) (by omega)
set_option maxRecDepth 100000 in
set_option maxHeartbeats 4000000 in
theorem l24_EX_putBody_22v (G : jG) (d b : Nat) (q : Int) (I : Nat → Nat → Int) (A : Nat → Int → Int) (hI : cSI I) (hA : cSA A) (hK : cTok A) (hq : 0 ≤ q ∧ q ≤ 301) (ha : I 5 5 < 300) (f0 : jF) (sz : Nat)  (e : Int) (e0 : -2147483648 ≤ e ∧ e ≤ 2147483647) : ∀ (n9 : Nat) (i : Int) (J : Nat → Nat → Int) (B : Nat → Int → Int), cPo [131, 627] [9, 10, 11, 40, 41, 42] I A J B → (0 ≤ i ∧ i ≤ 40) → (cTok B) → 40 - i < (n9 : Int) → jt (jm G Y_EX_putBody (gR (d + 2)) (cQ b f0 sz (fun (rv : Option Value) (I2 : Nat → Nat → Int) (A2 : Nat → Int → Int) => rv = none ∧ cPo [131, 627] [9, 10, 11, 40, 41, 42] I A I2 A2 ∧ cTok A2))) 24 [(0, .ref (b + 5)), (1, .ref (b + 39)), (2, .ref (b + 22)), (3, .int (jI q)), (4, .int (jI e)), (5, .int (jI i))] [] (cmf b f0 J B) sz 0 0 := by
  have r55 : 0 ≤ I 5 5 ∧ I 5 5 ≤ 300 := hI 5 5
  intro n9
  induction n9 with
  | zero =>
    intro i J B hJ i0 hKJ hmeas
    have tk : gtok (B 23 i) (B 24 i) := hKJ 22 rfl i
    have tk2 := tk
    unfold gtok at tk
    have f55 : J 5 5 = I 5 5 := hJ.2.2.1 5 5 rfl
    exfalso
    omega
  | succ n9 ih =>
    intro i J B hJ i0 hKJ hmeas
    have tk : gtok (B 23 i) (B 24 i) := hKJ 22 rfl i
    have tk2 := tk
    unfold gtok at tk
    have f55 : J 5 5 = I 5 5 := hJ.2.2.1 5 5 rfl
    refine jt_iload d_EX_putBody_24 rfl ?_
    refine jt_aload_n d_EX_putBody_26 rfl ?_
    refine cm_get (k := 22) (v := .int (jI (J 22 3))) d_EX_putBody_27 EX_f38 (by decide) (cc_1 rfl) rfl ?_
    have rb101 : 0 ≤ J 22 3 ∧ J 22 3 ≤ 40 := hJ.1 22 3
    refine jt_icmp_ge (t := 102) d_EX_putBody_30 rfl (by unfold jRi; omega) (by unfold jRi; omega) (fun c102 => ?_) (fun c102 => ?_)
    · skip
      refine jt_aload_n d_EX_putBody_102 rfl ?_
      refine cm_get (k := 5) (v := .ref (b + 8)) d_EX_putBody_103 EX_f24 (by decide) cc_2 rfl ?_
      refine jt_aload_n d_EX_putBody_106 rfl ?_
      refine jt_iload_n d_EX_putBody_107 rfl ?_
      refine jt_aload_n d_EX_putBody_108 rfl ?_
      refine cm_get (k := 39) (v := .int (jI (J 39 3))) d_EX_putBody_109 EX_f38 (by decide) (cc_1 rfl) rfl ?_
      have rb103 : 0 ≤ J 39 3 ∧ J 39 3 ≤ 300 := hJ.1 39 3
      refine cct_callV (Y := Y_TR_addAll) (ci := 0) (k := 8) (As := [.ref (b + 39), .int (jI q), .int (jI (J 39 3))]) (rest := []) d_EX_putBody_112 EX_c80 yk_TR_addAll yv_TR_addAll rfl (Nat.le_of_ble_eq_true rfl) (by decide) (cc_1 rfl) rfl rfl (Nat.le_of_ble_eq_true rfl) (v_TR_addAll_8_39 G _ b q (J 39 3) J B hJ.1 hJ.2.1 (by omega) (by omega)) (fun rvq104 Iq104 Aq104 hq104 => ?_)
      obtain ⟨rfl, hqq104, hxq104⟩ := hq104
      have hpq104 := cPo.trans hJ hqq104 rfl rfl
      have m39_3q104 : Iq104 39 3 = J 39 3 := hqq104.2.2.1 39 3 rfl
      have m5_5q104 : Iq104 5 5 = J 5 5 := hqq104.2.2.1 5 5 rfl
      show jt _ 115 [(0, .ref (b + 5)), (1, .ref (b + 39)), (2, .ref (b + 22)), (3, .int (jI q)), (4, .int (jI e)), (5, .int (jI i))] [] (cmf b f0 Iq104 Aq104) _ _ _
      refine jt_aload_n d_EX_putBody_115 rfl ?_
      refine jt_aload_n d_EX_putBody_116 rfl ?_
      refine cm_get (k := 5) (v := .int (jI (Iq104 5 5))) d_EX_putBody_117 EX_f42 (by decide) cc_2 rfl ?_
      have rb105 : 0 ≤ Iq104 5 5 ∧ Iq104 5 5 ≤ 300 := hpq104.1 5 5
      refine cm_put (k := 39) (j := 3) (v := (Iq104 5 5)) d_EX_putBody_120 (EX_w38 _ rfl) (by decide) (cc_1 rfl) rfl rfl (Nat.le_of_ble_eq_true rfl) rfl ?_
      have p106 := cPo.I 39 3 (Iq104 5 5) hpq104 rfl (show 0 ≤ Iq104 5 5 ∧ Iq104 5 5 ≤ 300 by omega)
      refine jt_aload_n d_EX_putBody_123 rfl ?_
      refine jt_aload_n d_EX_putBody_124 rfl ?_
      refine cm_get (k := 5) (v := .ref (b + 8)) d_EX_putBody_125 EX_f24 (by decide) cc_2 rfl ?_
      refine jt_iconst d_EX_putBody_128 ?_
      refine jt_aload_n d_EX_putBody_129 rfl ?_
      refine cm_get (k := 5) (v := .ref (b + 8)) d_EX_putBody_130 EX_f24 (by decide) cc_2 rfl ?_
      refine cm_get (k := 8) (v := .int (jI (Iq104 8 3))) d_EX_putBody_133 EX_f38 (by decide) (cc_1 rfl) rfl ?_
      have rb107 : 0 ≤ Iq104 8 3 ∧ Iq104 8 3 ≤ 300 := p106.1 8 3
      refine cct_callV (Y := Y_TR_addAll) (ci := 0) (k := 39) (As := [.ref (b + 8), .int (jI 0), .int (jI (Iq104 8 3))]) (rest := []) d_EX_putBody_136 EX_c80 yk_TR_addAll yv_TR_addAll rfl (Nat.le_of_ble_eq_true rfl) (by decide) (cc_1 rfl) rfl rfl (Nat.le_of_ble_eq_true rfl) (v_TR_addAll_39_8 G _ b 0 (Iq104 8 3) (cu Iq104 39 3 (Iq104 5 5)) Aq104 p106.1 p106.2.1 (by omega) (by omega)) (fun rvq108 Iq108 Aq108 hq108 => ?_)
      obtain ⟨rfl, hqq108, hxq108⟩ := hq108
      have hpq108 := cPo.trans p106 hqq108 rfl rfl
      have s39_3q108 : (cu Iq104 39 3 (Iq104 5 5)) 39 3 = Iq104 5 5 := rfl
      have s5_5q108 : (cu Iq104 39 3 (Iq104 5 5)) 5 5 = Iq104 5 5 := rfl
      have s8_3q108 : (cu Iq104 39 3 (Iq104 5 5)) 8 3 = Iq104 8 3 := rfl
      have m5_5q108 : Iq108 5 5 = Iq104 5 5 := hqq108.2.2.1 5 5 rfl
      have m8_3q108 : Iq108 8 3 = Iq104 8 3 := hqq108.2.2.1 8 3 rfl
      show jt _ 139 [(0, .ref (b + 5)), (1, .ref (b + 39)), (2, .ref (b + 22)), (3, .int (jI q)), (4, .int (jI e)), (5, .int (jI i))] [] (cmf b f0 Iq108 Aq108) _ _ _
      exact cm_vret d_EX_putBody_139 rfl (⟨rfl, hpq108, (hxq108 (hxq104 hKJ))⟩)
    · skip
      refine jt_aload_n d_EX_putBody_33 rfl ?_
      refine cm_get (k := 22) (v := .ref (b + 24)) d_EX_putBody_34 EX_f55 (by decide) (cc_1 rfl) rfl ?_
      refine jt_iload d_EX_putBody_37 rfl ?_
      refine cm_ld0 (k := 24) (n := 40) (v := (B 24) i) d_EX_putBody_39 (by decide) rfl rfl (by omega) (by omega) (by omega) rfl ?_
      refine jt_topi (fun v109 ev109 => ?_)
      have bv109 : -2147483648 ≤ v109 ∧ v109 ≤ 2147483647 := by rw [ev109]; exact hJ.2.1 24 i
      refine jt_istore (L' := [(0, .ref (b + 5)), (1, .ref (b + 39)), (2, .ref (b + 22)), (3, .int (jI q)), (4, .int (jI e)), (5, .int (jI i)), (6, .int (jI v109))]) d_EX_putBody_40 (Nat.le_of_ble_eq_true rfl) rfl ?_
      refine jt_aload_n d_EX_putBody_42 rfl ?_
      refine cm_get (k := 22) (v := .ref (b + 23)) d_EX_putBody_43 EX_f48 (by decide) (cc_1 rfl) rfl ?_
      refine jt_iload d_EX_putBody_46 rfl ?_
      refine cm_ld0 (k := 23) (n := 40) (v := (B 23) i) d_EX_putBody_48 (by decide) rfl rfl (by omega) (by omega) (by omega) rfl ?_
      refine jt_topi (fun v110 ev110 => ?_)
      have bv110 : -2147483648 ≤ v110 ∧ v110 ≤ 2147483647 := by rw [ev110]; exact hJ.2.1 23 i
      refine jt_iconst d_EX_putBody_49 ?_
      refine jt_icmp_ne (t := 78) d_EX_putBody_50 rfl (by unfold jRi; omega) (by unfold jRi; omega) (fun c111 => ?_) (fun c111 => ?_)
      · skip
        refine jt_aload_n d_EX_putBody_78 rfl ?_
        refine cm_get (k := 5) (v := .ref (b + 8)) d_EX_putBody_79 EX_f24 (by decide) cc_2 rfl ?_
        refine jt_aload_n d_EX_putBody_82 rfl ?_
        refine cm_get (k := 22) (v := .ref (b + 23)) d_EX_putBody_83 EX_f48 (by decide) (cc_1 rfl) rfl ?_
        refine jt_iload d_EX_putBody_86 rfl ?_
        refine cm_ld0 (k := 23) (n := 40) (v := (B 23) i) d_EX_putBody_88 (by decide) rfl rfl (by omega) (by omega) (by omega) rfl ?_
        refine jt_topi (fun v112 ev112 => ?_)
        have bv112 : -2147483648 ≤ v112 ∧ v112 ≤ 2147483647 := by rw [ev112]; exact hJ.2.1 23 i
        refine jt_iload d_EX_putBody_89 rfl ?_
        refine jt_iload d_EX_putBody_91 rfl ?_
        refine cct_callV (Y := Y_TR_add) (ci := 0) (k := 8) (As := [.int (jI v112), .int (jI v109), .int (jI e)]) (rest := []) d_EX_putBody_93 EX_c84 yk_TR_add yv_TR_add rfl (Nat.le_of_ble_eq_true rfl) (by decide) (cc_1 rfl) rfl rfl (Nat.le_of_ble_eq_true rfl) (v_TR_add_8 G _ b v112 v109 e J B hJ.1 hJ.2.1 (by omega) (by omega) (by omega)) (fun rvq113 Iq113 Aq113 hq113 => ?_)
        obtain ⟨rfl, hqq113, hxq113⟩ := hq113
        have hpq113 := cPo.trans hJ hqq113 rfl rfl
        have m39_3q113 : Iq113 39 3 = J 39 3 := hqq113.2.2.1 39 3 rfl
        have m5_5q113 : Iq113 5 5 = J 5 5 := hqq113.2.2.1 5 5 rfl
        show jt _ 96 [(0, .ref (b + 5)), (1, .ref (b + 39)), (2, .ref (b + 22)), (3, .int (jI q)), (4, .int (jI e)), (5, .int (jI i)), (6, .int (jI v109))] [] (cmf b f0 Iq113 Aq113) _ _ _
        refine jt_iinc (L' := [(0, .ref (b + 5)), (1, .ref (b + 39)), (2, .ref (b + 22)), (3, .int (jI q)), (4, .int (jI e)), (5, .int (jI (i + 1))), (6, .int (jI v109))]) d_EX_putBody_96 rfl (Nat.le_of_ble_eq_true rfl) rfl ?_
        refine jt_goto (t := 24) d_EX_putBody_99 rfl ?_
        refine jt_sub (L' := [(0, .ref (b + 5)), (1, .ref (b + 39)), (2, .ref (b + 22)), (3, .int (jI q)), (4, .int (jI e)), (5, .int (jI (i + 1)))]) (fun _ h => List.mem_append_left [(6, Value.int (jI v109))] h) ?_
        exact ih (i + 1) Iq113 Aq113 hpq113 (by omega) (hxq113.1 hKJ (by rw [ev112, ev109]; exact tk2)) (by omega)
      · skip
        refine jt_aload_n d_EX_putBody_53 rfl ?_
        refine cm_get (k := 5) (v := .ref (b + 8)) d_EX_putBody_54 EX_f24 (by decide) cc_2 rfl ?_
        refine jt_aload_n d_EX_putBody_57 rfl ?_
        refine jt_aload_n d_EX_putBody_58 rfl ?_
        refine cm_get (k := 5) (v := .ref (b + 12)) d_EX_putBody_59 EX_f28 (by decide) cc_2 rfl ?_
        refine jt_iload d_EX_putBody_62 rfl ?_
        refine cm_ld0 (k := 12) (n := 3) (v := (B 12) v109) d_EX_putBody_64 (by decide) rfl rfl (by omega) (by omega) (by omega) rfl ?_
        refine jt_topi (fun v114 ev114 => ?_)
        have bv114 : 0 ≤ v114 ∧ v114 ≤ 300 := by rw [ev114]; exact hJ.2.1 12 v109
        refine jt_aload_n d_EX_putBody_65 rfl ?_
        refine cm_get (k := 5) (v := .ref (b + 13)) d_EX_putBody_66 EX_f31 (by decide) cc_2 rfl ?_
        refine jt_iload d_EX_putBody_69 rfl ?_
        refine cm_ld0 (k := 13) (n := 3) (v := (B 13) v109) d_EX_putBody_71 (by decide) rfl rfl (by omega) (by omega) (by omega) rfl ?_
        refine jt_topi (fun v115 ev115 => ?_)
        have bv115 : 0 ≤ v115 ∧ v115 ≤ 300 := by rw [ev115]; exact hJ.2.1 13 v109
        refine cct_callV (Y := Y_TR_addAll) (ci := 0) (k := 8) (As := [.ref (b + 39), .int (jI v114), .int (jI v115)]) (rest := []) d_EX_putBody_72 EX_c80 yk_TR_addAll yv_TR_addAll rfl (Nat.le_of_ble_eq_true rfl) (by decide) (cc_1 rfl) rfl rfl (Nat.le_of_ble_eq_true rfl) (v_TR_addAll_8_39 G _ b v114 v115 J B hJ.1 hJ.2.1 (by omega) (by omega)) (fun rvq116 Iq116 Aq116 hq116 => ?_)
        obtain ⟨rfl, hqq116, hxq116⟩ := hq116
        have hpq116 := cPo.trans hJ hqq116 rfl rfl
        have m39_3q116 : Iq116 39 3 = J 39 3 := hqq116.2.2.1 39 3 rfl
        have m5_5q116 : Iq116 5 5 = J 5 5 := hqq116.2.2.1 5 5 rfl
        show jt _ 75 [(0, .ref (b + 5)), (1, .ref (b + 39)), (2, .ref (b + 22)), (3, .int (jI q)), (4, .int (jI e)), (5, .int (jI i)), (6, .int (jI v109))] [] (cmf b f0 Iq116 Aq116) _ _ _
        refine jt_goto (t := 96) d_EX_putBody_75 rfl ?_
        refine jt_iinc (L' := [(0, .ref (b + 5)), (1, .ref (b + 39)), (2, .ref (b + 22)), (3, .int (jI q)), (4, .int (jI e)), (5, .int (jI (i + 1))), (6, .int (jI v109))]) d_EX_putBody_96 rfl (Nat.le_of_ble_eq_true rfl) rfl ?_
        refine jt_goto (t := 24) d_EX_putBody_99 rfl ?_
        refine jt_sub (L' := [(0, .ref (b + 5)), (1, .ref (b + 39)), (2, .ref (b + 22)), (3, .int (jI q)), (4, .int (jI e)), (5, .int (jI (i + 1)))]) (fun _ h => List.mem_append_left [(6, Value.int (jI v109))] h) ?_
        exact ih (i + 1) Iq116 Aq116 hpq116 (by omega) (hxq116 hKJ) (by omega)
set_option maxRecDepth 100000 in
set_option maxHeartbeats 4000000 in
theorem v_EX_putBody_22 (G : jG) (d b : Nat) (q : Int) (I : Nat → Nat → Int) (A : Nat → Int → Int) (hI : cSI I) (hA : cSA A) (hK : cTok A) (hq : 0 ≤ q ∧ q ≤ 301) (ha : I 5 5 < 300) : cct G Y_EX_putBody (d + 2) b [.ref (b + 5), .ref (b + 39), .ref (b + 22), .int (jI q)] I A (fun (rv : Option Value) (I2 : Nat → Nat → Int) (A2 : Nat → Int → Int) => rv = none ∧ cPo [131, 627] [9, 10, 11, 40, 41, 42] I A I2 A2 ∧ cTok A2) := by
  refine cct_of (by decide) (Nat.le_of_ble_eq_true rfl) (fun f0 sz => ?_)
  show jt _ 0 [(0, .ref (b + 5)), (1, .ref (b + 39)), (2, .ref (b + 22)), (3, .int (jI q))] [] _ _ _ _
  have r55 : 0 ≤ I 5 5 ∧ I 5 5 ≤ 300 := hI 5 5
  have hz0 : cPo [131, 627] [9, 10, 11, 40, 41, 42] I A I A := cPo.refl hI hA
  refine jt_aload_n d_EX_putBody_0 rfl ?_
  refine cm_get (k := 39) (v := .ref (b + 42)) d_EX_putBody_1 EX_f58 (by decide) (cc_1 rfl) rfl ?_
  refine jt_aload_n d_EX_putBody_4 rfl ?_
  refine cm_get (k := 5) (v := .int (jI (I 5 5))) d_EX_putBody_5 EX_f42 (by decide) cc_2 rfl ?_
  have rb1 : 0 ≤ I 5 5 ∧ I 5 5 ≤ 300 := hz0.1 5 5
  refine cm_ld0 (k := 42) (n := 300) (v := (A 42) (I 5 5)) d_EX_putBody_8 (by decide) rfl rfl (by omega) (by omega) (by omega) rfl ?_
  refine jt_topi (fun v2 ev2 => ?_)
  have bv2 : -2147483648 ≤ v2 ∧ v2 ≤ 2147483647 := by rw [ev2]; exact hz0.2.1 42 (I 5 5)
  refine jt_iconst d_EX_putBody_9 ?_
  refine jt_iadd d_EX_putBody_10 ?_
  refine jt_topie (fun v3 bv3 ev3 => ?_)
  refine jt_istore (L' := [(0, .ref (b + 5)), (1, .ref (b + 39)), (2, .ref (b + 22)), (3, .int (jI q)), (4, .int (jI v3))]) d_EX_putBody_11 (Nat.le_of_ble_eq_true rfl) rfl ?_
  refine jt_aload_n d_EX_putBody_13 rfl ?_
  refine cm_get (k := 5) (v := .ref (b + 8)) d_EX_putBody_14 EX_f24 (by decide) cc_2 rfl ?_
  refine jt_iconst d_EX_putBody_17 ?_
  refine cm_put (k := 8) (j := 3) (v := 0) d_EX_putBody_18 (EX_w38 _ rfl) (by decide) (cc_1 rfl) rfl rfl (Nat.le_of_ble_eq_true rfl) rfl ?_
  have p4 := cPo.I 8 3 0 hz0 rfl (show 0 ≤ 0 ∧ 0 ≤ 300 by omega)
  refine jt_iconst d_EX_putBody_21 ?_
  refine jt_istore (L' := [(0, .ref (b + 5)), (1, .ref (b + 39)), (2, .ref (b + 22)), (3, .int (jI q)), (4, .int (jI v3)), (5, .int (jI 0))]) d_EX_putBody_22 (Nat.le_of_ble_eq_true rfl) rfl ?_
  exact l24_EX_putBody_22v G d b q I A hI hA hK hq ha f0 sz v3 ((by omega)) 41 0 (cu I 8 3 0) A p4 (by omega) hK (by omega)
set_option maxRecDepth 100000 in
set_option maxHeartbeats 4000000 in
theorem l16_EX_lengthAfter_26v (G : jG) (d b : Nat) (q : Int) (I : Nat → Nat → Int) (A : Nat → Int → Int) (hI : cSI I) (hA : cSA A) (hK : cTok A) (hq : 0 ≤ q ∧ q ≤ 301) (f0 : jF) (sz : Nat)   : ∀ (n9 : Nat) (l : Int) (i : Int) (J : Nat → Nat → Int) (B : Nat → Int → Int), cPo [] [] I A J B → (0 ≤ i ∧ i ≤ 40) → (-700 - 300 * i ≤ l ∧ l ≤ 700 + 300 * i) → 40 - i < (n9 : Int) → jt (jm G Y_EX_lengthAfter (gR d) (cQ b f0 sz (fun (rv : Option Value) (I2 : Nat → Nat → Int) (A2 : Nat → Int → Int) => ∃ y : Int, rv = some (.int (jI y)) ∧ (-2147483648 ≤ y ∧ y ≤ 2147483647) ∧ cPo [] [] I A I2 A2))) 16 [(0, .ref (b + 5)), (1, .ref (b + 39)), (2, .ref (b + 26)), (3, .int (jI q)), (4, .int (jI l)), (5, .int (jI i))] [] (cmf b f0 J B) sz 0 0 := by
  intro n9
  induction n9 with
  | zero =>
    intro l i J B hJ i0 l0 hmeas
    have tk : gtok (B 27 i) (B 28 i) := (cTok_of hJ hK rfl) 26 rfl i
    unfold gtok at tk
    exfalso
    omega
  | succ n9 ih =>
    intro l i J B hJ i0 l0 hmeas
    have tk : gtok (B 27 i) (B 28 i) := (cTok_of hJ hK rfl) 26 rfl i
    unfold gtok at tk
    refine jt_iload d_EX_lengthAfter_16 rfl ?_
    refine jt_aload_n d_EX_lengthAfter_18 rfl ?_
    refine cm_get (k := 26) (v := .int (jI (J 26 3))) d_EX_lengthAfter_19 EX_f38 (by decide) (cc_1 rfl) rfl ?_
    have rb101 : 0 ≤ J 26 3 ∧ J 26 3 ≤ 40 := hJ.1 26 3
    refine jt_icmp_ge (t := 75) d_EX_lengthAfter_22 rfl (by unfold jRi; omega) (by unfold jRi; omega) (fun c102 => ?_) (fun c102 => ?_)
    · skip
      refine jt_iload d_EX_lengthAfter_75 rfl ?_
      exact cm_ret d_EX_lengthAfter_77 rfl rfl (⟨l, rfl, by omega, hJ⟩)
    · skip
      refine jt_aload_n d_EX_lengthAfter_25 rfl ?_
      refine cm_get (k := 26) (v := .ref (b + 28)) d_EX_lengthAfter_26 EX_f55 (by decide) (cc_1 rfl) rfl ?_
      refine jt_iload d_EX_lengthAfter_29 rfl ?_
      refine cm_ld0 (k := 28) (n := 40) (v := (B 28) i) d_EX_lengthAfter_31 (by decide) rfl rfl (by omega) (by omega) (by omega) rfl ?_
      refine jt_topi (fun v103 ev103 => ?_)
      have bv103 : -2147483648 ≤ v103 ∧ v103 ≤ 2147483647 := by rw [ev103]; exact hJ.2.1 28 i
      refine jt_istore (L' := [(0, .ref (b + 5)), (1, .ref (b + 39)), (2, .ref (b + 26)), (3, .int (jI q)), (4, .int (jI l)), (5, .int (jI i)), (6, .int (jI v103))]) d_EX_lengthAfter_32 (Nat.le_of_ble_eq_true rfl) rfl ?_
      refine jt_iload d_EX_lengthAfter_34 rfl ?_
      refine jt_aload_n d_EX_lengthAfter_36 rfl ?_
      refine cm_get (k := 26) (v := .ref (b + 27)) d_EX_lengthAfter_37 EX_f48 (by decide) (cc_1 rfl) rfl ?_
      refine jt_iload d_EX_lengthAfter_40 rfl ?_
      refine cm_ld0 (k := 27) (n := 40) (v := (B 27) i) d_EX_lengthAfter_42 (by decide) rfl rfl (by omega) (by omega) (by omega) rfl ?_
      refine jt_topi (fun v104 ev104 => ?_)
      have bv104 : -2147483648 ≤ v104 ∧ v104 ≤ 2147483647 := by rw [ev104]; exact hJ.2.1 27 i
      refine jt_iconst d_EX_lengthAfter_43 ?_
      refine jt_icmp_ne (t := 65) d_EX_lengthAfter_44 rfl (by unfold jRi; omega) (by unfold jRi; omega) (fun c105 => ?_) (fun c105 => ?_)
      · skip
        refine jt_iconst d_EX_lengthAfter_65 ?_
        refine jt_iadd d_EX_lengthAfter_66 ?_
        refine jt_topi (fun v106 ev106 => ?_)
        refine jt_istore (L' := [(0, .ref (b + 5)), (1, .ref (b + 39)), (2, .ref (b + 26)), (3, .int (jI q)), (4, .int (jI v106)), (5, .int (jI i)), (6, .int (jI v103))]) d_EX_lengthAfter_67 (Nat.le_of_ble_eq_true rfl) rfl ?_
        refine jt_iinc (L' := [(0, .ref (b + 5)), (1, .ref (b + 39)), (2, .ref (b + 26)), (3, .int (jI q)), (4, .int (jI v106)), (5, .int (jI (i + 1))), (6, .int (jI v103))]) d_EX_lengthAfter_69 rfl (Nat.le_of_ble_eq_true rfl) rfl ?_
        refine jt_goto (t := 16) d_EX_lengthAfter_72 rfl ?_
        refine jt_sub (L' := [(0, .ref (b + 5)), (1, .ref (b + 39)), (2, .ref (b + 26)), (3, .int (jI q)), (4, .int (jI v106)), (5, .int (jI (i + 1)))]) (fun _ h => List.mem_append_left [(6, Value.int (jI v103))] h) ?_
        exact ih v106 (i + 1) J B hJ (by omega) (by omega) (by omega)
      · skip
        refine jt_aload_n d_EX_lengthAfter_47 rfl ?_
        refine cm_get (k := 5) (v := .ref (b + 13)) d_EX_lengthAfter_48 EX_f31 (by decide) cc_2 rfl ?_
        refine jt_iload d_EX_lengthAfter_51 rfl ?_
        refine cm_ld0 (k := 13) (n := 3) (v := (B 13) v103) d_EX_lengthAfter_53 (by decide) rfl rfl (by omega) (by omega) (by omega) rfl ?_
        refine jt_topi (fun v107 ev107 => ?_)
        have bv107 : 0 ≤ v107 ∧ v107 ≤ 300 := by rw [ev107]; exact hJ.2.1 13 v103
        refine jt_aload_n d_EX_lengthAfter_54 rfl ?_
        refine cm_get (k := 5) (v := .ref (b + 12)) d_EX_lengthAfter_55 EX_f28 (by decide) cc_2 rfl ?_
        refine jt_iload d_EX_lengthAfter_58 rfl ?_
        refine cm_ld0 (k := 12) (n := 3) (v := (B 12) v103) d_EX_lengthAfter_60 (by decide) rfl rfl (by omega) (by omega) (by omega) rfl ?_
        refine jt_topi (fun v108 ev108 => ?_)
        have bv108 : 0 ≤ v108 ∧ v108 ≤ 300 := by rw [ev108]; exact hJ.2.1 12 v103
        refine jt_isub d_EX_lengthAfter_61 ?_
        refine jt_goto (t := 66) d_EX_lengthAfter_62 rfl ?_
        refine jt_iadd d_EX_lengthAfter_66 ?_
        refine jt_topi (fun v109 ev109 => ?_)
        refine jt_istore (L' := [(0, .ref (b + 5)), (1, .ref (b + 39)), (2, .ref (b + 26)), (3, .int (jI q)), (4, .int (jI v109)), (5, .int (jI i)), (6, .int (jI v103))]) d_EX_lengthAfter_67 (Nat.le_of_ble_eq_true rfl) rfl ?_
        refine jt_iinc (L' := [(0, .ref (b + 5)), (1, .ref (b + 39)), (2, .ref (b + 26)), (3, .int (jI q)), (4, .int (jI v109)), (5, .int (jI (i + 1))), (6, .int (jI v103))]) d_EX_lengthAfter_69 rfl (Nat.le_of_ble_eq_true rfl) rfl ?_
        refine jt_goto (t := 16) d_EX_lengthAfter_72 rfl ?_
        refine jt_sub (L' := [(0, .ref (b + 5)), (1, .ref (b + 39)), (2, .ref (b + 26)), (3, .int (jI q)), (4, .int (jI v109)), (5, .int (jI (i + 1)))]) (fun _ h => List.mem_append_left [(6, Value.int (jI v103))] h) ?_
        exact ih v109 (i + 1) J B hJ (by omega) (by omega) (by omega)
set_option maxRecDepth 100000 in
set_option maxHeartbeats 4000000 in
theorem v_EX_lengthAfter_26 (G : jG) (d b : Nat) (q : Int) (I : Nat → Nat → Int) (A : Nat → Int → Int) (hI : cSI I) (hA : cSA A) (hK : cTok A) (hq : 0 ≤ q ∧ q ≤ 301) : cct G Y_EX_lengthAfter d b [.ref (b + 5), .ref (b + 39), .ref (b + 26), .int (jI q)] I A (fun (rv : Option Value) (I2 : Nat → Nat → Int) (A2 : Nat → Int → Int) => ∃ y : Int, rv = some (.int (jI y)) ∧ (-2147483648 ≤ y ∧ y ≤ 2147483647) ∧ cPo [] [] I A I2 A2) := by
  refine cct_of (by decide) (Nat.le_of_ble_eq_true rfl) (fun f0 sz => ?_)
  show jt _ 0 [(0, .ref (b + 5)), (1, .ref (b + 39)), (2, .ref (b + 26)), (3, .int (jI q))] [] _ _ _ _
  have hz0 : cPo [] [] I A I A := cPo.refl hI hA
  refine jt_aload_n d_EX_lengthAfter_0 rfl ?_
  refine cm_get (k := 5) (v := .int (jI (I 5 5))) d_EX_lengthAfter_1 EX_f42 (by decide) cc_2 rfl ?_
  have rb1 : 0 ≤ I 5 5 ∧ I 5 5 ≤ 300 := hz0.1 5 5
  refine jt_aload_n d_EX_lengthAfter_4 rfl ?_
  refine cm_get (k := 39) (v := .int (jI (I 39 3))) d_EX_lengthAfter_5 EX_f38 (by decide) (cc_1 rfl) rfl ?_
  have rb2 : 0 ≤ I 39 3 ∧ I 39 3 ≤ 300 := hz0.1 39 3
  refine jt_iadd d_EX_lengthAfter_8 ?_
  refine jt_iload_n d_EX_lengthAfter_9 rfl ?_
  refine jt_isub d_EX_lengthAfter_10 ?_
  refine jt_topi (fun v3 ev3 => ?_)
  refine jt_istore (L' := [(0, .ref (b + 5)), (1, .ref (b + 39)), (2, .ref (b + 26)), (3, .int (jI q)), (4, .int (jI v3))]) d_EX_lengthAfter_11 (Nat.le_of_ble_eq_true rfl) rfl ?_
  refine jt_iconst d_EX_lengthAfter_13 ?_
  refine jt_istore (L' := [(0, .ref (b + 5)), (1, .ref (b + 39)), (2, .ref (b + 26)), (3, .int (jI q)), (4, .int (jI v3)), (5, .int (jI 0))]) d_EX_lengthAfter_14 (Nat.le_of_ble_eq_true rfl) rfl ?_
  exact l16_EX_lengthAfter_26v G d b q I A hI hA hK hq f0 sz  41 v3 0 I A hz0 (by omega) (by omega) (by omega)
set_option maxRecDepth 100000 in
set_option maxHeartbeats 4000000 in
theorem l24_EX_putBody_26v (G : jG) (d b : Nat) (q : Int) (I : Nat → Nat → Int) (A : Nat → Int → Int) (hI : cSI I) (hA : cSA A) (hK : cTok A) (hq : 0 ≤ q ∧ q ≤ 301) (ha : I 5 5 < 300) (f0 : jF) (sz : Nat)  (e : Int) (e0 : -2147483648 ≤ e ∧ e ≤ 2147483647) : ∀ (n9 : Nat) (i : Int) (J : Nat → Nat → Int) (B : Nat → Int → Int), cPo [131, 627] [9, 10, 11, 40, 41, 42] I A J B → (0 ≤ i ∧ i ≤ 40) → (cTok B) → 40 - i < (n9 : Int) → jt (jm G Y_EX_putBody (gR (d + 2)) (cQ b f0 sz (fun (rv : Option Value) (I2 : Nat → Nat → Int) (A2 : Nat → Int → Int) => rv = none ∧ cPo [131, 627] [9, 10, 11, 40, 41, 42] I A I2 A2 ∧ cTok A2))) 24 [(0, .ref (b + 5)), (1, .ref (b + 39)), (2, .ref (b + 26)), (3, .int (jI q)), (4, .int (jI e)), (5, .int (jI i))] [] (cmf b f0 J B) sz 0 0 := by
  have r55 : 0 ≤ I 5 5 ∧ I 5 5 ≤ 300 := hI 5 5
  intro n9
  induction n9 with
  | zero =>
    intro i J B hJ i0 hKJ hmeas
    have tk : gtok (B 27 i) (B 28 i) := hKJ 26 rfl i
    have tk2 := tk
    unfold gtok at tk
    have f55 : J 5 5 = I 5 5 := hJ.2.2.1 5 5 rfl
    exfalso
    omega
  | succ n9 ih =>
    intro i J B hJ i0 hKJ hmeas
    have tk : gtok (B 27 i) (B 28 i) := hKJ 26 rfl i
    have tk2 := tk
    unfold gtok at tk
    have f55 : J 5 5 = I 5 5 := hJ.2.2.1 5 5 rfl
    refine jt_iload d_EX_putBody_24 rfl ?_
    refine jt_aload_n d_EX_putBody_26 rfl ?_
    refine cm_get (k := 26) (v := .int (jI (J 26 3))) d_EX_putBody_27 EX_f38 (by decide) (cc_1 rfl) rfl ?_
    have rb101 : 0 ≤ J 26 3 ∧ J 26 3 ≤ 40 := hJ.1 26 3
    refine jt_icmp_ge (t := 102) d_EX_putBody_30 rfl (by unfold jRi; omega) (by unfold jRi; omega) (fun c102 => ?_) (fun c102 => ?_)
    · skip
      refine jt_aload_n d_EX_putBody_102 rfl ?_
      refine cm_get (k := 5) (v := .ref (b + 8)) d_EX_putBody_103 EX_f24 (by decide) cc_2 rfl ?_
      refine jt_aload_n d_EX_putBody_106 rfl ?_
      refine jt_iload_n d_EX_putBody_107 rfl ?_
      refine jt_aload_n d_EX_putBody_108 rfl ?_
      refine cm_get (k := 39) (v := .int (jI (J 39 3))) d_EX_putBody_109 EX_f38 (by decide) (cc_1 rfl) rfl ?_
      have rb103 : 0 ≤ J 39 3 ∧ J 39 3 ≤ 300 := hJ.1 39 3
      refine cct_callV (Y := Y_TR_addAll) (ci := 0) (k := 8) (As := [.ref (b + 39), .int (jI q), .int (jI (J 39 3))]) (rest := []) d_EX_putBody_112 EX_c80 yk_TR_addAll yv_TR_addAll rfl (Nat.le_of_ble_eq_true rfl) (by decide) (cc_1 rfl) rfl rfl (Nat.le_of_ble_eq_true rfl) (v_TR_addAll_8_39 G _ b q (J 39 3) J B hJ.1 hJ.2.1 (by omega) (by omega)) (fun rvq104 Iq104 Aq104 hq104 => ?_)
      obtain ⟨rfl, hqq104, hxq104⟩ := hq104
      have hpq104 := cPo.trans hJ hqq104 rfl rfl
      have m39_3q104 : Iq104 39 3 = J 39 3 := hqq104.2.2.1 39 3 rfl
      have m5_5q104 : Iq104 5 5 = J 5 5 := hqq104.2.2.1 5 5 rfl
      show jt _ 115 [(0, .ref (b + 5)), (1, .ref (b + 39)), (2, .ref (b + 26)), (3, .int (jI q)), (4, .int (jI e)), (5, .int (jI i))] [] (cmf b f0 Iq104 Aq104) _ _ _
      refine jt_aload_n d_EX_putBody_115 rfl ?_
      refine jt_aload_n d_EX_putBody_116 rfl ?_
      refine cm_get (k := 5) (v := .int (jI (Iq104 5 5))) d_EX_putBody_117 EX_f42 (by decide) cc_2 rfl ?_
      have rb105 : 0 ≤ Iq104 5 5 ∧ Iq104 5 5 ≤ 300 := hpq104.1 5 5
      refine cm_put (k := 39) (j := 3) (v := (Iq104 5 5)) d_EX_putBody_120 (EX_w38 _ rfl) (by decide) (cc_1 rfl) rfl rfl (Nat.le_of_ble_eq_true rfl) rfl ?_
      have p106 := cPo.I 39 3 (Iq104 5 5) hpq104 rfl (show 0 ≤ Iq104 5 5 ∧ Iq104 5 5 ≤ 300 by omega)
      refine jt_aload_n d_EX_putBody_123 rfl ?_
      refine jt_aload_n d_EX_putBody_124 rfl ?_
      refine cm_get (k := 5) (v := .ref (b + 8)) d_EX_putBody_125 EX_f24 (by decide) cc_2 rfl ?_
      refine jt_iconst d_EX_putBody_128 ?_
      refine jt_aload_n d_EX_putBody_129 rfl ?_
      refine cm_get (k := 5) (v := .ref (b + 8)) d_EX_putBody_130 EX_f24 (by decide) cc_2 rfl ?_
      refine cm_get (k := 8) (v := .int (jI (Iq104 8 3))) d_EX_putBody_133 EX_f38 (by decide) (cc_1 rfl) rfl ?_
      have rb107 : 0 ≤ Iq104 8 3 ∧ Iq104 8 3 ≤ 300 := p106.1 8 3
      refine cct_callV (Y := Y_TR_addAll) (ci := 0) (k := 39) (As := [.ref (b + 8), .int (jI 0), .int (jI (Iq104 8 3))]) (rest := []) d_EX_putBody_136 EX_c80 yk_TR_addAll yv_TR_addAll rfl (Nat.le_of_ble_eq_true rfl) (by decide) (cc_1 rfl) rfl rfl (Nat.le_of_ble_eq_true rfl) (v_TR_addAll_39_8 G _ b 0 (Iq104 8 3) (cu Iq104 39 3 (Iq104 5 5)) Aq104 p106.1 p106.2.1 (by omega) (by omega)) (fun rvq108 Iq108 Aq108 hq108 => ?_)
      obtain ⟨rfl, hqq108, hxq108⟩ := hq108
      have hpq108 := cPo.trans p106 hqq108 rfl rfl
      have s39_3q108 : (cu Iq104 39 3 (Iq104 5 5)) 39 3 = Iq104 5 5 := rfl
      have s5_5q108 : (cu Iq104 39 3 (Iq104 5 5)) 5 5 = Iq104 5 5 := rfl
      have s8_3q108 : (cu Iq104 39 3 (Iq104 5 5)) 8 3 = Iq104 8 3 := rfl
      have m5_5q108 : Iq108 5 5 = Iq104 5 5 := hqq108.2.2.1 5 5 rfl
      have m8_3q108 : Iq108 8 3 = Iq104 8 3 := hqq108.2.2.1 8 3 rfl
      show jt _ 139 [(0, .ref (b + 5)), (1, .ref (b + 39)), (2, .ref (b + 26)), (3, .int (jI q)), (4, .int (jI e)), (5, .int (jI i))] [] (cmf b f0 Iq108 Aq108) _ _ _
      exact cm_vret d_EX_putBody_139 rfl (⟨rfl, hpq108, (hxq108 (hxq104 hKJ))⟩)
    · skip
      refine jt_aload_n d_EX_putBody_33 rfl ?_
      refine cm_get (k := 26) (v := .ref (b + 28)) d_EX_putBody_34 EX_f55 (by decide) (cc_1 rfl) rfl ?_
      refine jt_iload d_EX_putBody_37 rfl ?_
      refine cm_ld0 (k := 28) (n := 40) (v := (B 28) i) d_EX_putBody_39 (by decide) rfl rfl (by omega) (by omega) (by omega) rfl ?_
      refine jt_topi (fun v109 ev109 => ?_)
      have bv109 : -2147483648 ≤ v109 ∧ v109 ≤ 2147483647 := by rw [ev109]; exact hJ.2.1 28 i
      refine jt_istore (L' := [(0, .ref (b + 5)), (1, .ref (b + 39)), (2, .ref (b + 26)), (3, .int (jI q)), (4, .int (jI e)), (5, .int (jI i)), (6, .int (jI v109))]) d_EX_putBody_40 (Nat.le_of_ble_eq_true rfl) rfl ?_
      refine jt_aload_n d_EX_putBody_42 rfl ?_
      refine cm_get (k := 26) (v := .ref (b + 27)) d_EX_putBody_43 EX_f48 (by decide) (cc_1 rfl) rfl ?_
      refine jt_iload d_EX_putBody_46 rfl ?_
      refine cm_ld0 (k := 27) (n := 40) (v := (B 27) i) d_EX_putBody_48 (by decide) rfl rfl (by omega) (by omega) (by omega) rfl ?_
      refine jt_topi (fun v110 ev110 => ?_)
      have bv110 : -2147483648 ≤ v110 ∧ v110 ≤ 2147483647 := by rw [ev110]; exact hJ.2.1 27 i
      refine jt_iconst d_EX_putBody_49 ?_
      refine jt_icmp_ne (t := 78) d_EX_putBody_50 rfl (by unfold jRi; omega) (by unfold jRi; omega) (fun c111 => ?_) (fun c111 => ?_)
      · skip
        refine jt_aload_n d_EX_putBody_78 rfl ?_
        refine cm_get (k := 5) (v := .ref (b + 8)) d_EX_putBody_79 EX_f24 (by decide) cc_2 rfl ?_
        refine jt_aload_n d_EX_putBody_82 rfl ?_
        refine cm_get (k := 26) (v := .ref (b + 27)) d_EX_putBody_83 EX_f48 (by decide) (cc_1 rfl) rfl ?_
        refine jt_iload d_EX_putBody_86 rfl ?_
        refine cm_ld0 (k := 27) (n := 40) (v := (B 27) i) d_EX_putBody_88 (by decide) rfl rfl (by omega) (by omega) (by omega) rfl ?_
        refine jt_topi (fun v112 ev112 => ?_)
        have bv112 : -2147483648 ≤ v112 ∧ v112 ≤ 2147483647 := by rw [ev112]; exact hJ.2.1 27 i
        refine jt_iload d_EX_putBody_89 rfl ?_
        refine jt_iload d_EX_putBody_91 rfl ?_
        refine cct_callV (Y := Y_TR_add) (ci := 0) (k := 8) (As := [.int (jI v112), .int (jI v109), .int (jI e)]) (rest := []) d_EX_putBody_93 EX_c84 yk_TR_add yv_TR_add rfl (Nat.le_of_ble_eq_true rfl) (by decide) (cc_1 rfl) rfl rfl (Nat.le_of_ble_eq_true rfl) (v_TR_add_8 G _ b v112 v109 e J B hJ.1 hJ.2.1 (by omega) (by omega) (by omega)) (fun rvq113 Iq113 Aq113 hq113 => ?_)
        obtain ⟨rfl, hqq113, hxq113⟩ := hq113
        have hpq113 := cPo.trans hJ hqq113 rfl rfl
        have m39_3q113 : Iq113 39 3 = J 39 3 := hqq113.2.2.1 39 3 rfl
        have m5_5q113 : Iq113 5 5 = J 5 5 := hqq113.2.2.1 5 5 rfl
        show jt _ 96 [(0, .ref (b + 5)), (1, .ref (b + 39)), (2, .ref (b + 26)), (3, .int (jI q)), (4, .int (jI e)), (5, .int (jI i)), (6, .int (jI v109))] [] (cmf b f0 Iq113 Aq113) _ _ _
        refine jt_iinc (L' := [(0, .ref (b + 5)), (1, .ref (b + 39)), (2, .ref (b + 26)), (3, .int (jI q)), (4, .int (jI e)), (5, .int (jI (i + 1))), (6, .int (jI v109))]) d_EX_putBody_96 rfl (Nat.le_of_ble_eq_true rfl) rfl ?_
        refine jt_goto (t := 24) d_EX_putBody_99 rfl ?_
        refine jt_sub (L' := [(0, .ref (b + 5)), (1, .ref (b + 39)), (2, .ref (b + 26)), (3, .int (jI q)), (4, .int (jI e)), (5, .int (jI (i + 1)))]) (fun _ h => List.mem_append_left [(6, Value.int (jI v109))] h) ?_
        exact ih (i + 1) Iq113 Aq113 hpq113 (by omega) (hxq113.1 hKJ (by rw [ev112, ev109]; exact tk2)) (by omega)
      · skip
        refine jt_aload_n d_EX_putBody_53 rfl ?_
        refine cm_get (k := 5) (v := .ref (b + 8)) d_EX_putBody_54 EX_f24 (by decide) cc_2 rfl ?_
        refine jt_aload_n d_EX_putBody_57 rfl ?_
        refine jt_aload_n d_EX_putBody_58 rfl ?_
        refine cm_get (k := 5) (v := .ref (b + 12)) d_EX_putBody_59 EX_f28 (by decide) cc_2 rfl ?_
        refine jt_iload d_EX_putBody_62 rfl ?_
        refine cm_ld0 (k := 12) (n := 3) (v := (B 12) v109) d_EX_putBody_64 (by decide) rfl rfl (by omega) (by omega) (by omega) rfl ?_
        refine jt_topi (fun v114 ev114 => ?_)
        have bv114 : 0 ≤ v114 ∧ v114 ≤ 300 := by rw [ev114]; exact hJ.2.1 12 v109
        refine jt_aload_n d_EX_putBody_65 rfl ?_
        refine cm_get (k := 5) (v := .ref (b + 13)) d_EX_putBody_66 EX_f31 (by decide) cc_2 rfl ?_
        refine jt_iload d_EX_putBody_69 rfl ?_
        refine cm_ld0 (k := 13) (n := 3) (v := (B 13) v109) d_EX_putBody_71 (by decide) rfl rfl (by omega) (by omega) (by omega) rfl ?_
        refine jt_topi (fun v115 ev115 => ?_)
        have bv115 : 0 ≤ v115 ∧ v115 ≤ 300 := by rw [ev115]; exact hJ.2.1 13 v109
        refine cct_callV (Y := Y_TR_addAll) (ci := 0) (k := 8) (As := [.ref (b + 39), .int (jI v114), .int (jI v115)]) (rest := []) d_EX_putBody_72 EX_c80 yk_TR_addAll yv_TR_addAll rfl (Nat.le_of_ble_eq_true rfl) (by decide) (cc_1 rfl) rfl rfl (Nat.le_of_ble_eq_true rfl) (v_TR_addAll_8_39 G _ b v114 v115 J B hJ.1 hJ.2.1 (by omega) (by omega)) (fun rvq116 Iq116 Aq116 hq116 => ?_)
        obtain ⟨rfl, hqq116, hxq116⟩ := hq116
        have hpq116 := cPo.trans hJ hqq116 rfl rfl
        have m39_3q116 : Iq116 39 3 = J 39 3 := hqq116.2.2.1 39 3 rfl
        have m5_5q116 : Iq116 5 5 = J 5 5 := hqq116.2.2.1 5 5 rfl
        show jt _ 75 [(0, .ref (b + 5)), (1, .ref (b + 39)), (2, .ref (b + 26)), (3, .int (jI q)), (4, .int (jI e)), (5, .int (jI i)), (6, .int (jI v109))] [] (cmf b f0 Iq116 Aq116) _ _ _
        refine jt_goto (t := 96) d_EX_putBody_75 rfl ?_
        refine jt_iinc (L' := [(0, .ref (b + 5)), (1, .ref (b + 39)), (2, .ref (b + 26)), (3, .int (jI q)), (4, .int (jI e)), (5, .int (jI (i + 1))), (6, .int (jI v109))]) d_EX_putBody_96 rfl (Nat.le_of_ble_eq_true rfl) rfl ?_
        refine jt_goto (t := 24) d_EX_putBody_99 rfl ?_
        refine jt_sub (L' := [(0, .ref (b + 5)), (1, .ref (b + 39)), (2, .ref (b + 26)), (3, .int (jI q)), (4, .int (jI e)), (5, .int (jI (i + 1)))]) (fun _ h => List.mem_append_left [(6, Value.int (jI v109))] h) ?_
        exact ih (i + 1) Iq116 Aq116 hpq116 (by omega) (hxq116 hKJ) (by omega)
set_option maxRecDepth 100000 in
set_option maxHeartbeats 4000000 in
theorem v_EX_putBody_26 (G : jG) (d b : Nat) (q : Int) (I : Nat → Nat → Int) (A : Nat → Int → Int) (hI : cSI I) (hA : cSA A) (hK : cTok A) (hq : 0 ≤ q ∧ q ≤ 301) (ha : I 5 5 < 300) : cct G Y_EX_putBody (d + 2) b [.ref (b + 5), .ref (b + 39), .ref (b + 26), .int (jI q)] I A (fun (rv : Option Value) (I2 : Nat → Nat → Int) (A2 : Nat → Int → Int) => rv = none ∧ cPo [131, 627] [9, 10, 11, 40, 41, 42] I A I2 A2 ∧ cTok A2) := by
  refine cct_of (by decide) (Nat.le_of_ble_eq_true rfl) (fun f0 sz => ?_)
  show jt _ 0 [(0, .ref (b + 5)), (1, .ref (b + 39)), (2, .ref (b + 26)), (3, .int (jI q))] [] _ _ _ _
  have r55 : 0 ≤ I 5 5 ∧ I 5 5 ≤ 300 := hI 5 5
  have hz0 : cPo [131, 627] [9, 10, 11, 40, 41, 42] I A I A := cPo.refl hI hA
  refine jt_aload_n d_EX_putBody_0 rfl ?_
  refine cm_get (k := 39) (v := .ref (b + 42)) d_EX_putBody_1 EX_f58 (by decide) (cc_1 rfl) rfl ?_
  refine jt_aload_n d_EX_putBody_4 rfl ?_
  refine cm_get (k := 5) (v := .int (jI (I 5 5))) d_EX_putBody_5 EX_f42 (by decide) cc_2 rfl ?_
  have rb1 : 0 ≤ I 5 5 ∧ I 5 5 ≤ 300 := hz0.1 5 5
  refine cm_ld0 (k := 42) (n := 300) (v := (A 42) (I 5 5)) d_EX_putBody_8 (by decide) rfl rfl (by omega) (by omega) (by omega) rfl ?_
  refine jt_topi (fun v2 ev2 => ?_)
  have bv2 : -2147483648 ≤ v2 ∧ v2 ≤ 2147483647 := by rw [ev2]; exact hz0.2.1 42 (I 5 5)
  refine jt_iconst d_EX_putBody_9 ?_
  refine jt_iadd d_EX_putBody_10 ?_
  refine jt_topie (fun v3 bv3 ev3 => ?_)
  refine jt_istore (L' := [(0, .ref (b + 5)), (1, .ref (b + 39)), (2, .ref (b + 26)), (3, .int (jI q)), (4, .int (jI v3))]) d_EX_putBody_11 (Nat.le_of_ble_eq_true rfl) rfl ?_
  refine jt_aload_n d_EX_putBody_13 rfl ?_
  refine cm_get (k := 5) (v := .ref (b + 8)) d_EX_putBody_14 EX_f24 (by decide) cc_2 rfl ?_
  refine jt_iconst d_EX_putBody_17 ?_
  refine cm_put (k := 8) (j := 3) (v := 0) d_EX_putBody_18 (EX_w38 _ rfl) (by decide) (cc_1 rfl) rfl rfl (Nat.le_of_ble_eq_true rfl) rfl ?_
  have p4 := cPo.I 8 3 0 hz0 rfl (show 0 ≤ 0 ∧ 0 ≤ 300 by omega)
  refine jt_iconst d_EX_putBody_21 ?_
  refine jt_istore (L' := [(0, .ref (b + 5)), (1, .ref (b + 39)), (2, .ref (b + 26)), (3, .int (jI q)), (4, .int (jI v3)), (5, .int (jI 0))]) d_EX_putBody_22 (Nat.le_of_ble_eq_true rfl) rfl ?_
  exact l24_EX_putBody_26v G d b q I A hI hA hK hq ha f0 sz v3 ((by omega)) 41 0 (cu I 8 3 0) A p4 (by omega) hK (by omega)
set_option maxRecDepth 100000 in
set_option maxHeartbeats 4000000 in
theorem l16_EX_lengthAfter_30v (G : jG) (d b : Nat) (q : Int) (I : Nat → Nat → Int) (A : Nat → Int → Int) (hI : cSI I) (hA : cSA A) (hK : cTok A) (hq : 0 ≤ q ∧ q ≤ 301) (f0 : jF) (sz : Nat)   : ∀ (n9 : Nat) (l : Int) (i : Int) (J : Nat → Nat → Int) (B : Nat → Int → Int), cPo [] [] I A J B → (0 ≤ i ∧ i ≤ 40) → (-700 - 300 * i ≤ l ∧ l ≤ 700 + 300 * i) → 40 - i < (n9 : Int) → jt (jm G Y_EX_lengthAfter (gR d) (cQ b f0 sz (fun (rv : Option Value) (I2 : Nat → Nat → Int) (A2 : Nat → Int → Int) => ∃ y : Int, rv = some (.int (jI y)) ∧ (-2147483648 ≤ y ∧ y ≤ 2147483647) ∧ cPo [] [] I A I2 A2))) 16 [(0, .ref (b + 5)), (1, .ref (b + 39)), (2, .ref (b + 30)), (3, .int (jI q)), (4, .int (jI l)), (5, .int (jI i))] [] (cmf b f0 J B) sz 0 0 := by
  intro n9
  induction n9 with
  | zero =>
    intro l i J B hJ i0 l0 hmeas
    have tk : gtok (B 31 i) (B 32 i) := (cTok_of hJ hK rfl) 30 rfl i
    unfold gtok at tk
    exfalso
    omega
  | succ n9 ih =>
    intro l i J B hJ i0 l0 hmeas
    have tk : gtok (B 31 i) (B 32 i) := (cTok_of hJ hK rfl) 30 rfl i
    unfold gtok at tk
    refine jt_iload d_EX_lengthAfter_16 rfl ?_
    refine jt_aload_n d_EX_lengthAfter_18 rfl ?_
    refine cm_get (k := 30) (v := .int (jI (J 30 3))) d_EX_lengthAfter_19 EX_f38 (by decide) (cc_1 rfl) rfl ?_
    have rb101 : 0 ≤ J 30 3 ∧ J 30 3 ≤ 40 := hJ.1 30 3
    refine jt_icmp_ge (t := 75) d_EX_lengthAfter_22 rfl (by unfold jRi; omega) (by unfold jRi; omega) (fun c102 => ?_) (fun c102 => ?_)
    · skip
      refine jt_iload d_EX_lengthAfter_75 rfl ?_
      exact cm_ret d_EX_lengthAfter_77 rfl rfl (⟨l, rfl, by omega, hJ⟩)
    · skip
      refine jt_aload_n d_EX_lengthAfter_25 rfl ?_
      refine cm_get (k := 30) (v := .ref (b + 32)) d_EX_lengthAfter_26 EX_f55 (by decide) (cc_1 rfl) rfl ?_
      refine jt_iload d_EX_lengthAfter_29 rfl ?_
      refine cm_ld0 (k := 32) (n := 40) (v := (B 32) i) d_EX_lengthAfter_31 (by decide) rfl rfl (by omega) (by omega) (by omega) rfl ?_
      refine jt_topi (fun v103 ev103 => ?_)
      have bv103 : -2147483648 ≤ v103 ∧ v103 ≤ 2147483647 := by rw [ev103]; exact hJ.2.1 32 i
      refine jt_istore (L' := [(0, .ref (b + 5)), (1, .ref (b + 39)), (2, .ref (b + 30)), (3, .int (jI q)), (4, .int (jI l)), (5, .int (jI i)), (6, .int (jI v103))]) d_EX_lengthAfter_32 (Nat.le_of_ble_eq_true rfl) rfl ?_
      refine jt_iload d_EX_lengthAfter_34 rfl ?_
      refine jt_aload_n d_EX_lengthAfter_36 rfl ?_
      refine cm_get (k := 30) (v := .ref (b + 31)) d_EX_lengthAfter_37 EX_f48 (by decide) (cc_1 rfl) rfl ?_
      refine jt_iload d_EX_lengthAfter_40 rfl ?_
      refine cm_ld0 (k := 31) (n := 40) (v := (B 31) i) d_EX_lengthAfter_42 (by decide) rfl rfl (by omega) (by omega) (by omega) rfl ?_
      refine jt_topi (fun v104 ev104 => ?_)
      have bv104 : -2147483648 ≤ v104 ∧ v104 ≤ 2147483647 := by rw [ev104]; exact hJ.2.1 31 i
      refine jt_iconst d_EX_lengthAfter_43 ?_
      refine jt_icmp_ne (t := 65) d_EX_lengthAfter_44 rfl (by unfold jRi; omega) (by unfold jRi; omega) (fun c105 => ?_) (fun c105 => ?_)
      · skip
        refine jt_iconst d_EX_lengthAfter_65 ?_
        refine jt_iadd d_EX_lengthAfter_66 ?_
        refine jt_topi (fun v106 ev106 => ?_)
        refine jt_istore (L' := [(0, .ref (b + 5)), (1, .ref (b + 39)), (2, .ref (b + 30)), (3, .int (jI q)), (4, .int (jI v106)), (5, .int (jI i)), (6, .int (jI v103))]) d_EX_lengthAfter_67 (Nat.le_of_ble_eq_true rfl) rfl ?_
        refine jt_iinc (L' := [(0, .ref (b + 5)), (1, .ref (b + 39)), (2, .ref (b + 30)), (3, .int (jI q)), (4, .int (jI v106)), (5, .int (jI (i + 1))), (6, .int (jI v103))]) d_EX_lengthAfter_69 rfl (Nat.le_of_ble_eq_true rfl) rfl ?_
        refine jt_goto (t := 16) d_EX_lengthAfter_72 rfl ?_
        refine jt_sub (L' := [(0, .ref (b + 5)), (1, .ref (b + 39)), (2, .ref (b + 30)), (3, .int (jI q)), (4, .int (jI v106)), (5, .int (jI (i + 1)))]) (fun _ h => List.mem_append_left [(6, Value.int (jI v103))] h) ?_
        exact ih v106 (i + 1) J B hJ (by omega) (by omega) (by omega)
      · skip
        refine jt_aload_n d_EX_lengthAfter_47 rfl ?_
        refine cm_get (k := 5) (v := .ref (b + 13)) d_EX_lengthAfter_48 EX_f31 (by decide) cc_2 rfl ?_
        refine jt_iload d_EX_lengthAfter_51 rfl ?_
        refine cm_ld0 (k := 13) (n := 3) (v := (B 13) v103) d_EX_lengthAfter_53 (by decide) rfl rfl (by omega) (by omega) (by omega) rfl ?_
        refine jt_topi (fun v107 ev107 => ?_)
        have bv107 : 0 ≤ v107 ∧ v107 ≤ 300 := by rw [ev107]; exact hJ.2.1 13 v103
        refine jt_aload_n d_EX_lengthAfter_54 rfl ?_
        refine cm_get (k := 5) (v := .ref (b + 12)) d_EX_lengthAfter_55 EX_f28 (by decide) cc_2 rfl ?_
        refine jt_iload d_EX_lengthAfter_58 rfl ?_
        refine cm_ld0 (k := 12) (n := 3) (v := (B 12) v103) d_EX_lengthAfter_60 (by decide) rfl rfl (by omega) (by omega) (by omega) rfl ?_
        refine jt_topi (fun v108 ev108 => ?_)
        have bv108 : 0 ≤ v108 ∧ v108 ≤ 300 := by rw [ev108]; exact hJ.2.1 12 v103
        refine jt_isub d_EX_lengthAfter_61 ?_
        refine jt_goto (t := 66) d_EX_lengthAfter_62 rfl ?_
        refine jt_iadd d_EX_lengthAfter_66 ?_
        refine jt_topi (fun v109 ev109 => ?_)
        refine jt_istore (L' := [(0, .ref (b + 5)), (1, .ref (b + 39)), (2, .ref (b + 30)), (3, .int (jI q)), (4, .int (jI v109)), (5, .int (jI i)), (6, .int (jI v103))]) d_EX_lengthAfter_67 (Nat.le_of_ble_eq_true rfl) rfl ?_
        refine jt_iinc (L' := [(0, .ref (b + 5)), (1, .ref (b + 39)), (2, .ref (b + 30)), (3, .int (jI q)), (4, .int (jI v109)), (5, .int (jI (i + 1))), (6, .int (jI v103))]) d_EX_lengthAfter_69 rfl (Nat.le_of_ble_eq_true rfl) rfl ?_
        refine jt_goto (t := 16) d_EX_lengthAfter_72 rfl ?_
        refine jt_sub (L' := [(0, .ref (b + 5)), (1, .ref (b + 39)), (2, .ref (b + 30)), (3, .int (jI q)), (4, .int (jI v109)), (5, .int (jI (i + 1)))]) (fun _ h => List.mem_append_left [(6, Value.int (jI v103))] h) ?_
        exact ih v109 (i + 1) J B hJ (by omega) (by omega) (by omega)
set_option maxRecDepth 100000 in
set_option maxHeartbeats 4000000 in
theorem v_EX_lengthAfter_30 (G : jG) (d b : Nat) (q : Int) (I : Nat → Nat → Int) (A : Nat → Int → Int) (hI : cSI I) (hA : cSA A) (hK : cTok A) (hq : 0 ≤ q ∧ q ≤ 301) : cct G Y_EX_lengthAfter d b [.ref (b + 5), .ref (b + 39), .ref (b + 30), .int (jI q)] I A (fun (rv : Option Value) (I2 : Nat → Nat → Int) (A2 : Nat → Int → Int) => ∃ y : Int, rv = some (.int (jI y)) ∧ (-2147483648 ≤ y ∧ y ≤ 2147483647) ∧ cPo [] [] I A I2 A2) := by
  refine cct_of (by decide) (Nat.le_of_ble_eq_true rfl) (fun f0 sz => ?_)
  show jt _ 0 [(0, .ref (b + 5)), (1, .ref (b + 39)), (2, .ref (b + 30)), (3, .int (jI q))] [] _ _ _ _
  have hz0 : cPo [] [] I A I A := cPo.refl hI hA
  refine jt_aload_n d_EX_lengthAfter_0 rfl ?_
  refine cm_get (k := 5) (v := .int (jI (I 5 5))) d_EX_lengthAfter_1 EX_f42 (by decide) cc_2 rfl ?_
  have rb1 : 0 ≤ I 5 5 ∧ I 5 5 ≤ 300 := hz0.1 5 5
  refine jt_aload_n d_EX_lengthAfter_4 rfl ?_
  refine cm_get (k := 39) (v := .int (jI (I 39 3))) d_EX_lengthAfter_5 EX_f38 (by decide) (cc_1 rfl) rfl ?_
  have rb2 : 0 ≤ I 39 3 ∧ I 39 3 ≤ 300 := hz0.1 39 3
  refine jt_iadd d_EX_lengthAfter_8 ?_
  refine jt_iload_n d_EX_lengthAfter_9 rfl ?_
  refine jt_isub d_EX_lengthAfter_10 ?_
  refine jt_topi (fun v3 ev3 => ?_)
  refine jt_istore (L' := [(0, .ref (b + 5)), (1, .ref (b + 39)), (2, .ref (b + 30)), (3, .int (jI q)), (4, .int (jI v3))]) d_EX_lengthAfter_11 (Nat.le_of_ble_eq_true rfl) rfl ?_
  refine jt_iconst d_EX_lengthAfter_13 ?_
  refine jt_istore (L' := [(0, .ref (b + 5)), (1, .ref (b + 39)), (2, .ref (b + 30)), (3, .int (jI q)), (4, .int (jI v3)), (5, .int (jI 0))]) d_EX_lengthAfter_14 (Nat.le_of_ble_eq_true rfl) rfl ?_
  exact l16_EX_lengthAfter_30v G d b q I A hI hA hK hq f0 sz  41 v3 0 I A hz0 (by omega) (by omega) (by omega)
set_option maxRecDepth 100000 in
set_option maxHeartbeats 4000000 in
theorem l24_EX_putBody_30v (G : jG) (d b : Nat) (q : Int) (I : Nat → Nat → Int) (A : Nat → Int → Int) (hI : cSI I) (hA : cSA A) (hK : cTok A) (hq : 0 ≤ q ∧ q ≤ 301) (ha : I 5 5 < 300) (f0 : jF) (sz : Nat)  (e : Int) (e0 : -2147483648 ≤ e ∧ e ≤ 2147483647) : ∀ (n9 : Nat) (i : Int) (J : Nat → Nat → Int) (B : Nat → Int → Int), cPo [131, 627] [9, 10, 11, 40, 41, 42] I A J B → (0 ≤ i ∧ i ≤ 40) → (cTok B) → 40 - i < (n9 : Int) → jt (jm G Y_EX_putBody (gR (d + 2)) (cQ b f0 sz (fun (rv : Option Value) (I2 : Nat → Nat → Int) (A2 : Nat → Int → Int) => rv = none ∧ cPo [131, 627] [9, 10, 11, 40, 41, 42] I A I2 A2 ∧ cTok A2))) 24 [(0, .ref (b + 5)), (1, .ref (b + 39)), (2, .ref (b + 30)), (3, .int (jI q)), (4, .int (jI e)), (5, .int (jI i))] [] (cmf b f0 J B) sz 0 0 := by
  have r55 : 0 ≤ I 5 5 ∧ I 5 5 ≤ 300 := hI 5 5
  intro n9
  induction n9 with
  | zero =>
    intro i J B hJ i0 hKJ hmeas
    have tk : gtok (B 31 i) (B 32 i) := hKJ 30 rfl i
    have tk2 := tk
    unfold gtok at tk
    have f55 : J 5 5 = I 5 5 := hJ.2.2.1 5 5 rfl
    exfalso
    omega
  | succ n9 ih =>
    intro i J B hJ i0 hKJ hmeas
    have tk : gtok (B 31 i) (B 32 i) := hKJ 30 rfl i
    have tk2 := tk
    unfold gtok at tk
    have f55 : J 5 5 = I 5 5 := hJ.2.2.1 5 5 rfl
    refine jt_iload d_EX_putBody_24 rfl ?_
    refine jt_aload_n d_EX_putBody_26 rfl ?_
    refine cm_get (k := 30) (v := .int (jI (J 30 3))) d_EX_putBody_27 EX_f38 (by decide) (cc_1 rfl) rfl ?_
    have rb101 : 0 ≤ J 30 3 ∧ J 30 3 ≤ 40 := hJ.1 30 3
    refine jt_icmp_ge (t := 102) d_EX_putBody_30 rfl (by unfold jRi; omega) (by unfold jRi; omega) (fun c102 => ?_) (fun c102 => ?_)
    · skip
      refine jt_aload_n d_EX_putBody_102 rfl ?_
      refine cm_get (k := 5) (v := .ref (b + 8)) d_EX_putBody_103 EX_f24 (by decide) cc_2 rfl ?_
      refine jt_aload_n d_EX_putBody_106 rfl ?_
      refine jt_iload_n d_EX_putBody_107 rfl ?_
      refine jt_aload_n d_EX_putBody_108 rfl ?_
      refine cm_get (k := 39) (v := .int (jI (J 39 3))) d_EX_putBody_109 EX_f38 (by decide) (cc_1 rfl) rfl ?_
      have rb103 : 0 ≤ J 39 3 ∧ J 39 3 ≤ 300 := hJ.1 39 3
      refine cct_callV (Y := Y_TR_addAll) (ci := 0) (k := 8) (As := [.ref (b + 39), .int (jI q), .int (jI (J 39 3))]) (rest := []) d_EX_putBody_112 EX_c80 yk_TR_addAll yv_TR_addAll rfl (Nat.le_of_ble_eq_true rfl) (by decide) (cc_1 rfl) rfl rfl (Nat.le_of_ble_eq_true rfl) (v_TR_addAll_8_39 G _ b q (J 39 3) J B hJ.1 hJ.2.1 (by omega) (by omega)) (fun rvq104 Iq104 Aq104 hq104 => ?_)
      obtain ⟨rfl, hqq104, hxq104⟩ := hq104
      have hpq104 := cPo.trans hJ hqq104 rfl rfl
      have m39_3q104 : Iq104 39 3 = J 39 3 := hqq104.2.2.1 39 3 rfl
      have m5_5q104 : Iq104 5 5 = J 5 5 := hqq104.2.2.1 5 5 rfl
      show jt _ 115 [(0, .ref (b + 5)), (1, .ref (b + 39)), (2, .ref (b + 30)), (3, .int (jI q)), (4, .int (jI e)), (5, .int (jI i))] [] (cmf b f0 Iq104 Aq104) _ _ _
      refine jt_aload_n d_EX_putBody_115 rfl ?_
      refine jt_aload_n d_EX_putBody_116 rfl ?_
      refine cm_get (k := 5) (v := .int (jI (Iq104 5 5))) d_EX_putBody_117 EX_f42 (by decide) cc_2 rfl ?_
      have rb105 : 0 ≤ Iq104 5 5 ∧ Iq104 5 5 ≤ 300 := hpq104.1 5 5
      refine cm_put (k := 39) (j := 3) (v := (Iq104 5 5)) d_EX_putBody_120 (EX_w38 _ rfl) (by decide) (cc_1 rfl) rfl rfl (Nat.le_of_ble_eq_true rfl) rfl ?_
      have p106 := cPo.I 39 3 (Iq104 5 5) hpq104 rfl (show 0 ≤ Iq104 5 5 ∧ Iq104 5 5 ≤ 300 by omega)
      refine jt_aload_n d_EX_putBody_123 rfl ?_
      refine jt_aload_n d_EX_putBody_124 rfl ?_
      refine cm_get (k := 5) (v := .ref (b + 8)) d_EX_putBody_125 EX_f24 (by decide) cc_2 rfl ?_
      refine jt_iconst d_EX_putBody_128 ?_
      refine jt_aload_n d_EX_putBody_129 rfl ?_
      refine cm_get (k := 5) (v := .ref (b + 8)) d_EX_putBody_130 EX_f24 (by decide) cc_2 rfl ?_
      refine cm_get (k := 8) (v := .int (jI (Iq104 8 3))) d_EX_putBody_133 EX_f38 (by decide) (cc_1 rfl) rfl ?_
      have rb107 : 0 ≤ Iq104 8 3 ∧ Iq104 8 3 ≤ 300 := p106.1 8 3
      refine cct_callV (Y := Y_TR_addAll) (ci := 0) (k := 39) (As := [.ref (b + 8), .int (jI 0), .int (jI (Iq104 8 3))]) (rest := []) d_EX_putBody_136 EX_c80 yk_TR_addAll yv_TR_addAll rfl (Nat.le_of_ble_eq_true rfl) (by decide) (cc_1 rfl) rfl rfl (Nat.le_of_ble_eq_true rfl) (v_TR_addAll_39_8 G _ b 0 (Iq104 8 3) (cu Iq104 39 3 (Iq104 5 5)) Aq104 p106.1 p106.2.1 (by omega) (by omega)) (fun rvq108 Iq108 Aq108 hq108 => ?_)
      obtain ⟨rfl, hqq108, hxq108⟩ := hq108
      have hpq108 := cPo.trans p106 hqq108 rfl rfl
      have s39_3q108 : (cu Iq104 39 3 (Iq104 5 5)) 39 3 = Iq104 5 5 := rfl
      have s5_5q108 : (cu Iq104 39 3 (Iq104 5 5)) 5 5 = Iq104 5 5 := rfl
      have s8_3q108 : (cu Iq104 39 3 (Iq104 5 5)) 8 3 = Iq104 8 3 := rfl
      have m5_5q108 : Iq108 5 5 = Iq104 5 5 := hqq108.2.2.1 5 5 rfl
      have m8_3q108 : Iq108 8 3 = Iq104 8 3 := hqq108.2.2.1 8 3 rfl
      show jt _ 139 [(0, .ref (b + 5)), (1, .ref (b + 39)), (2, .ref (b + 30)), (3, .int (jI q)), (4, .int (jI e)), (5, .int (jI i))] [] (cmf b f0 Iq108 Aq108) _ _ _
      exact cm_vret d_EX_putBody_139 rfl (⟨rfl, hpq108, (hxq108 (hxq104 hKJ))⟩)
    · skip
      refine jt_aload_n d_EX_putBody_33 rfl ?_
      refine cm_get (k := 30) (v := .ref (b + 32)) d_EX_putBody_34 EX_f55 (by decide) (cc_1 rfl) rfl ?_
      refine jt_iload d_EX_putBody_37 rfl ?_
      refine cm_ld0 (k := 32) (n := 40) (v := (B 32) i) d_EX_putBody_39 (by decide) rfl rfl (by omega) (by omega) (by omega) rfl ?_
      refine jt_topi (fun v109 ev109 => ?_)
      have bv109 : -2147483648 ≤ v109 ∧ v109 ≤ 2147483647 := by rw [ev109]; exact hJ.2.1 32 i
      refine jt_istore (L' := [(0, .ref (b + 5)), (1, .ref (b + 39)), (2, .ref (b + 30)), (3, .int (jI q)), (4, .int (jI e)), (5, .int (jI i)), (6, .int (jI v109))]) d_EX_putBody_40 (Nat.le_of_ble_eq_true rfl) rfl ?_
      refine jt_aload_n d_EX_putBody_42 rfl ?_
      refine cm_get (k := 30) (v := .ref (b + 31)) d_EX_putBody_43 EX_f48 (by decide) (cc_1 rfl) rfl ?_
      refine jt_iload d_EX_putBody_46 rfl ?_
      refine cm_ld0 (k := 31) (n := 40) (v := (B 31) i) d_EX_putBody_48 (by decide) rfl rfl (by omega) (by omega) (by omega) rfl ?_
      refine jt_topi (fun v110 ev110 => ?_)
      have bv110 : -2147483648 ≤ v110 ∧ v110 ≤ 2147483647 := by rw [ev110]; exact hJ.2.1 31 i
      refine jt_iconst d_EX_putBody_49 ?_
      refine jt_icmp_ne (t := 78) d_EX_putBody_50 rfl (by unfold jRi; omega) (by unfold jRi; omega) (fun c111 => ?_) (fun c111 => ?_)
      · skip
        refine jt_aload_n d_EX_putBody_78 rfl ?_
        refine cm_get (k := 5) (v := .ref (b + 8)) d_EX_putBody_79 EX_f24 (by decide) cc_2 rfl ?_
        refine jt_aload_n d_EX_putBody_82 rfl ?_
        refine cm_get (k := 30) (v := .ref (b + 31)) d_EX_putBody_83 EX_f48 (by decide) (cc_1 rfl) rfl ?_
        refine jt_iload d_EX_putBody_86 rfl ?_
        refine cm_ld0 (k := 31) (n := 40) (v := (B 31) i) d_EX_putBody_88 (by decide) rfl rfl (by omega) (by omega) (by omega) rfl ?_
        refine jt_topi (fun v112 ev112 => ?_)
        have bv112 : -2147483648 ≤ v112 ∧ v112 ≤ 2147483647 := by rw [ev112]; exact hJ.2.1 31 i
        refine jt_iload d_EX_putBody_89 rfl ?_
        refine jt_iload d_EX_putBody_91 rfl ?_
        refine cct_callV (Y := Y_TR_add) (ci := 0) (k := 8) (As := [.int (jI v112), .int (jI v109), .int (jI e)]) (rest := []) d_EX_putBody_93 EX_c84 yk_TR_add yv_TR_add rfl (Nat.le_of_ble_eq_true rfl) (by decide) (cc_1 rfl) rfl rfl (Nat.le_of_ble_eq_true rfl) (v_TR_add_8 G _ b v112 v109 e J B hJ.1 hJ.2.1 (by omega) (by omega) (by omega)) (fun rvq113 Iq113 Aq113 hq113 => ?_)
        obtain ⟨rfl, hqq113, hxq113⟩ := hq113
        have hpq113 := cPo.trans hJ hqq113 rfl rfl
        have m39_3q113 : Iq113 39 3 = J 39 3 := hqq113.2.2.1 39 3 rfl
        have m5_5q113 : Iq113 5 5 = J 5 5 := hqq113.2.2.1 5 5 rfl
        show jt _ 96 [(0, .ref (b + 5)), (1, .ref (b + 39)), (2, .ref (b + 30)), (3, .int (jI q)), (4, .int (jI e)), (5, .int (jI i)), (6, .int (jI v109))] [] (cmf b f0 Iq113 Aq113) _ _ _
        refine jt_iinc (L' := [(0, .ref (b + 5)), (1, .ref (b + 39)), (2, .ref (b + 30)), (3, .int (jI q)), (4, .int (jI e)), (5, .int (jI (i + 1))), (6, .int (jI v109))]) d_EX_putBody_96 rfl (Nat.le_of_ble_eq_true rfl) rfl ?_
        refine jt_goto (t := 24) d_EX_putBody_99 rfl ?_
        refine jt_sub (L' := [(0, .ref (b + 5)), (1, .ref (b + 39)), (2, .ref (b + 30)), (3, .int (jI q)), (4, .int (jI e)), (5, .int (jI (i + 1)))]) (fun _ h => List.mem_append_left [(6, Value.int (jI v109))] h) ?_
        exact ih (i + 1) Iq113 Aq113 hpq113 (by omega) (hxq113.1 hKJ (by rw [ev112, ev109]; exact tk2)) (by omega)
      · skip
        refine jt_aload_n d_EX_putBody_53 rfl ?_
        refine cm_get (k := 5) (v := .ref (b + 8)) d_EX_putBody_54 EX_f24 (by decide) cc_2 rfl ?_
        refine jt_aload_n d_EX_putBody_57 rfl ?_
        refine jt_aload_n d_EX_putBody_58 rfl ?_
        refine cm_get (k := 5) (v := .ref (b + 12)) d_EX_putBody_59 EX_f28 (by decide) cc_2 rfl ?_
        refine jt_iload d_EX_putBody_62 rfl ?_
        refine cm_ld0 (k := 12) (n := 3) (v := (B 12) v109) d_EX_putBody_64 (by decide) rfl rfl (by omega) (by omega) (by omega) rfl ?_
        refine jt_topi (fun v114 ev114 => ?_)
        have bv114 : 0 ≤ v114 ∧ v114 ≤ 300 := by rw [ev114]; exact hJ.2.1 12 v109
        refine jt_aload_n d_EX_putBody_65 rfl ?_
        refine cm_get (k := 5) (v := .ref (b + 13)) d_EX_putBody_66 EX_f31 (by decide) cc_2 rfl ?_
        refine jt_iload d_EX_putBody_69 rfl ?_
        refine cm_ld0 (k := 13) (n := 3) (v := (B 13) v109) d_EX_putBody_71 (by decide) rfl rfl (by omega) (by omega) (by omega) rfl ?_
        refine jt_topi (fun v115 ev115 => ?_)
        have bv115 : 0 ≤ v115 ∧ v115 ≤ 300 := by rw [ev115]; exact hJ.2.1 13 v109
        refine cct_callV (Y := Y_TR_addAll) (ci := 0) (k := 8) (As := [.ref (b + 39), .int (jI v114), .int (jI v115)]) (rest := []) d_EX_putBody_72 EX_c80 yk_TR_addAll yv_TR_addAll rfl (Nat.le_of_ble_eq_true rfl) (by decide) (cc_1 rfl) rfl rfl (Nat.le_of_ble_eq_true rfl) (v_TR_addAll_8_39 G _ b v114 v115 J B hJ.1 hJ.2.1 (by omega) (by omega)) (fun rvq116 Iq116 Aq116 hq116 => ?_)
        obtain ⟨rfl, hqq116, hxq116⟩ := hq116
        have hpq116 := cPo.trans hJ hqq116 rfl rfl
        have m39_3q116 : Iq116 39 3 = J 39 3 := hqq116.2.2.1 39 3 rfl
        have m5_5q116 : Iq116 5 5 = J 5 5 := hqq116.2.2.1 5 5 rfl
        show jt _ 75 [(0, .ref (b + 5)), (1, .ref (b + 39)), (2, .ref (b + 30)), (3, .int (jI q)), (4, .int (jI e)), (5, .int (jI i)), (6, .int (jI v109))] [] (cmf b f0 Iq116 Aq116) _ _ _
        refine jt_goto (t := 96) d_EX_putBody_75 rfl ?_
        refine jt_iinc (L' := [(0, .ref (b + 5)), (1, .ref (b + 39)), (2, .ref (b + 30)), (3, .int (jI q)), (4, .int (jI e)), (5, .int (jI (i + 1))), (6, .int (jI v109))]) d_EX_putBody_96 rfl (Nat.le_of_ble_eq_true rfl) rfl ?_
        refine jt_goto (t := 24) d_EX_putBody_99 rfl ?_
        refine jt_sub (L' := [(0, .ref (b + 5)), (1, .ref (b + 39)), (2, .ref (b + 30)), (3, .int (jI q)), (4, .int (jI e)), (5, .int (jI (i + 1)))]) (fun _ h => List.mem_append_left [(6, Value.int (jI v109))] h) ?_
        exact ih (i + 1) Iq116 Aq116 hpq116 (by omega) (hxq116 hKJ) (by omega)
set_option maxRecDepth 100000 in
set_option maxHeartbeats 4000000 in
theorem v_EX_putBody_30 (G : jG) (d b : Nat) (q : Int) (I : Nat → Nat → Int) (A : Nat → Int → Int) (hI : cSI I) (hA : cSA A) (hK : cTok A) (hq : 0 ≤ q ∧ q ≤ 301) (ha : I 5 5 < 300) : cct G Y_EX_putBody (d + 2) b [.ref (b + 5), .ref (b + 39), .ref (b + 30), .int (jI q)] I A (fun (rv : Option Value) (I2 : Nat → Nat → Int) (A2 : Nat → Int → Int) => rv = none ∧ cPo [131, 627] [9, 10, 11, 40, 41, 42] I A I2 A2 ∧ cTok A2) := by
  refine cct_of (by decide) (Nat.le_of_ble_eq_true rfl) (fun f0 sz => ?_)
  show jt _ 0 [(0, .ref (b + 5)), (1, .ref (b + 39)), (2, .ref (b + 30)), (3, .int (jI q))] [] _ _ _ _
  have r55 : 0 ≤ I 5 5 ∧ I 5 5 ≤ 300 := hI 5 5
  have hz0 : cPo [131, 627] [9, 10, 11, 40, 41, 42] I A I A := cPo.refl hI hA
  refine jt_aload_n d_EX_putBody_0 rfl ?_
  refine cm_get (k := 39) (v := .ref (b + 42)) d_EX_putBody_1 EX_f58 (by decide) (cc_1 rfl) rfl ?_
  refine jt_aload_n d_EX_putBody_4 rfl ?_
  refine cm_get (k := 5) (v := .int (jI (I 5 5))) d_EX_putBody_5 EX_f42 (by decide) cc_2 rfl ?_
  have rb1 : 0 ≤ I 5 5 ∧ I 5 5 ≤ 300 := hz0.1 5 5
  refine cm_ld0 (k := 42) (n := 300) (v := (A 42) (I 5 5)) d_EX_putBody_8 (by decide) rfl rfl (by omega) (by omega) (by omega) rfl ?_
  refine jt_topi (fun v2 ev2 => ?_)
  have bv2 : -2147483648 ≤ v2 ∧ v2 ≤ 2147483647 := by rw [ev2]; exact hz0.2.1 42 (I 5 5)
  refine jt_iconst d_EX_putBody_9 ?_
  refine jt_iadd d_EX_putBody_10 ?_
  refine jt_topie (fun v3 bv3 ev3 => ?_)
  refine jt_istore (L' := [(0, .ref (b + 5)), (1, .ref (b + 39)), (2, .ref (b + 30)), (3, .int (jI q)), (4, .int (jI v3))]) d_EX_putBody_11 (Nat.le_of_ble_eq_true rfl) rfl ?_
  refine jt_aload_n d_EX_putBody_13 rfl ?_
  refine cm_get (k := 5) (v := .ref (b + 8)) d_EX_putBody_14 EX_f24 (by decide) cc_2 rfl ?_
  refine jt_iconst d_EX_putBody_17 ?_
  refine cm_put (k := 8) (j := 3) (v := 0) d_EX_putBody_18 (EX_w38 _ rfl) (by decide) (cc_1 rfl) rfl rfl (Nat.le_of_ble_eq_true rfl) rfl ?_
  have p4 := cPo.I 8 3 0 hz0 rfl (show 0 ≤ 0 ∧ 0 ≤ 300 by omega)
  refine jt_iconst d_EX_putBody_21 ?_
  refine jt_istore (L' := [(0, .ref (b + 5)), (1, .ref (b + 39)), (2, .ref (b + 30)), (3, .int (jI q)), (4, .int (jI v3)), (5, .int (jI 0))]) d_EX_putBody_22 (Nat.le_of_ble_eq_true rfl) rfl ?_
  exact l24_EX_putBody_30v G d b q I A hI hA hK hq ha f0 sz v3 ((by omega)) 41 0 (cu I 8 3 0) A p4 (by omega) hK (by omega)
set_option maxRecDepth 100000 in
set_option maxHeartbeats 4000000 in
theorem l16_EX_lengthAfter_34v (G : jG) (d b : Nat) (q : Int) (I : Nat → Nat → Int) (A : Nat → Int → Int) (hI : cSI I) (hA : cSA A) (hK : cTok A) (hq : 0 ≤ q ∧ q ≤ 301) (f0 : jF) (sz : Nat)   : ∀ (n9 : Nat) (l : Int) (i : Int) (J : Nat → Nat → Int) (B : Nat → Int → Int), cPo [] [] I A J B → (0 ≤ i ∧ i ≤ 40) → (-700 - 300 * i ≤ l ∧ l ≤ 700 + 300 * i) → 40 - i < (n9 : Int) → jt (jm G Y_EX_lengthAfter (gR d) (cQ b f0 sz (fun (rv : Option Value) (I2 : Nat → Nat → Int) (A2 : Nat → Int → Int) => ∃ y : Int, rv = some (.int (jI y)) ∧ (-2147483648 ≤ y ∧ y ≤ 2147483647) ∧ cPo [] [] I A I2 A2))) 16 [(0, .ref (b + 5)), (1, .ref (b + 39)), (2, .ref (b + 34)), (3, .int (jI q)), (4, .int (jI l)), (5, .int (jI i))] [] (cmf b f0 J B) sz 0 0 := by
  intro n9
  induction n9 with
  | zero =>
    intro l i J B hJ i0 l0 hmeas
    have tk : gtok (B 35 i) (B 36 i) := (cTok_of hJ hK rfl) 34 rfl i
    unfold gtok at tk
    exfalso
    omega
  | succ n9 ih =>
    intro l i J B hJ i0 l0 hmeas
    have tk : gtok (B 35 i) (B 36 i) := (cTok_of hJ hK rfl) 34 rfl i
    unfold gtok at tk
    refine jt_iload d_EX_lengthAfter_16 rfl ?_
    refine jt_aload_n d_EX_lengthAfter_18 rfl ?_
    refine cm_get (k := 34) (v := .int (jI (J 34 3))) d_EX_lengthAfter_19 EX_f38 (by decide) (cc_1 rfl) rfl ?_
    have rb101 : 0 ≤ J 34 3 ∧ J 34 3 ≤ 40 := hJ.1 34 3
    refine jt_icmp_ge (t := 75) d_EX_lengthAfter_22 rfl (by unfold jRi; omega) (by unfold jRi; omega) (fun c102 => ?_) (fun c102 => ?_)
    · skip
      refine jt_iload d_EX_lengthAfter_75 rfl ?_
      exact cm_ret d_EX_lengthAfter_77 rfl rfl (⟨l, rfl, by omega, hJ⟩)
    · skip
      refine jt_aload_n d_EX_lengthAfter_25 rfl ?_
      refine cm_get (k := 34) (v := .ref (b + 36)) d_EX_lengthAfter_26 EX_f55 (by decide) (cc_1 rfl) rfl ?_
      refine jt_iload d_EX_lengthAfter_29 rfl ?_
      refine cm_ld0 (k := 36) (n := 40) (v := (B 36) i) d_EX_lengthAfter_31 (by decide) rfl rfl (by omega) (by omega) (by omega) rfl ?_
      refine jt_topi (fun v103 ev103 => ?_)
      have bv103 : -2147483648 ≤ v103 ∧ v103 ≤ 2147483647 := by rw [ev103]; exact hJ.2.1 36 i
      refine jt_istore (L' := [(0, .ref (b + 5)), (1, .ref (b + 39)), (2, .ref (b + 34)), (3, .int (jI q)), (4, .int (jI l)), (5, .int (jI i)), (6, .int (jI v103))]) d_EX_lengthAfter_32 (Nat.le_of_ble_eq_true rfl) rfl ?_
      refine jt_iload d_EX_lengthAfter_34 rfl ?_
      refine jt_aload_n d_EX_lengthAfter_36 rfl ?_
      refine cm_get (k := 34) (v := .ref (b + 35)) d_EX_lengthAfter_37 EX_f48 (by decide) (cc_1 rfl) rfl ?_
      refine jt_iload d_EX_lengthAfter_40 rfl ?_
      refine cm_ld0 (k := 35) (n := 40) (v := (B 35) i) d_EX_lengthAfter_42 (by decide) rfl rfl (by omega) (by omega) (by omega) rfl ?_
      refine jt_topi (fun v104 ev104 => ?_)
      have bv104 : -2147483648 ≤ v104 ∧ v104 ≤ 2147483647 := by rw [ev104]; exact hJ.2.1 35 i
      refine jt_iconst d_EX_lengthAfter_43 ?_
      refine jt_icmp_ne (t := 65) d_EX_lengthAfter_44 rfl (by unfold jRi; omega) (by unfold jRi; omega) (fun c105 => ?_) (fun c105 => ?_)
      · skip
        refine jt_iconst d_EX_lengthAfter_65 ?_
        refine jt_iadd d_EX_lengthAfter_66 ?_
        refine jt_topi (fun v106 ev106 => ?_)
        refine jt_istore (L' := [(0, .ref (b + 5)), (1, .ref (b + 39)), (2, .ref (b + 34)), (3, .int (jI q)), (4, .int (jI v106)), (5, .int (jI i)), (6, .int (jI v103))]) d_EX_lengthAfter_67 (Nat.le_of_ble_eq_true rfl) rfl ?_
        refine jt_iinc (L' := [(0, .ref (b + 5)), (1, .ref (b + 39)), (2, .ref (b + 34)), (3, .int (jI q)), (4, .int (jI v106)), (5, .int (jI (i + 1))), (6, .int (jI v103))]) d_EX_lengthAfter_69 rfl (Nat.le_of_ble_eq_true rfl) rfl ?_
        refine jt_goto (t := 16) d_EX_lengthAfter_72 rfl ?_
        refine jt_sub (L' := [(0, .ref (b + 5)), (1, .ref (b + 39)), (2, .ref (b + 34)), (3, .int (jI q)), (4, .int (jI v106)), (5, .int (jI (i + 1)))]) (fun _ h => List.mem_append_left [(6, Value.int (jI v103))] h) ?_
        exact ih v106 (i + 1) J B hJ (by omega) (by omega) (by omega)
      · skip
        refine jt_aload_n d_EX_lengthAfter_47 rfl ?_
        refine cm_get (k := 5) (v := .ref (b + 13)) d_EX_lengthAfter_48 EX_f31 (by decide) cc_2 rfl ?_
        refine jt_iload d_EX_lengthAfter_51 rfl ?_
        refine cm_ld0 (k := 13) (n := 3) (v := (B 13) v103) d_EX_lengthAfter_53 (by decide) rfl rfl (by omega) (by omega) (by omega) rfl ?_
        refine jt_topi (fun v107 ev107 => ?_)
        have bv107 : 0 ≤ v107 ∧ v107 ≤ 300 := by rw [ev107]; exact hJ.2.1 13 v103
        refine jt_aload_n d_EX_lengthAfter_54 rfl ?_
        refine cm_get (k := 5) (v := .ref (b + 12)) d_EX_lengthAfter_55 EX_f28 (by decide) cc_2 rfl ?_
        refine jt_iload d_EX_lengthAfter_58 rfl ?_
        refine cm_ld0 (k := 12) (n := 3) (v := (B 12) v103) d_EX_lengthAfter_60 (by decide) rfl rfl (by omega) (by omega) (by omega) rfl ?_
        refine jt_topi (fun v108 ev108 => ?_)
        have bv108 : 0 ≤ v108 ∧ v108 ≤ 300 := by rw [ev108]; exact hJ.2.1 12 v103
        refine jt_isub d_EX_lengthAfter_61 ?_
        refine jt_goto (t := 66) d_EX_lengthAfter_62 rfl ?_
        refine jt_iadd d_EX_lengthAfter_66 ?_
        refine jt_topi (fun v109 ev109 => ?_)
        refine jt_istore (L' := [(0, .ref (b + 5)), (1, .ref (b + 39)), (2, .ref (b + 34)), (3, .int (jI q)), (4, .int (jI v109)), (5, .int (jI i)), (6, .int (jI v103))]) d_EX_lengthAfter_67 (Nat.le_of_ble_eq_true rfl) rfl ?_
        refine jt_iinc (L' := [(0, .ref (b + 5)), (1, .ref (b + 39)), (2, .ref (b + 34)), (3, .int (jI q)), (4, .int (jI v109)), (5, .int (jI (i + 1))), (6, .int (jI v103))]) d_EX_lengthAfter_69 rfl (Nat.le_of_ble_eq_true rfl) rfl ?_
        refine jt_goto (t := 16) d_EX_lengthAfter_72 rfl ?_
        refine jt_sub (L' := [(0, .ref (b + 5)), (1, .ref (b + 39)), (2, .ref (b + 34)), (3, .int (jI q)), (4, .int (jI v109)), (5, .int (jI (i + 1)))]) (fun _ h => List.mem_append_left [(6, Value.int (jI v103))] h) ?_
        exact ih v109 (i + 1) J B hJ (by omega) (by omega) (by omega)
set_option maxRecDepth 100000 in
set_option maxHeartbeats 4000000 in
theorem v_EX_lengthAfter_34 (G : jG) (d b : Nat) (q : Int) (I : Nat → Nat → Int) (A : Nat → Int → Int) (hI : cSI I) (hA : cSA A) (hK : cTok A) (hq : 0 ≤ q ∧ q ≤ 301) : cct G Y_EX_lengthAfter d b [.ref (b + 5), .ref (b + 39), .ref (b + 34), .int (jI q)] I A (fun (rv : Option Value) (I2 : Nat → Nat → Int) (A2 : Nat → Int → Int) => ∃ y : Int, rv = some (.int (jI y)) ∧ (-2147483648 ≤ y ∧ y ≤ 2147483647) ∧ cPo [] [] I A I2 A2) := by
  refine cct_of (by decide) (Nat.le_of_ble_eq_true rfl) (fun f0 sz => ?_)
  show jt _ 0 [(0, .ref (b + 5)), (1, .ref (b + 39)), (2, .ref (b + 34)), (3, .int (jI q))] [] _ _ _ _
  have hz0 : cPo [] [] I A I A := cPo.refl hI hA
  refine jt_aload_n d_EX_lengthAfter_0 rfl ?_
  refine cm_get (k := 5) (v := .int (jI (I 5 5))) d_EX_lengthAfter_1 EX_f42 (by decide) cc_2 rfl ?_
  have rb1 : 0 ≤ I 5 5 ∧ I 5 5 ≤ 300 := hz0.1 5 5
  refine jt_aload_n d_EX_lengthAfter_4 rfl ?_
  refine cm_get (k := 39) (v := .int (jI (I 39 3))) d_EX_lengthAfter_5 EX_f38 (by decide) (cc_1 rfl) rfl ?_
  have rb2 : 0 ≤ I 39 3 ∧ I 39 3 ≤ 300 := hz0.1 39 3
  refine jt_iadd d_EX_lengthAfter_8 ?_
  refine jt_iload_n d_EX_lengthAfter_9 rfl ?_
  refine jt_isub d_EX_lengthAfter_10 ?_
  refine jt_topi (fun v3 ev3 => ?_)
  refine jt_istore (L' := [(0, .ref (b + 5)), (1, .ref (b + 39)), (2, .ref (b + 34)), (3, .int (jI q)), (4, .int (jI v3))]) d_EX_lengthAfter_11 (Nat.le_of_ble_eq_true rfl) rfl ?_
  refine jt_iconst d_EX_lengthAfter_13 ?_
  refine jt_istore (L' := [(0, .ref (b + 5)), (1, .ref (b + 39)), (2, .ref (b + 34)), (3, .int (jI q)), (4, .int (jI v3)), (5, .int (jI 0))]) d_EX_lengthAfter_14 (Nat.le_of_ble_eq_true rfl) rfl ?_
  exact l16_EX_lengthAfter_34v G d b q I A hI hA hK hq f0 sz  41 v3 0 I A hz0 (by omega) (by omega) (by omega)
set_option maxRecDepth 100000 in
set_option maxHeartbeats 4000000 in
theorem l24_EX_putBody_34v (G : jG) (d b : Nat) (q : Int) (I : Nat → Nat → Int) (A : Nat → Int → Int) (hI : cSI I) (hA : cSA A) (hK : cTok A) (hq : 0 ≤ q ∧ q ≤ 301) (ha : I 5 5 < 300) (f0 : jF) (sz : Nat)  (e : Int) (e0 : -2147483648 ≤ e ∧ e ≤ 2147483647) : ∀ (n9 : Nat) (i : Int) (J : Nat → Nat → Int) (B : Nat → Int → Int), cPo [131, 627] [9, 10, 11, 40, 41, 42] I A J B → (0 ≤ i ∧ i ≤ 40) → (cTok B) → 40 - i < (n9 : Int) → jt (jm G Y_EX_putBody (gR (d + 2)) (cQ b f0 sz (fun (rv : Option Value) (I2 : Nat → Nat → Int) (A2 : Nat → Int → Int) => rv = none ∧ cPo [131, 627] [9, 10, 11, 40, 41, 42] I A I2 A2 ∧ cTok A2))) 24 [(0, .ref (b + 5)), (1, .ref (b + 39)), (2, .ref (b + 34)), (3, .int (jI q)), (4, .int (jI e)), (5, .int (jI i))] [] (cmf b f0 J B) sz 0 0 := by
  have r55 : 0 ≤ I 5 5 ∧ I 5 5 ≤ 300 := hI 5 5
  intro n9
  induction n9 with
  | zero =>
    intro i J B hJ i0 hKJ hmeas
    have tk : gtok (B 35 i) (B 36 i) := hKJ 34 rfl i
    have tk2 := tk
    unfold gtok at tk
    have f55 : J 5 5 = I 5 5 := hJ.2.2.1 5 5 rfl
    exfalso
    omega
  | succ n9 ih =>
    intro i J B hJ i0 hKJ hmeas
    have tk : gtok (B 35 i) (B 36 i) := hKJ 34 rfl i
    have tk2 := tk
    unfold gtok at tk
    have f55 : J 5 5 = I 5 5 := hJ.2.2.1 5 5 rfl
    refine jt_iload d_EX_putBody_24 rfl ?_
    refine jt_aload_n d_EX_putBody_26 rfl ?_
    refine cm_get (k := 34) (v := .int (jI (J 34 3))) d_EX_putBody_27 EX_f38 (by decide) (cc_1 rfl) rfl ?_
    have rb101 : 0 ≤ J 34 3 ∧ J 34 3 ≤ 40 := hJ.1 34 3
    refine jt_icmp_ge (t := 102) d_EX_putBody_30 rfl (by unfold jRi; omega) (by unfold jRi; omega) (fun c102 => ?_) (fun c102 => ?_)
    · skip
      refine jt_aload_n d_EX_putBody_102 rfl ?_
      refine cm_get (k := 5) (v := .ref (b + 8)) d_EX_putBody_103 EX_f24 (by decide) cc_2 rfl ?_
      refine jt_aload_n d_EX_putBody_106 rfl ?_
      refine jt_iload_n d_EX_putBody_107 rfl ?_
      refine jt_aload_n d_EX_putBody_108 rfl ?_
      refine cm_get (k := 39) (v := .int (jI (J 39 3))) d_EX_putBody_109 EX_f38 (by decide) (cc_1 rfl) rfl ?_
      have rb103 : 0 ≤ J 39 3 ∧ J 39 3 ≤ 300 := hJ.1 39 3
      refine cct_callV (Y := Y_TR_addAll) (ci := 0) (k := 8) (As := [.ref (b + 39), .int (jI q), .int (jI (J 39 3))]) (rest := []) d_EX_putBody_112 EX_c80 yk_TR_addAll yv_TR_addAll rfl (Nat.le_of_ble_eq_true rfl) (by decide) (cc_1 rfl) rfl rfl (Nat.le_of_ble_eq_true rfl) (v_TR_addAll_8_39 G _ b q (J 39 3) J B hJ.1 hJ.2.1 (by omega) (by omega)) (fun rvq104 Iq104 Aq104 hq104 => ?_)
      obtain ⟨rfl, hqq104, hxq104⟩ := hq104
      have hpq104 := cPo.trans hJ hqq104 rfl rfl
      have m39_3q104 : Iq104 39 3 = J 39 3 := hqq104.2.2.1 39 3 rfl
      have m5_5q104 : Iq104 5 5 = J 5 5 := hqq104.2.2.1 5 5 rfl
      show jt _ 115 [(0, .ref (b + 5)), (1, .ref (b + 39)), (2, .ref (b + 34)), (3, .int (jI q)), (4, .int (jI e)), (5, .int (jI i))] [] (cmf b f0 Iq104 Aq104) _ _ _
      refine jt_aload_n d_EX_putBody_115 rfl ?_
      refine jt_aload_n d_EX_putBody_116 rfl ?_
      refine cm_get (k := 5) (v := .int (jI (Iq104 5 5))) d_EX_putBody_117 EX_f42 (by decide) cc_2 rfl ?_
      have rb105 : 0 ≤ Iq104 5 5 ∧ Iq104 5 5 ≤ 300 := hpq104.1 5 5
      refine cm_put (k := 39) (j := 3) (v := (Iq104 5 5)) d_EX_putBody_120 (EX_w38 _ rfl) (by decide) (cc_1 rfl) rfl rfl (Nat.le_of_ble_eq_true rfl) rfl ?_
      have p106 := cPo.I 39 3 (Iq104 5 5) hpq104 rfl (show 0 ≤ Iq104 5 5 ∧ Iq104 5 5 ≤ 300 by omega)
      refine jt_aload_n d_EX_putBody_123 rfl ?_
      refine jt_aload_n d_EX_putBody_124 rfl ?_
      refine cm_get (k := 5) (v := .ref (b + 8)) d_EX_putBody_125 EX_f24 (by decide) cc_2 rfl ?_
      refine jt_iconst d_EX_putBody_128 ?_
      refine jt_aload_n d_EX_putBody_129 rfl ?_
      refine cm_get (k := 5) (v := .ref (b + 8)) d_EX_putBody_130 EX_f24 (by decide) cc_2 rfl ?_
      refine cm_get (k := 8) (v := .int (jI (Iq104 8 3))) d_EX_putBody_133 EX_f38 (by decide) (cc_1 rfl) rfl ?_
      have rb107 : 0 ≤ Iq104 8 3 ∧ Iq104 8 3 ≤ 300 := p106.1 8 3
      refine cct_callV (Y := Y_TR_addAll) (ci := 0) (k := 39) (As := [.ref (b + 8), .int (jI 0), .int (jI (Iq104 8 3))]) (rest := []) d_EX_putBody_136 EX_c80 yk_TR_addAll yv_TR_addAll rfl (Nat.le_of_ble_eq_true rfl) (by decide) (cc_1 rfl) rfl rfl (Nat.le_of_ble_eq_true rfl) (v_TR_addAll_39_8 G _ b 0 (Iq104 8 3) (cu Iq104 39 3 (Iq104 5 5)) Aq104 p106.1 p106.2.1 (by omega) (by omega)) (fun rvq108 Iq108 Aq108 hq108 => ?_)
      obtain ⟨rfl, hqq108, hxq108⟩ := hq108
      have hpq108 := cPo.trans p106 hqq108 rfl rfl
      have s39_3q108 : (cu Iq104 39 3 (Iq104 5 5)) 39 3 = Iq104 5 5 := rfl
      have s5_5q108 : (cu Iq104 39 3 (Iq104 5 5)) 5 5 = Iq104 5 5 := rfl
      have s8_3q108 : (cu Iq104 39 3 (Iq104 5 5)) 8 3 = Iq104 8 3 := rfl
      have m5_5q108 : Iq108 5 5 = Iq104 5 5 := hqq108.2.2.1 5 5 rfl
      have m8_3q108 : Iq108 8 3 = Iq104 8 3 := hqq108.2.2.1 8 3 rfl
      show jt _ 139 [(0, .ref (b + 5)), (1, .ref (b + 39)), (2, .ref (b + 34)), (3, .int (jI q)), (4, .int (jI e)), (5, .int (jI i))] [] (cmf b f0 Iq108 Aq108) _ _ _
      exact cm_vret d_EX_putBody_139 rfl (⟨rfl, hpq108, (hxq108 (hxq104 hKJ))⟩)
    · skip
      refine jt_aload_n d_EX_putBody_33 rfl ?_
      refine cm_get (k := 34) (v := .ref (b + 36)) d_EX_putBody_34 EX_f55 (by decide) (cc_1 rfl) rfl ?_
      refine jt_iload d_EX_putBody_37 rfl ?_
      refine cm_ld0 (k := 36) (n := 40) (v := (B 36) i) d_EX_putBody_39 (by decide) rfl rfl (by omega) (by omega) (by omega) rfl ?_
      refine jt_topi (fun v109 ev109 => ?_)
      have bv109 : -2147483648 ≤ v109 ∧ v109 ≤ 2147483647 := by rw [ev109]; exact hJ.2.1 36 i
      refine jt_istore (L' := [(0, .ref (b + 5)), (1, .ref (b + 39)), (2, .ref (b + 34)), (3, .int (jI q)), (4, .int (jI e)), (5, .int (jI i)), (6, .int (jI v109))]) d_EX_putBody_40 (Nat.le_of_ble_eq_true rfl) rfl ?_
      refine jt_aload_n d_EX_putBody_42 rfl ?_
      refine cm_get (k := 34) (v := .ref (b + 35)) d_EX_putBody_43 EX_f48 (by decide) (cc_1 rfl) rfl ?_
      refine jt_iload d_EX_putBody_46 rfl ?_
      refine cm_ld0 (k := 35) (n := 40) (v := (B 35) i) d_EX_putBody_48 (by decide) rfl rfl (by omega) (by omega) (by omega) rfl ?_
      refine jt_topi (fun v110 ev110 => ?_)
      have bv110 : -2147483648 ≤ v110 ∧ v110 ≤ 2147483647 := by rw [ev110]; exact hJ.2.1 35 i
      refine jt_iconst d_EX_putBody_49 ?_
      refine jt_icmp_ne (t := 78) d_EX_putBody_50 rfl (by unfold jRi; omega) (by unfold jRi; omega) (fun c111 => ?_) (fun c111 => ?_)
      · skip
        refine jt_aload_n d_EX_putBody_78 rfl ?_
        refine cm_get (k := 5) (v := .ref (b + 8)) d_EX_putBody_79 EX_f24 (by decide) cc_2 rfl ?_
        refine jt_aload_n d_EX_putBody_82 rfl ?_
        refine cm_get (k := 34) (v := .ref (b + 35)) d_EX_putBody_83 EX_f48 (by decide) (cc_1 rfl) rfl ?_
        refine jt_iload d_EX_putBody_86 rfl ?_
        refine cm_ld0 (k := 35) (n := 40) (v := (B 35) i) d_EX_putBody_88 (by decide) rfl rfl (by omega) (by omega) (by omega) rfl ?_
        refine jt_topi (fun v112 ev112 => ?_)
        have bv112 : -2147483648 ≤ v112 ∧ v112 ≤ 2147483647 := by rw [ev112]; exact hJ.2.1 35 i
        refine jt_iload d_EX_putBody_89 rfl ?_
        refine jt_iload d_EX_putBody_91 rfl ?_
        refine cct_callV (Y := Y_TR_add) (ci := 0) (k := 8) (As := [.int (jI v112), .int (jI v109), .int (jI e)]) (rest := []) d_EX_putBody_93 EX_c84 yk_TR_add yv_TR_add rfl (Nat.le_of_ble_eq_true rfl) (by decide) (cc_1 rfl) rfl rfl (Nat.le_of_ble_eq_true rfl) (v_TR_add_8 G _ b v112 v109 e J B hJ.1 hJ.2.1 (by omega) (by omega) (by omega)) (fun rvq113 Iq113 Aq113 hq113 => ?_)
        obtain ⟨rfl, hqq113, hxq113⟩ := hq113
        have hpq113 := cPo.trans hJ hqq113 rfl rfl
        have m39_3q113 : Iq113 39 3 = J 39 3 := hqq113.2.2.1 39 3 rfl
        have m5_5q113 : Iq113 5 5 = J 5 5 := hqq113.2.2.1 5 5 rfl
        show jt _ 96 [(0, .ref (b + 5)), (1, .ref (b + 39)), (2, .ref (b + 34)), (3, .int (jI q)), (4, .int (jI e)), (5, .int (jI i)), (6, .int (jI v109))] [] (cmf b f0 Iq113 Aq113) _ _ _
        refine jt_iinc (L' := [(0, .ref (b + 5)), (1, .ref (b + 39)), (2, .ref (b + 34)), (3, .int (jI q)), (4, .int (jI e)), (5, .int (jI (i + 1))), (6, .int (jI v109))]) d_EX_putBody_96 rfl (Nat.le_of_ble_eq_true rfl) rfl ?_
        refine jt_goto (t := 24) d_EX_putBody_99 rfl ?_
        refine jt_sub (L' := [(0, .ref (b + 5)), (1, .ref (b + 39)), (2, .ref (b + 34)), (3, .int (jI q)), (4, .int (jI e)), (5, .int (jI (i + 1)))]) (fun _ h => List.mem_append_left [(6, Value.int (jI v109))] h) ?_
        exact ih (i + 1) Iq113 Aq113 hpq113 (by omega) (hxq113.1 hKJ (by rw [ev112, ev109]; exact tk2)) (by omega)
      · skip
        refine jt_aload_n d_EX_putBody_53 rfl ?_
        refine cm_get (k := 5) (v := .ref (b + 8)) d_EX_putBody_54 EX_f24 (by decide) cc_2 rfl ?_
        refine jt_aload_n d_EX_putBody_57 rfl ?_
        refine jt_aload_n d_EX_putBody_58 rfl ?_
        refine cm_get (k := 5) (v := .ref (b + 12)) d_EX_putBody_59 EX_f28 (by decide) cc_2 rfl ?_
        refine jt_iload d_EX_putBody_62 rfl ?_
        refine cm_ld0 (k := 12) (n := 3) (v := (B 12) v109) d_EX_putBody_64 (by decide) rfl rfl (by omega) (by omega) (by omega) rfl ?_
        refine jt_topi (fun v114 ev114 => ?_)
        have bv114 : 0 ≤ v114 ∧ v114 ≤ 300 := by rw [ev114]; exact hJ.2.1 12 v109
        refine jt_aload_n d_EX_putBody_65 rfl ?_
        refine cm_get (k := 5) (v := .ref (b + 13)) d_EX_putBody_66 EX_f31 (by decide) cc_2 rfl ?_
        refine jt_iload d_EX_putBody_69 rfl ?_
        refine cm_ld0 (k := 13) (n := 3) (v := (B 13) v109) d_EX_putBody_71 (by decide) rfl rfl (by omega) (by omega) (by omega) rfl ?_
        refine jt_topi (fun v115 ev115 => ?_)
        have bv115 : 0 ≤ v115 ∧ v115 ≤ 300 := by rw [ev115]; exact hJ.2.1 13 v109
        refine cct_callV (Y := Y_TR_addAll) (ci := 0) (k := 8) (As := [.ref (b + 39), .int (jI v114), .int (jI v115)]) (rest := []) d_EX_putBody_72 EX_c80 yk_TR_addAll yv_TR_addAll rfl (Nat.le_of_ble_eq_true rfl) (by decide) (cc_1 rfl) rfl rfl (Nat.le_of_ble_eq_true rfl) (v_TR_addAll_8_39 G _ b v114 v115 J B hJ.1 hJ.2.1 (by omega) (by omega)) (fun rvq116 Iq116 Aq116 hq116 => ?_)
        obtain ⟨rfl, hqq116, hxq116⟩ := hq116
        have hpq116 := cPo.trans hJ hqq116 rfl rfl
        have m39_3q116 : Iq116 39 3 = J 39 3 := hqq116.2.2.1 39 3 rfl
        have m5_5q116 : Iq116 5 5 = J 5 5 := hqq116.2.2.1 5 5 rfl
        show jt _ 75 [(0, .ref (b + 5)), (1, .ref (b + 39)), (2, .ref (b + 34)), (3, .int (jI q)), (4, .int (jI e)), (5, .int (jI i)), (6, .int (jI v109))] [] (cmf b f0 Iq116 Aq116) _ _ _
        refine jt_goto (t := 96) d_EX_putBody_75 rfl ?_
        refine jt_iinc (L' := [(0, .ref (b + 5)), (1, .ref (b + 39)), (2, .ref (b + 34)), (3, .int (jI q)), (4, .int (jI e)), (5, .int (jI (i + 1))), (6, .int (jI v109))]) d_EX_putBody_96 rfl (Nat.le_of_ble_eq_true rfl) rfl ?_
        refine jt_goto (t := 24) d_EX_putBody_99 rfl ?_
        refine jt_sub (L' := [(0, .ref (b + 5)), (1, .ref (b + 39)), (2, .ref (b + 34)), (3, .int (jI q)), (4, .int (jI e)), (5, .int (jI (i + 1)))]) (fun _ h => List.mem_append_left [(6, Value.int (jI v109))] h) ?_
        exact ih (i + 1) Iq116 Aq116 hpq116 (by omega) (hxq116 hKJ) (by omega)
set_option maxRecDepth 100000 in
set_option maxHeartbeats 4000000 in
theorem v_EX_putBody_34 (G : jG) (d b : Nat) (q : Int) (I : Nat → Nat → Int) (A : Nat → Int → Int) (hI : cSI I) (hA : cSA A) (hK : cTok A) (hq : 0 ≤ q ∧ q ≤ 301) (ha : I 5 5 < 300) : cct G Y_EX_putBody (d + 2) b [.ref (b + 5), .ref (b + 39), .ref (b + 34), .int (jI q)] I A (fun (rv : Option Value) (I2 : Nat → Nat → Int) (A2 : Nat → Int → Int) => rv = none ∧ cPo [131, 627] [9, 10, 11, 40, 41, 42] I A I2 A2 ∧ cTok A2) := by
  refine cct_of (by decide) (Nat.le_of_ble_eq_true rfl) (fun f0 sz => ?_)
  show jt _ 0 [(0, .ref (b + 5)), (1, .ref (b + 39)), (2, .ref (b + 34)), (3, .int (jI q))] [] _ _ _ _
  have r55 : 0 ≤ I 5 5 ∧ I 5 5 ≤ 300 := hI 5 5
  have hz0 : cPo [131, 627] [9, 10, 11, 40, 41, 42] I A I A := cPo.refl hI hA
  refine jt_aload_n d_EX_putBody_0 rfl ?_
  refine cm_get (k := 39) (v := .ref (b + 42)) d_EX_putBody_1 EX_f58 (by decide) (cc_1 rfl) rfl ?_
  refine jt_aload_n d_EX_putBody_4 rfl ?_
  refine cm_get (k := 5) (v := .int (jI (I 5 5))) d_EX_putBody_5 EX_f42 (by decide) cc_2 rfl ?_
  have rb1 : 0 ≤ I 5 5 ∧ I 5 5 ≤ 300 := hz0.1 5 5
  refine cm_ld0 (k := 42) (n := 300) (v := (A 42) (I 5 5)) d_EX_putBody_8 (by decide) rfl rfl (by omega) (by omega) (by omega) rfl ?_
  refine jt_topi (fun v2 ev2 => ?_)
  have bv2 : -2147483648 ≤ v2 ∧ v2 ≤ 2147483647 := by rw [ev2]; exact hz0.2.1 42 (I 5 5)
  refine jt_iconst d_EX_putBody_9 ?_
  refine jt_iadd d_EX_putBody_10 ?_
  refine jt_topie (fun v3 bv3 ev3 => ?_)
  refine jt_istore (L' := [(0, .ref (b + 5)), (1, .ref (b + 39)), (2, .ref (b + 34)), (3, .int (jI q)), (4, .int (jI v3))]) d_EX_putBody_11 (Nat.le_of_ble_eq_true rfl) rfl ?_
  refine jt_aload_n d_EX_putBody_13 rfl ?_
  refine cm_get (k := 5) (v := .ref (b + 8)) d_EX_putBody_14 EX_f24 (by decide) cc_2 rfl ?_
  refine jt_iconst d_EX_putBody_17 ?_
  refine cm_put (k := 8) (j := 3) (v := 0) d_EX_putBody_18 (EX_w38 _ rfl) (by decide) (cc_1 rfl) rfl rfl (Nat.le_of_ble_eq_true rfl) rfl ?_
  have p4 := cPo.I 8 3 0 hz0 rfl (show 0 ≤ 0 ∧ 0 ≤ 300 by omega)
  refine jt_iconst d_EX_putBody_21 ?_
  refine jt_istore (L' := [(0, .ref (b + 5)), (1, .ref (b + 39)), (2, .ref (b + 34)), (3, .int (jI q)), (4, .int (jI v3)), (5, .int (jI 0))]) d_EX_putBody_22 (Nat.le_of_ble_eq_true rfl) rfl ?_
  exact l24_EX_putBody_34v G d b q I A hI hA hK hq ha f0 sz v3 ((by omega)) 41 0 (cu I 8 3 0) A p4 (by omega) hK (by omega)
set_option maxRecDepth 100000 in
set_option maxHeartbeats 4000000 in
theorem v_EX_replaceCall (G : jG) (d b : Nat)  (I : Nat → Nat → Int) (A : Nat → Int → Int) (hI : cSI I) (hA : cSA A) (hK : cTok A) (ha : I 5 5 < I 39 3) (hc : A 40 (I 5 5) = 3) (hr : I 5 6 ≤ 100) : cct G Y_EX_replaceCall (d + 3) b [.ref (b + 5), .ref (b + 39)] I A (fun (rv : Option Value) (I2 : Nat → Nat → Int) (A2 : Nat → Int → Int) => ∃ y : Int, rv = some (.int (jI y)) ∧ (-13 ≤ y ∧ y ≤ 0) ∧ cPo [86, 131, 627] [9, 10, 11, 12, 13, 40, 41, 42] I A I2 A2 ∧ cTok A2 ∧ (y = 0 → I2 5 6 ≤ 100)) := by
  refine cct_of (by decide) (Nat.le_of_ble_eq_true rfl) (fun f0 sz => ?_)
  show jt _ 0 [(0, .ref (b + 5)), (1, .ref (b + 39))] [] _ _ _ _
  have r55 : 0 ≤ I 5 5 ∧ I 5 5 ≤ 300 := hI 5 5
  have r39 : 0 ≤ I 39 3 ∧ I 39 3 ≤ 300 := hI 39 3
  have r56 : 0 ≤ I 5 6 ∧ I 5 6 ≤ 101 := hI 5 6
  have hz0 : cPo [86, 131, 627] [9, 10, 11, 12, 13, 40, 41, 42] I A I A := cPo.refl hI hA
  have tk : gtok (A 40 (I 5 5)) (A 41 (I 5 5)) := hK 39 rfl (I 5 5)
  unfold gtok at tk
  refine jt_aload_n d_EX_replaceCall_0 rfl ?_
  refine cm_get (k := 39) (v := .ref (b + 41)) d_EX_replaceCall_1 EX_f55 (by decide) (cc_1 rfl) rfl ?_
  refine jt_aload_n d_EX_replaceCall_4 rfl ?_
  refine cm_get (k := 5) (v := .int (jI (I 5 5))) d_EX_replaceCall_5 EX_f42 (by decide) cc_2 rfl ?_
  have rb1 : 0 ≤ I 5 5 ∧ I 5 5 ≤ 300 := hz0.1 5 5
  refine cm_ld0 (k := 41) (n := 300) (v := (A 41) (I 5 5)) d_EX_replaceCall_8 (by decide) rfl rfl (by omega) (by omega) (by omega) rfl ?_
  refine jt_topi (fun v2 ev2 => ?_)
  have bv2 : -2147483648 ≤ v2 ∧ v2 ≤ 2147483647 := by rw [ev2]; exact hz0.2.1 41 (I 5 5)
  refine jt_istore_n (L' := [(0, .ref (b + 5)), (1, .ref (b + 39)), (2, .int (jI v2))]) d_EX_replaceCall_9 (Nat.le_of_ble_eq_true rfl) rfl ?_
  refine jt_aload_n d_EX_replaceCall_10 rfl ?_
  refine cm_get (k := 5) (v := .ref (b + 7)) d_EX_replaceCall_11 EX_f17 (by decide) cc_2 rfl ?_
  refine jt_iload_n d_EX_replaceCall_14 rfl ?_
  refine cm_ld0 (k := 7) (n := 6) (v := (A 7) v2) d_EX_replaceCall_15 (by decide) rfl rfl (by omega) (by omega) (by omega) rfl ?_
  refine jt_topi (fun v3 ev3 => ?_)
  have bv3 : -1 ≤ v3 ∧ v3 ≤ 3 := by rw [ev3]; exact hz0.2.1 7 v2
  refine jt_iconst d_EX_replaceCall_16 ?_
  refine jt_icmp_ne (t := 23) d_EX_replaceCall_17 rfl (by unfold jRi; omega) (by unfold jRi; omega) (fun c4 => ?_) (fun c4 => ?_)
  · skip
    refine jt_aload_n d_EX_replaceCall_23 rfl ?_
    refine cm_get (k := 39) (v := .ref (b + 42)) d_EX_replaceCall_24 EX_f58 (by decide) (cc_1 rfl) rfl ?_
    refine jt_aload_n d_EX_replaceCall_27 rfl ?_
    refine cm_get (k := 5) (v := .int (jI (I 5 5))) d_EX_replaceCall_28 EX_f42 (by decide) cc_2 rfl ?_
    refine cm_ld0 (k := 42) (n := 300) (v := (A 42) (I 5 5)) d_EX_replaceCall_31 (by decide) rfl rfl (by omega) (by omega) (by omega) rfl ?_
    refine jt_topi (fun v5 ev5 => ?_)
    have bv5 : -2147483648 ≤ v5 ∧ v5 ≤ 2147483647 := by rw [ev5]; exact hz0.2.1 42 (I 5 5)
    refine jt_bipush d_EX_replaceCall_32 (by omega) ?_
    refine jt_icmp_lt (t := 40) d_EX_replaceCall_34 rfl (by unfold jRi; omega) (by unfold jRi; omega) (fun c6 => ?_) (fun c6 => ?_)
    · skip
      refine jt_aload_n d_EX_replaceCall_40 rfl ?_
      refine cm_get (k := 5) (v := .ref (b + 7)) d_EX_replaceCall_41 EX_f17 (by decide) cc_2 rfl ?_
      refine jt_iload_n d_EX_replaceCall_44 rfl ?_
      refine cm_ld0 (k := 7) (n := 6) (v := (A 7) v2) d_EX_replaceCall_45 (by decide) rfl rfl (by omega) (by omega) (by omega) rfl ?_
      refine jt_topi (fun v7 ev7 => ?_)
      have bv7 : -1 ≤ v7 ∧ v7 ≤ 3 := by rw [ev7]; exact hz0.2.1 7 v2
      refine jt_if_ne (t := 58) d_EX_replaceCall_46 rfl (by unfold jRi; omega) (fun c8 => ?_) (fun c8 => ?_)
      · skip
        refine jt_aload_n d_EX_replaceCall_58 rfl ?_
        refine jt_aload_n d_EX_replaceCall_59 rfl ?_
        refine jt_aload_n d_EX_replaceCall_60 rfl ?_
        refine cm_get (k := 5) (v := .ref (b + 7)) d_EX_replaceCall_61 EX_f17 (by decide) cc_2 rfl ?_
        refine jt_iload_n d_EX_replaceCall_64 rfl ?_
        refine cm_ld0 (k := 7) (n := 6) (v := (A 7) v2) d_EX_replaceCall_65 (by decide) rfl rfl (by omega) (by omega) (by omega) rfl ?_
        refine jt_topi (fun v9 ev9 => ?_)
        have bv9 : -1 ≤ v9 ∧ v9 ≤ 3 := by rw [ev9]; exact hz0.2.1 7 v2
        refine cct_callV (Y := Y_EX_findArguments) (ci := 1) (k := 5) (As := [.ref (b + 39), .int (jI v9)]) (rest := []) d_EX_replaceCall_66 EX_c61 yk_EX_findArguments yv_EX_findArguments rfl (Nat.le_of_ble_eq_true rfl) (by decide) cc_2 rfl rfl (Nat.le_of_ble_eq_true rfl) (v_EX_findArguments G _ b v9 I A hz0.1 hz0.2.1 (by omega)) (fun rvq10 Iq10 Aq10 hq10 => ?_)
        obtain ⟨yq10, rfl, ryq10, hqq10⟩ := hq10
        have hpq10 := cPo.trans hz0 hqq10 rfl rfl
        have m5_5q10 : Iq10 5 5 = I 5 5 := hqq10.2.2.1 5 5 rfl
        have m5_6q10 : Iq10 5 6 = I 5 6 := hqq10.2.2.1 5 6 rfl
        have m39_3q10 : Iq10 39 3 = I 39 3 := hqq10.2.2.1 39 3 rfl
        show jt _ 69 [(0, .ref (b + 5)), (1, .ref (b + 39)), (2, .int (jI v2))] [.int (jI yq10)] (cmf b f0 Iq10 Aq10) _ _ _
        refine jt_istore_n (L' := [(0, .ref (b + 5)), (1, .ref (b + 39)), (2, .int (jI v2)), (3, .int (jI yq10))]) d_EX_replaceCall_69 (Nat.le_of_ble_eq_true rfl) rfl ?_
        refine jt_iload_n d_EX_replaceCall_70 rfl ?_
        refine jt_bipush d_EX_replaceCall_71 (by omega) ?_
        refine jt_icmp_ne (t := 79) d_EX_replaceCall_73 rfl (by unfold jRi; omega) (by unfold jRi; omega) (fun c11 => ?_) (fun c11 => ?_)
        · skip
          refine jt_aload_n d_EX_replaceCall_79 rfl ?_
          refine jt_dup d_EX_replaceCall_80 rfl ?_
          refine cm_get (k := 5) (v := .int (jI (Iq10 5 6))) d_EX_replaceCall_81 EX_f45 (by decide) cc_2 rfl ?_
          have rb12 : 0 ≤ Iq10 5 6 ∧ Iq10 5 6 ≤ 101 := hpq10.1 5 6
          refine jt_iconst d_EX_replaceCall_84 ?_
          refine jt_iadd d_EX_replaceCall_85 ?_
          refine jt_topi (fun v13 ev13 => ?_)
          refine cm_put (k := 5) (j := 6) (v := v13) d_EX_replaceCall_86 (EX_w45 _ rfl) (by decide) cc_2 rfl rfl (Nat.le_of_ble_eq_true rfl) rfl ?_
          have p14 := cPo.I 5 6 v13 hpq10 rfl (show 0 ≤ v13 ∧ v13 ≤ 101 by omega)
          refine jt_aload_n d_EX_replaceCall_89 rfl ?_
          refine jt_aload_n d_EX_replaceCall_90 rfl ?_
          refine jt_aload_n d_EX_replaceCall_91 rfl ?_
          refine cm_get (k := 5) (v := .ref (b + 6)) d_EX_replaceCall_92 EX_f13 (by decide) cc_2 rfl ?_
          refine jt_iload_n d_EX_replaceCall_95 rfl ?_
          have h6 : v2 = 0 ∨ v2 = 1 ∨ v2 = 2 ∨ v2 = 3 ∨ v2 = 4 ∨ v2 = 5 := by omega
          rcases h6 with h6 | h6 | h6 | h6 | h6 | h6
          · skip
            subst h6
            refine cm_ldT (z := 0) d_EX_replaceCall_96 (by omega) (by omega) ?_
            show jt _ 97 [(0, .ref (b + 5)), (1, .ref (b + 39)), (2, .int (jI 0)), (3, .int (jI yq10))] [.ref (b + 14), .ref (b + 39), .ref (b + 5)] (cmf b f0 (cu Iq10 5 6 v13) Aq10) _ _ _
            refine jt_iload_n d_EX_replaceCall_97 rfl ?_
            refine cct_callV (Y := Y_EX_lengthAfter) (ci := 1) (k := 5) (As := [.ref (b + 39), .ref (b + 14), .int (jI yq10)]) (rest := []) d_EX_replaceCall_98 EX_c65 yk_EX_lengthAfter yv_EX_lengthAfter rfl (Nat.le_of_ble_eq_true rfl) (by decide) cc_2 rfl rfl (Nat.le_of_ble_eq_true rfl) (v_EX_lengthAfter_14 G _ b yq10 (cu Iq10 5 6 v13) Aq10 p14.1 p14.2.1 (cTok_of hqq10 hK rfl) (by omega)) (fun rvq15 Iq15 Aq15 hq15 => ?_)
            obtain ⟨yq15, rfl, ryq15, hqq15⟩ := hq15
            have hpq15 := cPo.trans p14 hqq15 rfl rfl
            have m5_5q15 : Iq15 5 5 = Iq10 5 5 := hqq15.2.2.1 5 5 rfl
            have m5_6q15 : Iq15 5 6 = v13 := hqq15.2.2.1 5 6 rfl
            have m39_3q15 : Iq15 39 3 = Iq10 39 3 := hqq15.2.2.1 39 3 rfl
            show jt _ 101 [(0, .ref (b + 5)), (1, .ref (b + 39)), (2, .int (jI 0)), (3, .int (jI yq10))] [.int (jI yq15)] (cmf b f0 Iq15 Aq15) _ _ _
            refine jt_sipush d_EX_replaceCall_101 (by omega) ?_
            refine jt_icmp_gt (t := 116) d_EX_replaceCall_104 rfl (by unfold jRi; omega) (by unfold jRi; omega) (fun c16 => ?_) (fun c16 => ?_)
            · skip
              refine jt_bipush d_EX_replaceCall_116 (by omega) ?_
              exact cm_ret d_EX_replaceCall_118 rfl rfl (⟨-7, rfl, by omega, hpq15, (cTok_of hqq15 (cTok_of hqq10 hK rfl) rfl), show -7 = 0 → Iq15 5 6 ≤ 100 by omega⟩)
            · skip
              refine jt_aload_n d_EX_replaceCall_107 rfl ?_
              refine cm_get (k := 5) (v := .int (jI (Iq15 5 6))) d_EX_replaceCall_108 EX_f45 (by decide) cc_2 rfl ?_
              have rb17 : 0 ≤ Iq15 5 6 ∧ Iq15 5 6 ≤ 101 := hpq15.1 5 6
              refine jt_bipush d_EX_replaceCall_111 (by omega) ?_
              refine jt_icmp_le (t := 119) d_EX_replaceCall_113 rfl (by unfold jRi; omega) (by unfold jRi; omega) (fun c18 => ?_) (fun c18 => ?_)
              · skip
                refine jt_aload_n d_EX_replaceCall_119 rfl ?_
                refine jt_aload_n d_EX_replaceCall_120 rfl ?_
                refine jt_aload_n d_EX_replaceCall_121 rfl ?_
                refine cm_get (k := 5) (v := .ref (b + 6)) d_EX_replaceCall_122 EX_f13 (by decide) cc_2 rfl ?_
                refine jt_iload_n d_EX_replaceCall_125 rfl ?_
                refine cm_ldT (z := 0) d_EX_replaceCall_126 (by omega) (by omega) ?_
                show jt _ 127 [(0, .ref (b + 5)), (1, .ref (b + 39)), (2, .int (jI 0)), (3, .int (jI yq10))] [.ref (b + 14), .ref (b + 39), .ref (b + 5)] (cmf b f0 Iq15 Aq15) _ _ _
                refine jt_iload_n d_EX_replaceCall_127 rfl ?_
                refine cct_callV (Y := Y_EX_putBody) (ci := 1) (k := 5) (As := [.ref (b + 39), .ref (b + 14), .int (jI yq10)]) (rest := []) d_EX_replaceCall_128 EX_c69 yk_EX_putBody yv_EX_putBody rfl (Nat.le_of_ble_eq_true rfl) (by decide) cc_2 rfl rfl (Nat.le_of_ble_eq_true rfl) (v_EX_putBody_14 G _ b yq10 Iq15 Aq15 hpq15.1 hpq15.2.1 (cTok_of hqq15 (cTok_of hqq10 hK rfl) rfl) (by omega) (show Iq15 5 5 < 300 by omega)) (fun rvq19 Iq19 Aq19 hq19 => ?_)
                obtain ⟨rfl, hqq19, hxq19⟩ := hq19
                have hpq19 := cPo.trans hpq15 hqq19 rfl rfl
                have m5_5q19 : Iq19 5 5 = Iq15 5 5 := hqq19.2.2.1 5 5 rfl
                have m5_6q19 : Iq19 5 6 = Iq15 5 6 := hqq19.2.2.1 5 6 rfl
                show jt _ 131 [(0, .ref (b + 5)), (1, .ref (b + 39)), (2, .int (jI 0)), (3, .int (jI yq10))] [] (cmf b f0 Iq19 Aq19) _ _ _
                refine jt_iconst d_EX_replaceCall_131 ?_
                exact cm_ret d_EX_replaceCall_132 rfl rfl (⟨0, rfl, by omega, hpq19, hxq19, show 0 = 0 → Iq19 5 6 ≤ 100 by omega⟩)
              · skip
                refine jt_bipush d_EX_replaceCall_116 (by omega) ?_
                exact cm_ret d_EX_replaceCall_118 rfl rfl (⟨-7, rfl, by omega, hpq15, (cTok_of hqq15 (cTok_of hqq10 hK rfl) rfl), show -7 = 0 → Iq15 5 6 ≤ 100 by omega⟩)
          · skip
            subst h6
            refine cm_ldT (z := 1) d_EX_replaceCall_96 (by omega) (by omega) ?_
            show jt _ 97 [(0, .ref (b + 5)), (1, .ref (b + 39)), (2, .int (jI 1)), (3, .int (jI yq10))] [.ref (b + 18), .ref (b + 39), .ref (b + 5)] (cmf b f0 (cu Iq10 5 6 v13) Aq10) _ _ _
            refine jt_iload_n d_EX_replaceCall_97 rfl ?_
            refine cct_callV (Y := Y_EX_lengthAfter) (ci := 1) (k := 5) (As := [.ref (b + 39), .ref (b + 18), .int (jI yq10)]) (rest := []) d_EX_replaceCall_98 EX_c65 yk_EX_lengthAfter yv_EX_lengthAfter rfl (Nat.le_of_ble_eq_true rfl) (by decide) cc_2 rfl rfl (Nat.le_of_ble_eq_true rfl) (v_EX_lengthAfter_18 G _ b yq10 (cu Iq10 5 6 v13) Aq10 p14.1 p14.2.1 (cTok_of hqq10 hK rfl) (by omega)) (fun rvq20 Iq20 Aq20 hq20 => ?_)
            obtain ⟨yq20, rfl, ryq20, hqq20⟩ := hq20
            have hpq20 := cPo.trans p14 hqq20 rfl rfl
            have m5_5q20 : Iq20 5 5 = Iq10 5 5 := hqq20.2.2.1 5 5 rfl
            have m5_6q20 : Iq20 5 6 = v13 := hqq20.2.2.1 5 6 rfl
            have m39_3q20 : Iq20 39 3 = Iq10 39 3 := hqq20.2.2.1 39 3 rfl
            show jt _ 101 [(0, .ref (b + 5)), (1, .ref (b + 39)), (2, .int (jI 1)), (3, .int (jI yq10))] [.int (jI yq20)] (cmf b f0 Iq20 Aq20) _ _ _
            refine jt_sipush d_EX_replaceCall_101 (by omega) ?_
            refine jt_icmp_gt (t := 116) d_EX_replaceCall_104 rfl (by unfold jRi; omega) (by unfold jRi; omega) (fun c21 => ?_) (fun c21 => ?_)
            · skip
              refine jt_bipush d_EX_replaceCall_116 (by omega) ?_
              exact cm_ret d_EX_replaceCall_118 rfl rfl (⟨-7, rfl, by omega, hpq20, (cTok_of hqq20 (cTok_of hqq10 hK rfl) rfl), show -7 = 0 → Iq20 5 6 ≤ 100 by omega⟩)
            · skip
              refine jt_aload_n d_EX_replaceCall_107 rfl ?_
              refine cm_get (k := 5) (v := .int (jI (Iq20 5 6))) d_EX_replaceCall_108 EX_f45 (by decide) cc_2 rfl ?_
              have rb22 : 0 ≤ Iq20 5 6 ∧ Iq20 5 6 ≤ 101 := hpq20.1 5 6
              refine jt_bipush d_EX_replaceCall_111 (by omega) ?_
              refine jt_icmp_le (t := 119) d_EX_replaceCall_113 rfl (by unfold jRi; omega) (by unfold jRi; omega) (fun c23 => ?_) (fun c23 => ?_)
              · skip
                refine jt_aload_n d_EX_replaceCall_119 rfl ?_
                refine jt_aload_n d_EX_replaceCall_120 rfl ?_
                refine jt_aload_n d_EX_replaceCall_121 rfl ?_
                refine cm_get (k := 5) (v := .ref (b + 6)) d_EX_replaceCall_122 EX_f13 (by decide) cc_2 rfl ?_
                refine jt_iload_n d_EX_replaceCall_125 rfl ?_
                refine cm_ldT (z := 1) d_EX_replaceCall_126 (by omega) (by omega) ?_
                show jt _ 127 [(0, .ref (b + 5)), (1, .ref (b + 39)), (2, .int (jI 1)), (3, .int (jI yq10))] [.ref (b + 18), .ref (b + 39), .ref (b + 5)] (cmf b f0 Iq20 Aq20) _ _ _
                refine jt_iload_n d_EX_replaceCall_127 rfl ?_
                refine cct_callV (Y := Y_EX_putBody) (ci := 1) (k := 5) (As := [.ref (b + 39), .ref (b + 18), .int (jI yq10)]) (rest := []) d_EX_replaceCall_128 EX_c69 yk_EX_putBody yv_EX_putBody rfl (Nat.le_of_ble_eq_true rfl) (by decide) cc_2 rfl rfl (Nat.le_of_ble_eq_true rfl) (v_EX_putBody_18 G _ b yq10 Iq20 Aq20 hpq20.1 hpq20.2.1 (cTok_of hqq20 (cTok_of hqq10 hK rfl) rfl) (by omega) (show Iq20 5 5 < 300 by omega)) (fun rvq24 Iq24 Aq24 hq24 => ?_)
                obtain ⟨rfl, hqq24, hxq24⟩ := hq24
                have hpq24 := cPo.trans hpq20 hqq24 rfl rfl
                have m5_5q24 : Iq24 5 5 = Iq20 5 5 := hqq24.2.2.1 5 5 rfl
                have m5_6q24 : Iq24 5 6 = Iq20 5 6 := hqq24.2.2.1 5 6 rfl
                show jt _ 131 [(0, .ref (b + 5)), (1, .ref (b + 39)), (2, .int (jI 1)), (3, .int (jI yq10))] [] (cmf b f0 Iq24 Aq24) _ _ _
                refine jt_iconst d_EX_replaceCall_131 ?_
                exact cm_ret d_EX_replaceCall_132 rfl rfl (⟨0, rfl, by omega, hpq24, hxq24, show 0 = 0 → Iq24 5 6 ≤ 100 by omega⟩)
              · skip
                refine jt_bipush d_EX_replaceCall_116 (by omega) ?_
                exact cm_ret d_EX_replaceCall_118 rfl rfl (⟨-7, rfl, by omega, hpq20, (cTok_of hqq20 (cTok_of hqq10 hK rfl) rfl), show -7 = 0 → Iq20 5 6 ≤ 100 by omega⟩)
          · skip
            subst h6
            refine cm_ldT (z := 2) d_EX_replaceCall_96 (by omega) (by omega) ?_
            show jt _ 97 [(0, .ref (b + 5)), (1, .ref (b + 39)), (2, .int (jI 2)), (3, .int (jI yq10))] [.ref (b + 22), .ref (b + 39), .ref (b + 5)] (cmf b f0 (cu Iq10 5 6 v13) Aq10) _ _ _
            refine jt_iload_n d_EX_replaceCall_97 rfl ?_
            refine cct_callV (Y := Y_EX_lengthAfter) (ci := 1) (k := 5) (As := [.ref (b + 39), .ref (b + 22), .int (jI yq10)]) (rest := []) d_EX_replaceCall_98 EX_c65 yk_EX_lengthAfter yv_EX_lengthAfter rfl (Nat.le_of_ble_eq_true rfl) (by decide) cc_2 rfl rfl (Nat.le_of_ble_eq_true rfl) (v_EX_lengthAfter_22 G _ b yq10 (cu Iq10 5 6 v13) Aq10 p14.1 p14.2.1 (cTok_of hqq10 hK rfl) (by omega)) (fun rvq25 Iq25 Aq25 hq25 => ?_)
            obtain ⟨yq25, rfl, ryq25, hqq25⟩ := hq25
            have hpq25 := cPo.trans p14 hqq25 rfl rfl
            have m5_5q25 : Iq25 5 5 = Iq10 5 5 := hqq25.2.2.1 5 5 rfl
            have m5_6q25 : Iq25 5 6 = v13 := hqq25.2.2.1 5 6 rfl
            have m39_3q25 : Iq25 39 3 = Iq10 39 3 := hqq25.2.2.1 39 3 rfl
            show jt _ 101 [(0, .ref (b + 5)), (1, .ref (b + 39)), (2, .int (jI 2)), (3, .int (jI yq10))] [.int (jI yq25)] (cmf b f0 Iq25 Aq25) _ _ _
            refine jt_sipush d_EX_replaceCall_101 (by omega) ?_
            refine jt_icmp_gt (t := 116) d_EX_replaceCall_104 rfl (by unfold jRi; omega) (by unfold jRi; omega) (fun c26 => ?_) (fun c26 => ?_)
            · skip
              refine jt_bipush d_EX_replaceCall_116 (by omega) ?_
              exact cm_ret d_EX_replaceCall_118 rfl rfl (⟨-7, rfl, by omega, hpq25, (cTok_of hqq25 (cTok_of hqq10 hK rfl) rfl), show -7 = 0 → Iq25 5 6 ≤ 100 by omega⟩)
            · skip
              refine jt_aload_n d_EX_replaceCall_107 rfl ?_
              refine cm_get (k := 5) (v := .int (jI (Iq25 5 6))) d_EX_replaceCall_108 EX_f45 (by decide) cc_2 rfl ?_
              have rb27 : 0 ≤ Iq25 5 6 ∧ Iq25 5 6 ≤ 101 := hpq25.1 5 6
              refine jt_bipush d_EX_replaceCall_111 (by omega) ?_
              refine jt_icmp_le (t := 119) d_EX_replaceCall_113 rfl (by unfold jRi; omega) (by unfold jRi; omega) (fun c28 => ?_) (fun c28 => ?_)
              · skip
                refine jt_aload_n d_EX_replaceCall_119 rfl ?_
                refine jt_aload_n d_EX_replaceCall_120 rfl ?_
                refine jt_aload_n d_EX_replaceCall_121 rfl ?_
                refine cm_get (k := 5) (v := .ref (b + 6)) d_EX_replaceCall_122 EX_f13 (by decide) cc_2 rfl ?_
                refine jt_iload_n d_EX_replaceCall_125 rfl ?_
                refine cm_ldT (z := 2) d_EX_replaceCall_126 (by omega) (by omega) ?_
                show jt _ 127 [(0, .ref (b + 5)), (1, .ref (b + 39)), (2, .int (jI 2)), (3, .int (jI yq10))] [.ref (b + 22), .ref (b + 39), .ref (b + 5)] (cmf b f0 Iq25 Aq25) _ _ _
                refine jt_iload_n d_EX_replaceCall_127 rfl ?_
                refine cct_callV (Y := Y_EX_putBody) (ci := 1) (k := 5) (As := [.ref (b + 39), .ref (b + 22), .int (jI yq10)]) (rest := []) d_EX_replaceCall_128 EX_c69 yk_EX_putBody yv_EX_putBody rfl (Nat.le_of_ble_eq_true rfl) (by decide) cc_2 rfl rfl (Nat.le_of_ble_eq_true rfl) (v_EX_putBody_22 G _ b yq10 Iq25 Aq25 hpq25.1 hpq25.2.1 (cTok_of hqq25 (cTok_of hqq10 hK rfl) rfl) (by omega) (show Iq25 5 5 < 300 by omega)) (fun rvq29 Iq29 Aq29 hq29 => ?_)
                obtain ⟨rfl, hqq29, hxq29⟩ := hq29
                have hpq29 := cPo.trans hpq25 hqq29 rfl rfl
                have m5_5q29 : Iq29 5 5 = Iq25 5 5 := hqq29.2.2.1 5 5 rfl
                have m5_6q29 : Iq29 5 6 = Iq25 5 6 := hqq29.2.2.1 5 6 rfl
                show jt _ 131 [(0, .ref (b + 5)), (1, .ref (b + 39)), (2, .int (jI 2)), (3, .int (jI yq10))] [] (cmf b f0 Iq29 Aq29) _ _ _
                refine jt_iconst d_EX_replaceCall_131 ?_
                exact cm_ret d_EX_replaceCall_132 rfl rfl (⟨0, rfl, by omega, hpq29, hxq29, show 0 = 0 → Iq29 5 6 ≤ 100 by omega⟩)
              · skip
                refine jt_bipush d_EX_replaceCall_116 (by omega) ?_
                exact cm_ret d_EX_replaceCall_118 rfl rfl (⟨-7, rfl, by omega, hpq25, (cTok_of hqq25 (cTok_of hqq10 hK rfl) rfl), show -7 = 0 → Iq25 5 6 ≤ 100 by omega⟩)
          · skip
            subst h6
            refine cm_ldT (z := 3) d_EX_replaceCall_96 (by omega) (by omega) ?_
            show jt _ 97 [(0, .ref (b + 5)), (1, .ref (b + 39)), (2, .int (jI 3)), (3, .int (jI yq10))] [.ref (b + 26), .ref (b + 39), .ref (b + 5)] (cmf b f0 (cu Iq10 5 6 v13) Aq10) _ _ _
            refine jt_iload_n d_EX_replaceCall_97 rfl ?_
            refine cct_callV (Y := Y_EX_lengthAfter) (ci := 1) (k := 5) (As := [.ref (b + 39), .ref (b + 26), .int (jI yq10)]) (rest := []) d_EX_replaceCall_98 EX_c65 yk_EX_lengthAfter yv_EX_lengthAfter rfl (Nat.le_of_ble_eq_true rfl) (by decide) cc_2 rfl rfl (Nat.le_of_ble_eq_true rfl) (v_EX_lengthAfter_26 G _ b yq10 (cu Iq10 5 6 v13) Aq10 p14.1 p14.2.1 (cTok_of hqq10 hK rfl) (by omega)) (fun rvq30 Iq30 Aq30 hq30 => ?_)
            obtain ⟨yq30, rfl, ryq30, hqq30⟩ := hq30
            have hpq30 := cPo.trans p14 hqq30 rfl rfl
            have m5_5q30 : Iq30 5 5 = Iq10 5 5 := hqq30.2.2.1 5 5 rfl
            have m5_6q30 : Iq30 5 6 = v13 := hqq30.2.2.1 5 6 rfl
            have m39_3q30 : Iq30 39 3 = Iq10 39 3 := hqq30.2.2.1 39 3 rfl
            show jt _ 101 [(0, .ref (b + 5)), (1, .ref (b + 39)), (2, .int (jI 3)), (3, .int (jI yq10))] [.int (jI yq30)] (cmf b f0 Iq30 Aq30) _ _ _
            refine jt_sipush d_EX_replaceCall_101 (by omega) ?_
            refine jt_icmp_gt (t := 116) d_EX_replaceCall_104 rfl (by unfold jRi; omega) (by unfold jRi; omega) (fun c31 => ?_) (fun c31 => ?_)
            · skip
              refine jt_bipush d_EX_replaceCall_116 (by omega) ?_
              exact cm_ret d_EX_replaceCall_118 rfl rfl (⟨-7, rfl, by omega, hpq30, (cTok_of hqq30 (cTok_of hqq10 hK rfl) rfl), show -7 = 0 → Iq30 5 6 ≤ 100 by omega⟩)
            · skip
              refine jt_aload_n d_EX_replaceCall_107 rfl ?_
              refine cm_get (k := 5) (v := .int (jI (Iq30 5 6))) d_EX_replaceCall_108 EX_f45 (by decide) cc_2 rfl ?_
              have rb32 : 0 ≤ Iq30 5 6 ∧ Iq30 5 6 ≤ 101 := hpq30.1 5 6
              refine jt_bipush d_EX_replaceCall_111 (by omega) ?_
              refine jt_icmp_le (t := 119) d_EX_replaceCall_113 rfl (by unfold jRi; omega) (by unfold jRi; omega) (fun c33 => ?_) (fun c33 => ?_)
              · skip
                refine jt_aload_n d_EX_replaceCall_119 rfl ?_
                refine jt_aload_n d_EX_replaceCall_120 rfl ?_
                refine jt_aload_n d_EX_replaceCall_121 rfl ?_
                refine cm_get (k := 5) (v := .ref (b + 6)) d_EX_replaceCall_122 EX_f13 (by decide) cc_2 rfl ?_
                refine jt_iload_n d_EX_replaceCall_125 rfl ?_
                refine cm_ldT (z := 3) d_EX_replaceCall_126 (by omega) (by omega) ?_
                show jt _ 127 [(0, .ref (b + 5)), (1, .ref (b + 39)), (2, .int (jI 3)), (3, .int (jI yq10))] [.ref (b + 26), .ref (b + 39), .ref (b + 5)] (cmf b f0 Iq30 Aq30) _ _ _
                refine jt_iload_n d_EX_replaceCall_127 rfl ?_
                refine cct_callV (Y := Y_EX_putBody) (ci := 1) (k := 5) (As := [.ref (b + 39), .ref (b + 26), .int (jI yq10)]) (rest := []) d_EX_replaceCall_128 EX_c69 yk_EX_putBody yv_EX_putBody rfl (Nat.le_of_ble_eq_true rfl) (by decide) cc_2 rfl rfl (Nat.le_of_ble_eq_true rfl) (v_EX_putBody_26 G _ b yq10 Iq30 Aq30 hpq30.1 hpq30.2.1 (cTok_of hqq30 (cTok_of hqq10 hK rfl) rfl) (by omega) (show Iq30 5 5 < 300 by omega)) (fun rvq34 Iq34 Aq34 hq34 => ?_)
                obtain ⟨rfl, hqq34, hxq34⟩ := hq34
                have hpq34 := cPo.trans hpq30 hqq34 rfl rfl
                have m5_5q34 : Iq34 5 5 = Iq30 5 5 := hqq34.2.2.1 5 5 rfl
                have m5_6q34 : Iq34 5 6 = Iq30 5 6 := hqq34.2.2.1 5 6 rfl
                show jt _ 131 [(0, .ref (b + 5)), (1, .ref (b + 39)), (2, .int (jI 3)), (3, .int (jI yq10))] [] (cmf b f0 Iq34 Aq34) _ _ _
                refine jt_iconst d_EX_replaceCall_131 ?_
                exact cm_ret d_EX_replaceCall_132 rfl rfl (⟨0, rfl, by omega, hpq34, hxq34, show 0 = 0 → Iq34 5 6 ≤ 100 by omega⟩)
              · skip
                refine jt_bipush d_EX_replaceCall_116 (by omega) ?_
                exact cm_ret d_EX_replaceCall_118 rfl rfl (⟨-7, rfl, by omega, hpq30, (cTok_of hqq30 (cTok_of hqq10 hK rfl) rfl), show -7 = 0 → Iq30 5 6 ≤ 100 by omega⟩)
          · skip
            subst h6
            refine cm_ldT (z := 4) d_EX_replaceCall_96 (by omega) (by omega) ?_
            show jt _ 97 [(0, .ref (b + 5)), (1, .ref (b + 39)), (2, .int (jI 4)), (3, .int (jI yq10))] [.ref (b + 30), .ref (b + 39), .ref (b + 5)] (cmf b f0 (cu Iq10 5 6 v13) Aq10) _ _ _
            refine jt_iload_n d_EX_replaceCall_97 rfl ?_
            refine cct_callV (Y := Y_EX_lengthAfter) (ci := 1) (k := 5) (As := [.ref (b + 39), .ref (b + 30), .int (jI yq10)]) (rest := []) d_EX_replaceCall_98 EX_c65 yk_EX_lengthAfter yv_EX_lengthAfter rfl (Nat.le_of_ble_eq_true rfl) (by decide) cc_2 rfl rfl (Nat.le_of_ble_eq_true rfl) (v_EX_lengthAfter_30 G _ b yq10 (cu Iq10 5 6 v13) Aq10 p14.1 p14.2.1 (cTok_of hqq10 hK rfl) (by omega)) (fun rvq35 Iq35 Aq35 hq35 => ?_)
            obtain ⟨yq35, rfl, ryq35, hqq35⟩ := hq35
            have hpq35 := cPo.trans p14 hqq35 rfl rfl
            have m5_5q35 : Iq35 5 5 = Iq10 5 5 := hqq35.2.2.1 5 5 rfl
            have m5_6q35 : Iq35 5 6 = v13 := hqq35.2.2.1 5 6 rfl
            have m39_3q35 : Iq35 39 3 = Iq10 39 3 := hqq35.2.2.1 39 3 rfl
            show jt _ 101 [(0, .ref (b + 5)), (1, .ref (b + 39)), (2, .int (jI 4)), (3, .int (jI yq10))] [.int (jI yq35)] (cmf b f0 Iq35 Aq35) _ _ _
            refine jt_sipush d_EX_replaceCall_101 (by omega) ?_
            refine jt_icmp_gt (t := 116) d_EX_replaceCall_104 rfl (by unfold jRi; omega) (by unfold jRi; omega) (fun c36 => ?_) (fun c36 => ?_)
            · skip
              refine jt_bipush d_EX_replaceCall_116 (by omega) ?_
              exact cm_ret d_EX_replaceCall_118 rfl rfl (⟨-7, rfl, by omega, hpq35, (cTok_of hqq35 (cTok_of hqq10 hK rfl) rfl), show -7 = 0 → Iq35 5 6 ≤ 100 by omega⟩)
            · skip
              refine jt_aload_n d_EX_replaceCall_107 rfl ?_
              refine cm_get (k := 5) (v := .int (jI (Iq35 5 6))) d_EX_replaceCall_108 EX_f45 (by decide) cc_2 rfl ?_
              have rb37 : 0 ≤ Iq35 5 6 ∧ Iq35 5 6 ≤ 101 := hpq35.1 5 6
              refine jt_bipush d_EX_replaceCall_111 (by omega) ?_
              refine jt_icmp_le (t := 119) d_EX_replaceCall_113 rfl (by unfold jRi; omega) (by unfold jRi; omega) (fun c38 => ?_) (fun c38 => ?_)
              · skip
                refine jt_aload_n d_EX_replaceCall_119 rfl ?_
                refine jt_aload_n d_EX_replaceCall_120 rfl ?_
                refine jt_aload_n d_EX_replaceCall_121 rfl ?_
                refine cm_get (k := 5) (v := .ref (b + 6)) d_EX_replaceCall_122 EX_f13 (by decide) cc_2 rfl ?_
                refine jt_iload_n d_EX_replaceCall_125 rfl ?_
                refine cm_ldT (z := 4) d_EX_replaceCall_126 (by omega) (by omega) ?_
                show jt _ 127 [(0, .ref (b + 5)), (1, .ref (b + 39)), (2, .int (jI 4)), (3, .int (jI yq10))] [.ref (b + 30), .ref (b + 39), .ref (b + 5)] (cmf b f0 Iq35 Aq35) _ _ _
                refine jt_iload_n d_EX_replaceCall_127 rfl ?_
                refine cct_callV (Y := Y_EX_putBody) (ci := 1) (k := 5) (As := [.ref (b + 39), .ref (b + 30), .int (jI yq10)]) (rest := []) d_EX_replaceCall_128 EX_c69 yk_EX_putBody yv_EX_putBody rfl (Nat.le_of_ble_eq_true rfl) (by decide) cc_2 rfl rfl (Nat.le_of_ble_eq_true rfl) (v_EX_putBody_30 G _ b yq10 Iq35 Aq35 hpq35.1 hpq35.2.1 (cTok_of hqq35 (cTok_of hqq10 hK rfl) rfl) (by omega) (show Iq35 5 5 < 300 by omega)) (fun rvq39 Iq39 Aq39 hq39 => ?_)
                obtain ⟨rfl, hqq39, hxq39⟩ := hq39
                have hpq39 := cPo.trans hpq35 hqq39 rfl rfl
                have m5_5q39 : Iq39 5 5 = Iq35 5 5 := hqq39.2.2.1 5 5 rfl
                have m5_6q39 : Iq39 5 6 = Iq35 5 6 := hqq39.2.2.1 5 6 rfl
                show jt _ 131 [(0, .ref (b + 5)), (1, .ref (b + 39)), (2, .int (jI 4)), (3, .int (jI yq10))] [] (cmf b f0 Iq39 Aq39) _ _ _
                refine jt_iconst d_EX_replaceCall_131 ?_
                exact cm_ret d_EX_replaceCall_132 rfl rfl (⟨0, rfl, by omega, hpq39, hxq39, show 0 = 0 → Iq39 5 6 ≤ 100 by omega⟩)
              · skip
                refine jt_bipush d_EX_replaceCall_116 (by omega) ?_
                exact cm_ret d_EX_replaceCall_118 rfl rfl (⟨-7, rfl, by omega, hpq35, (cTok_of hqq35 (cTok_of hqq10 hK rfl) rfl), show -7 = 0 → Iq35 5 6 ≤ 100 by omega⟩)
          · skip
            subst h6
            refine cm_ldT (z := 5) d_EX_replaceCall_96 (by omega) (by omega) ?_
            show jt _ 97 [(0, .ref (b + 5)), (1, .ref (b + 39)), (2, .int (jI 5)), (3, .int (jI yq10))] [.ref (b + 34), .ref (b + 39), .ref (b + 5)] (cmf b f0 (cu Iq10 5 6 v13) Aq10) _ _ _
            refine jt_iload_n d_EX_replaceCall_97 rfl ?_
            refine cct_callV (Y := Y_EX_lengthAfter) (ci := 1) (k := 5) (As := [.ref (b + 39), .ref (b + 34), .int (jI yq10)]) (rest := []) d_EX_replaceCall_98 EX_c65 yk_EX_lengthAfter yv_EX_lengthAfter rfl (Nat.le_of_ble_eq_true rfl) (by decide) cc_2 rfl rfl (Nat.le_of_ble_eq_true rfl) (v_EX_lengthAfter_34 G _ b yq10 (cu Iq10 5 6 v13) Aq10 p14.1 p14.2.1 (cTok_of hqq10 hK rfl) (by omega)) (fun rvq40 Iq40 Aq40 hq40 => ?_)
            obtain ⟨yq40, rfl, ryq40, hqq40⟩ := hq40
            have hpq40 := cPo.trans p14 hqq40 rfl rfl
            have m5_5q40 : Iq40 5 5 = Iq10 5 5 := hqq40.2.2.1 5 5 rfl
            have m5_6q40 : Iq40 5 6 = v13 := hqq40.2.2.1 5 6 rfl
            have m39_3q40 : Iq40 39 3 = Iq10 39 3 := hqq40.2.2.1 39 3 rfl
            show jt _ 101 [(0, .ref (b + 5)), (1, .ref (b + 39)), (2, .int (jI 5)), (3, .int (jI yq10))] [.int (jI yq40)] (cmf b f0 Iq40 Aq40) _ _ _
            refine jt_sipush d_EX_replaceCall_101 (by omega) ?_
            refine jt_icmp_gt (t := 116) d_EX_replaceCall_104 rfl (by unfold jRi; omega) (by unfold jRi; omega) (fun c41 => ?_) (fun c41 => ?_)
            · skip
              refine jt_bipush d_EX_replaceCall_116 (by omega) ?_
              exact cm_ret d_EX_replaceCall_118 rfl rfl (⟨-7, rfl, by omega, hpq40, (cTok_of hqq40 (cTok_of hqq10 hK rfl) rfl), show -7 = 0 → Iq40 5 6 ≤ 100 by omega⟩)
            · skip
              refine jt_aload_n d_EX_replaceCall_107 rfl ?_
              refine cm_get (k := 5) (v := .int (jI (Iq40 5 6))) d_EX_replaceCall_108 EX_f45 (by decide) cc_2 rfl ?_
              have rb42 : 0 ≤ Iq40 5 6 ∧ Iq40 5 6 ≤ 101 := hpq40.1 5 6
              refine jt_bipush d_EX_replaceCall_111 (by omega) ?_
              refine jt_icmp_le (t := 119) d_EX_replaceCall_113 rfl (by unfold jRi; omega) (by unfold jRi; omega) (fun c43 => ?_) (fun c43 => ?_)
              · skip
                refine jt_aload_n d_EX_replaceCall_119 rfl ?_
                refine jt_aload_n d_EX_replaceCall_120 rfl ?_
                refine jt_aload_n d_EX_replaceCall_121 rfl ?_
                refine cm_get (k := 5) (v := .ref (b + 6)) d_EX_replaceCall_122 EX_f13 (by decide) cc_2 rfl ?_
                refine jt_iload_n d_EX_replaceCall_125 rfl ?_
                refine cm_ldT (z := 5) d_EX_replaceCall_126 (by omega) (by omega) ?_
                show jt _ 127 [(0, .ref (b + 5)), (1, .ref (b + 39)), (2, .int (jI 5)), (3, .int (jI yq10))] [.ref (b + 34), .ref (b + 39), .ref (b + 5)] (cmf b f0 Iq40 Aq40) _ _ _
                refine jt_iload_n d_EX_replaceCall_127 rfl ?_
                refine cct_callV (Y := Y_EX_putBody) (ci := 1) (k := 5) (As := [.ref (b + 39), .ref (b + 34), .int (jI yq10)]) (rest := []) d_EX_replaceCall_128 EX_c69 yk_EX_putBody yv_EX_putBody rfl (Nat.le_of_ble_eq_true rfl) (by decide) cc_2 rfl rfl (Nat.le_of_ble_eq_true rfl) (v_EX_putBody_34 G _ b yq10 Iq40 Aq40 hpq40.1 hpq40.2.1 (cTok_of hqq40 (cTok_of hqq10 hK rfl) rfl) (by omega) (show Iq40 5 5 < 300 by omega)) (fun rvq44 Iq44 Aq44 hq44 => ?_)
                obtain ⟨rfl, hqq44, hxq44⟩ := hq44
                have hpq44 := cPo.trans hpq40 hqq44 rfl rfl
                have m5_5q44 : Iq44 5 5 = Iq40 5 5 := hqq44.2.2.1 5 5 rfl
                have m5_6q44 : Iq44 5 6 = Iq40 5 6 := hqq44.2.2.1 5 6 rfl
                show jt _ 131 [(0, .ref (b + 5)), (1, .ref (b + 39)), (2, .int (jI 5)), (3, .int (jI yq10))] [] (cmf b f0 Iq44 Aq44) _ _ _
                refine jt_iconst d_EX_replaceCall_131 ?_
                exact cm_ret d_EX_replaceCall_132 rfl rfl (⟨0, rfl, by omega, hpq44, hxq44, show 0 = 0 → Iq44 5 6 ≤ 100 by omega⟩)
              · skip
                refine jt_bipush d_EX_replaceCall_116 (by omega) ?_
                exact cm_ret d_EX_replaceCall_118 rfl rfl (⟨-7, rfl, by omega, hpq40, (cTok_of hqq40 (cTok_of hqq10 hK rfl) rfl), show -7 = 0 → Iq40 5 6 ≤ 100 by omega⟩)
        · skip
          refine jt_bipush d_EX_replaceCall_76 (by omega) ?_
          exact cm_ret d_EX_replaceCall_78 rfl rfl (⟨-6, rfl, by omega, hpq10, (cTok_of hqq10 hK rfl), show -6 = 0 → Iq10 5 6 ≤ 100 by omega⟩)
      · skip
        refine jt_aload_n d_EX_replaceCall_49 rfl ?_
        refine cm_get (k := 5) (v := .int (jI (I 5 5))) d_EX_replaceCall_50 EX_f42 (by decide) cc_2 rfl ?_
        refine jt_iconst d_EX_replaceCall_53 ?_
        refine jt_iadd d_EX_replaceCall_54 ?_
        refine jt_goto (t := 69) d_EX_replaceCall_55 rfl ?_
        refine jt_topi (fun v45 ev45 => ?_)
        refine jt_istore_n (L' := [(0, .ref (b + 5)), (1, .ref (b + 39)), (2, .int (jI v2)), (3, .int (jI v45))]) d_EX_replaceCall_69 (Nat.le_of_ble_eq_true rfl) rfl ?_
        refine jt_iload_n d_EX_replaceCall_70 rfl ?_
        refine jt_bipush d_EX_replaceCall_71 (by omega) ?_
        refine jt_icmp_ne (t := 79) d_EX_replaceCall_73 rfl (by unfold jRi; omega) (by unfold jRi; omega) (fun c46 => ?_) (fun c46 => ?_)
        · skip
          refine jt_aload_n d_EX_replaceCall_79 rfl ?_
          refine jt_dup d_EX_replaceCall_80 rfl ?_
          refine cm_get (k := 5) (v := .int (jI (I 5 6))) d_EX_replaceCall_81 EX_f45 (by decide) cc_2 rfl ?_
          have rb47 : 0 ≤ I 5 6 ∧ I 5 6 ≤ 101 := hz0.1 5 6
          refine jt_iconst d_EX_replaceCall_84 ?_
          refine jt_iadd d_EX_replaceCall_85 ?_
          refine jt_topi (fun v48 ev48 => ?_)
          refine cm_put (k := 5) (j := 6) (v := v48) d_EX_replaceCall_86 (EX_w45 _ rfl) (by decide) cc_2 rfl rfl (Nat.le_of_ble_eq_true rfl) rfl ?_
          have p49 := cPo.I 5 6 v48 hz0 rfl (show 0 ≤ v48 ∧ v48 ≤ 101 by omega)
          refine jt_aload_n d_EX_replaceCall_89 rfl ?_
          refine jt_aload_n d_EX_replaceCall_90 rfl ?_
          refine jt_aload_n d_EX_replaceCall_91 rfl ?_
          refine cm_get (k := 5) (v := .ref (b + 6)) d_EX_replaceCall_92 EX_f13 (by decide) cc_2 rfl ?_
          refine jt_iload_n d_EX_replaceCall_95 rfl ?_
          have h6 : v2 = 0 ∨ v2 = 1 ∨ v2 = 2 ∨ v2 = 3 ∨ v2 = 4 ∨ v2 = 5 := by omega
          rcases h6 with h6 | h6 | h6 | h6 | h6 | h6
          · skip
            subst h6
            refine cm_ldT (z := 0) d_EX_replaceCall_96 (by omega) (by omega) ?_
            show jt _ 97 [(0, .ref (b + 5)), (1, .ref (b + 39)), (2, .int (jI 0)), (3, .int (jI v45))] [.ref (b + 14), .ref (b + 39), .ref (b + 5)] (cmf b f0 (cu I 5 6 v48) A) _ _ _
            refine jt_iload_n d_EX_replaceCall_97 rfl ?_
            refine cct_callV (Y := Y_EX_lengthAfter) (ci := 1) (k := 5) (As := [.ref (b + 39), .ref (b + 14), .int (jI v45)]) (rest := []) d_EX_replaceCall_98 EX_c65 yk_EX_lengthAfter yv_EX_lengthAfter rfl (Nat.le_of_ble_eq_true rfl) (by decide) cc_2 rfl rfl (Nat.le_of_ble_eq_true rfl) (v_EX_lengthAfter_14 G _ b v45 (cu I 5 6 v48) A p49.1 p49.2.1 hK (by omega)) (fun rvq50 Iq50 Aq50 hq50 => ?_)
            obtain ⟨yq50, rfl, ryq50, hqq50⟩ := hq50
            have hpq50 := cPo.trans p49 hqq50 rfl rfl
            have m5_5q50 : Iq50 5 5 = I 5 5 := hqq50.2.2.1 5 5 rfl
            have m5_6q50 : Iq50 5 6 = v48 := hqq50.2.2.1 5 6 rfl
            have m39_3q50 : Iq50 39 3 = I 39 3 := hqq50.2.2.1 39 3 rfl
            show jt _ 101 [(0, .ref (b + 5)), (1, .ref (b + 39)), (2, .int (jI 0)), (3, .int (jI v45))] [.int (jI yq50)] (cmf b f0 Iq50 Aq50) _ _ _
            refine jt_sipush d_EX_replaceCall_101 (by omega) ?_
            refine jt_icmp_gt (t := 116) d_EX_replaceCall_104 rfl (by unfold jRi; omega) (by unfold jRi; omega) (fun c51 => ?_) (fun c51 => ?_)
            · skip
              refine jt_bipush d_EX_replaceCall_116 (by omega) ?_
              exact cm_ret d_EX_replaceCall_118 rfl rfl (⟨-7, rfl, by omega, hpq50, (cTok_of hqq50 hK rfl), show -7 = 0 → Iq50 5 6 ≤ 100 by omega⟩)
            · skip
              refine jt_aload_n d_EX_replaceCall_107 rfl ?_
              refine cm_get (k := 5) (v := .int (jI (Iq50 5 6))) d_EX_replaceCall_108 EX_f45 (by decide) cc_2 rfl ?_
              have rb52 : 0 ≤ Iq50 5 6 ∧ Iq50 5 6 ≤ 101 := hpq50.1 5 6
              refine jt_bipush d_EX_replaceCall_111 (by omega) ?_
              refine jt_icmp_le (t := 119) d_EX_replaceCall_113 rfl (by unfold jRi; omega) (by unfold jRi; omega) (fun c53 => ?_) (fun c53 => ?_)
              · skip
                refine jt_aload_n d_EX_replaceCall_119 rfl ?_
                refine jt_aload_n d_EX_replaceCall_120 rfl ?_
                refine jt_aload_n d_EX_replaceCall_121 rfl ?_
                refine cm_get (k := 5) (v := .ref (b + 6)) d_EX_replaceCall_122 EX_f13 (by decide) cc_2 rfl ?_
                refine jt_iload_n d_EX_replaceCall_125 rfl ?_
                refine cm_ldT (z := 0) d_EX_replaceCall_126 (by omega) (by omega) ?_
                show jt _ 127 [(0, .ref (b + 5)), (1, .ref (b + 39)), (2, .int (jI 0)), (3, .int (jI v45))] [.ref (b + 14), .ref (b + 39), .ref (b + 5)] (cmf b f0 Iq50 Aq50) _ _ _
                refine jt_iload_n d_EX_replaceCall_127 rfl ?_
                refine cct_callV (Y := Y_EX_putBody) (ci := 1) (k := 5) (As := [.ref (b + 39), .ref (b + 14), .int (jI v45)]) (rest := []) d_EX_replaceCall_128 EX_c69 yk_EX_putBody yv_EX_putBody rfl (Nat.le_of_ble_eq_true rfl) (by decide) cc_2 rfl rfl (Nat.le_of_ble_eq_true rfl) (v_EX_putBody_14 G _ b v45 Iq50 Aq50 hpq50.1 hpq50.2.1 (cTok_of hqq50 hK rfl) (by omega) (show Iq50 5 5 < 300 by omega)) (fun rvq54 Iq54 Aq54 hq54 => ?_)
                obtain ⟨rfl, hqq54, hxq54⟩ := hq54
                have hpq54 := cPo.trans hpq50 hqq54 rfl rfl
                have m5_5q54 : Iq54 5 5 = Iq50 5 5 := hqq54.2.2.1 5 5 rfl
                have m5_6q54 : Iq54 5 6 = Iq50 5 6 := hqq54.2.2.1 5 6 rfl
                show jt _ 131 [(0, .ref (b + 5)), (1, .ref (b + 39)), (2, .int (jI 0)), (3, .int (jI v45))] [] (cmf b f0 Iq54 Aq54) _ _ _
                refine jt_iconst d_EX_replaceCall_131 ?_
                exact cm_ret d_EX_replaceCall_132 rfl rfl (⟨0, rfl, by omega, hpq54, hxq54, show 0 = 0 → Iq54 5 6 ≤ 100 by omega⟩)
              · skip
                refine jt_bipush d_EX_replaceCall_116 (by omega) ?_
                exact cm_ret d_EX_replaceCall_118 rfl rfl (⟨-7, rfl, by omega, hpq50, (cTok_of hqq50 hK rfl), show -7 = 0 → Iq50 5 6 ≤ 100 by omega⟩)
          · skip
            subst h6
            refine cm_ldT (z := 1) d_EX_replaceCall_96 (by omega) (by omega) ?_
            show jt _ 97 [(0, .ref (b + 5)), (1, .ref (b + 39)), (2, .int (jI 1)), (3, .int (jI v45))] [.ref (b + 18), .ref (b + 39), .ref (b + 5)] (cmf b f0 (cu I 5 6 v48) A) _ _ _
            refine jt_iload_n d_EX_replaceCall_97 rfl ?_
            refine cct_callV (Y := Y_EX_lengthAfter) (ci := 1) (k := 5) (As := [.ref (b + 39), .ref (b + 18), .int (jI v45)]) (rest := []) d_EX_replaceCall_98 EX_c65 yk_EX_lengthAfter yv_EX_lengthAfter rfl (Nat.le_of_ble_eq_true rfl) (by decide) cc_2 rfl rfl (Nat.le_of_ble_eq_true rfl) (v_EX_lengthAfter_18 G _ b v45 (cu I 5 6 v48) A p49.1 p49.2.1 hK (by omega)) (fun rvq55 Iq55 Aq55 hq55 => ?_)
            obtain ⟨yq55, rfl, ryq55, hqq55⟩ := hq55
            have hpq55 := cPo.trans p49 hqq55 rfl rfl
            have m5_5q55 : Iq55 5 5 = I 5 5 := hqq55.2.2.1 5 5 rfl
            have m5_6q55 : Iq55 5 6 = v48 := hqq55.2.2.1 5 6 rfl
            have m39_3q55 : Iq55 39 3 = I 39 3 := hqq55.2.2.1 39 3 rfl
            show jt _ 101 [(0, .ref (b + 5)), (1, .ref (b + 39)), (2, .int (jI 1)), (3, .int (jI v45))] [.int (jI yq55)] (cmf b f0 Iq55 Aq55) _ _ _
            refine jt_sipush d_EX_replaceCall_101 (by omega) ?_
            refine jt_icmp_gt (t := 116) d_EX_replaceCall_104 rfl (by unfold jRi; omega) (by unfold jRi; omega) (fun c56 => ?_) (fun c56 => ?_)
            · skip
              refine jt_bipush d_EX_replaceCall_116 (by omega) ?_
              exact cm_ret d_EX_replaceCall_118 rfl rfl (⟨-7, rfl, by omega, hpq55, (cTok_of hqq55 hK rfl), show -7 = 0 → Iq55 5 6 ≤ 100 by omega⟩)
            · skip
              refine jt_aload_n d_EX_replaceCall_107 rfl ?_
              refine cm_get (k := 5) (v := .int (jI (Iq55 5 6))) d_EX_replaceCall_108 EX_f45 (by decide) cc_2 rfl ?_
              have rb57 : 0 ≤ Iq55 5 6 ∧ Iq55 5 6 ≤ 101 := hpq55.1 5 6
              refine jt_bipush d_EX_replaceCall_111 (by omega) ?_
              refine jt_icmp_le (t := 119) d_EX_replaceCall_113 rfl (by unfold jRi; omega) (by unfold jRi; omega) (fun c58 => ?_) (fun c58 => ?_)
              · skip
                refine jt_aload_n d_EX_replaceCall_119 rfl ?_
                refine jt_aload_n d_EX_replaceCall_120 rfl ?_
                refine jt_aload_n d_EX_replaceCall_121 rfl ?_
                refine cm_get (k := 5) (v := .ref (b + 6)) d_EX_replaceCall_122 EX_f13 (by decide) cc_2 rfl ?_
                refine jt_iload_n d_EX_replaceCall_125 rfl ?_
                refine cm_ldT (z := 1) d_EX_replaceCall_126 (by omega) (by omega) ?_
                show jt _ 127 [(0, .ref (b + 5)), (1, .ref (b + 39)), (2, .int (jI 1)), (3, .int (jI v45))] [.ref (b + 18), .ref (b + 39), .ref (b + 5)] (cmf b f0 Iq55 Aq55) _ _ _
                refine jt_iload_n d_EX_replaceCall_127 rfl ?_
                refine cct_callV (Y := Y_EX_putBody) (ci := 1) (k := 5) (As := [.ref (b + 39), .ref (b + 18), .int (jI v45)]) (rest := []) d_EX_replaceCall_128 EX_c69 yk_EX_putBody yv_EX_putBody rfl (Nat.le_of_ble_eq_true rfl) (by decide) cc_2 rfl rfl (Nat.le_of_ble_eq_true rfl) (v_EX_putBody_18 G _ b v45 Iq55 Aq55 hpq55.1 hpq55.2.1 (cTok_of hqq55 hK rfl) (by omega) (show Iq55 5 5 < 300 by omega)) (fun rvq59 Iq59 Aq59 hq59 => ?_)
                obtain ⟨rfl, hqq59, hxq59⟩ := hq59
                have hpq59 := cPo.trans hpq55 hqq59 rfl rfl
                have m5_5q59 : Iq59 5 5 = Iq55 5 5 := hqq59.2.2.1 5 5 rfl
                have m5_6q59 : Iq59 5 6 = Iq55 5 6 := hqq59.2.2.1 5 6 rfl
                show jt _ 131 [(0, .ref (b + 5)), (1, .ref (b + 39)), (2, .int (jI 1)), (3, .int (jI v45))] [] (cmf b f0 Iq59 Aq59) _ _ _
                refine jt_iconst d_EX_replaceCall_131 ?_
                exact cm_ret d_EX_replaceCall_132 rfl rfl (⟨0, rfl, by omega, hpq59, hxq59, show 0 = 0 → Iq59 5 6 ≤ 100 by omega⟩)
              · skip
                refine jt_bipush d_EX_replaceCall_116 (by omega) ?_
                exact cm_ret d_EX_replaceCall_118 rfl rfl (⟨-7, rfl, by omega, hpq55, (cTok_of hqq55 hK rfl), show -7 = 0 → Iq55 5 6 ≤ 100 by omega⟩)
          · skip
            subst h6
            refine cm_ldT (z := 2) d_EX_replaceCall_96 (by omega) (by omega) ?_
            show jt _ 97 [(0, .ref (b + 5)), (1, .ref (b + 39)), (2, .int (jI 2)), (3, .int (jI v45))] [.ref (b + 22), .ref (b + 39), .ref (b + 5)] (cmf b f0 (cu I 5 6 v48) A) _ _ _
            refine jt_iload_n d_EX_replaceCall_97 rfl ?_
            refine cct_callV (Y := Y_EX_lengthAfter) (ci := 1) (k := 5) (As := [.ref (b + 39), .ref (b + 22), .int (jI v45)]) (rest := []) d_EX_replaceCall_98 EX_c65 yk_EX_lengthAfter yv_EX_lengthAfter rfl (Nat.le_of_ble_eq_true rfl) (by decide) cc_2 rfl rfl (Nat.le_of_ble_eq_true rfl) (v_EX_lengthAfter_22 G _ b v45 (cu I 5 6 v48) A p49.1 p49.2.1 hK (by omega)) (fun rvq60 Iq60 Aq60 hq60 => ?_)
            obtain ⟨yq60, rfl, ryq60, hqq60⟩ := hq60
            have hpq60 := cPo.trans p49 hqq60 rfl rfl
            have m5_5q60 : Iq60 5 5 = I 5 5 := hqq60.2.2.1 5 5 rfl
            have m5_6q60 : Iq60 5 6 = v48 := hqq60.2.2.1 5 6 rfl
            have m39_3q60 : Iq60 39 3 = I 39 3 := hqq60.2.2.1 39 3 rfl
            show jt _ 101 [(0, .ref (b + 5)), (1, .ref (b + 39)), (2, .int (jI 2)), (3, .int (jI v45))] [.int (jI yq60)] (cmf b f0 Iq60 Aq60) _ _ _
            refine jt_sipush d_EX_replaceCall_101 (by omega) ?_
            refine jt_icmp_gt (t := 116) d_EX_replaceCall_104 rfl (by unfold jRi; omega) (by unfold jRi; omega) (fun c61 => ?_) (fun c61 => ?_)
            · skip
              refine jt_bipush d_EX_replaceCall_116 (by omega) ?_
              exact cm_ret d_EX_replaceCall_118 rfl rfl (⟨-7, rfl, by omega, hpq60, (cTok_of hqq60 hK rfl), show -7 = 0 → Iq60 5 6 ≤ 100 by omega⟩)
            · skip
              refine jt_aload_n d_EX_replaceCall_107 rfl ?_
              refine cm_get (k := 5) (v := .int (jI (Iq60 5 6))) d_EX_replaceCall_108 EX_f45 (by decide) cc_2 rfl ?_
              have rb62 : 0 ≤ Iq60 5 6 ∧ Iq60 5 6 ≤ 101 := hpq60.1 5 6
              refine jt_bipush d_EX_replaceCall_111 (by omega) ?_
              refine jt_icmp_le (t := 119) d_EX_replaceCall_113 rfl (by unfold jRi; omega) (by unfold jRi; omega) (fun c63 => ?_) (fun c63 => ?_)
              · skip
                refine jt_aload_n d_EX_replaceCall_119 rfl ?_
                refine jt_aload_n d_EX_replaceCall_120 rfl ?_
                refine jt_aload_n d_EX_replaceCall_121 rfl ?_
                refine cm_get (k := 5) (v := .ref (b + 6)) d_EX_replaceCall_122 EX_f13 (by decide) cc_2 rfl ?_
                refine jt_iload_n d_EX_replaceCall_125 rfl ?_
                refine cm_ldT (z := 2) d_EX_replaceCall_126 (by omega) (by omega) ?_
                show jt _ 127 [(0, .ref (b + 5)), (1, .ref (b + 39)), (2, .int (jI 2)), (3, .int (jI v45))] [.ref (b + 22), .ref (b + 39), .ref (b + 5)] (cmf b f0 Iq60 Aq60) _ _ _
                refine jt_iload_n d_EX_replaceCall_127 rfl ?_
                refine cct_callV (Y := Y_EX_putBody) (ci := 1) (k := 5) (As := [.ref (b + 39), .ref (b + 22), .int (jI v45)]) (rest := []) d_EX_replaceCall_128 EX_c69 yk_EX_putBody yv_EX_putBody rfl (Nat.le_of_ble_eq_true rfl) (by decide) cc_2 rfl rfl (Nat.le_of_ble_eq_true rfl) (v_EX_putBody_22 G _ b v45 Iq60 Aq60 hpq60.1 hpq60.2.1 (cTok_of hqq60 hK rfl) (by omega) (show Iq60 5 5 < 300 by omega)) (fun rvq64 Iq64 Aq64 hq64 => ?_)
                obtain ⟨rfl, hqq64, hxq64⟩ := hq64
                have hpq64 := cPo.trans hpq60 hqq64 rfl rfl
                have m5_5q64 : Iq64 5 5 = Iq60 5 5 := hqq64.2.2.1 5 5 rfl
                have m5_6q64 : Iq64 5 6 = Iq60 5 6 := hqq64.2.2.1 5 6 rfl
                show jt _ 131 [(0, .ref (b + 5)), (1, .ref (b + 39)), (2, .int (jI 2)), (3, .int (jI v45))] [] (cmf b f0 Iq64 Aq64) _ _ _
                refine jt_iconst d_EX_replaceCall_131 ?_
                exact cm_ret d_EX_replaceCall_132 rfl rfl (⟨0, rfl, by omega, hpq64, hxq64, show 0 = 0 → Iq64 5 6 ≤ 100 by omega⟩)
              · skip
                refine jt_bipush d_EX_replaceCall_116 (by omega) ?_
                exact cm_ret d_EX_replaceCall_118 rfl rfl (⟨-7, rfl, by omega, hpq60, (cTok_of hqq60 hK rfl), show -7 = 0 → Iq60 5 6 ≤ 100 by omega⟩)
          · skip
            subst h6
            refine cm_ldT (z := 3) d_EX_replaceCall_96 (by omega) (by omega) ?_
            show jt _ 97 [(0, .ref (b + 5)), (1, .ref (b + 39)), (2, .int (jI 3)), (3, .int (jI v45))] [.ref (b + 26), .ref (b + 39), .ref (b + 5)] (cmf b f0 (cu I 5 6 v48) A) _ _ _
            refine jt_iload_n d_EX_replaceCall_97 rfl ?_
            refine cct_callV (Y := Y_EX_lengthAfter) (ci := 1) (k := 5) (As := [.ref (b + 39), .ref (b + 26), .int (jI v45)]) (rest := []) d_EX_replaceCall_98 EX_c65 yk_EX_lengthAfter yv_EX_lengthAfter rfl (Nat.le_of_ble_eq_true rfl) (by decide) cc_2 rfl rfl (Nat.le_of_ble_eq_true rfl) (v_EX_lengthAfter_26 G _ b v45 (cu I 5 6 v48) A p49.1 p49.2.1 hK (by omega)) (fun rvq65 Iq65 Aq65 hq65 => ?_)
            obtain ⟨yq65, rfl, ryq65, hqq65⟩ := hq65
            have hpq65 := cPo.trans p49 hqq65 rfl rfl
            have m5_5q65 : Iq65 5 5 = I 5 5 := hqq65.2.2.1 5 5 rfl
            have m5_6q65 : Iq65 5 6 = v48 := hqq65.2.2.1 5 6 rfl
            have m39_3q65 : Iq65 39 3 = I 39 3 := hqq65.2.2.1 39 3 rfl
            show jt _ 101 [(0, .ref (b + 5)), (1, .ref (b + 39)), (2, .int (jI 3)), (3, .int (jI v45))] [.int (jI yq65)] (cmf b f0 Iq65 Aq65) _ _ _
            refine jt_sipush d_EX_replaceCall_101 (by omega) ?_
            refine jt_icmp_gt (t := 116) d_EX_replaceCall_104 rfl (by unfold jRi; omega) (by unfold jRi; omega) (fun c66 => ?_) (fun c66 => ?_)
            · skip
              refine jt_bipush d_EX_replaceCall_116 (by omega) ?_
              exact cm_ret d_EX_replaceCall_118 rfl rfl (⟨-7, rfl, by omega, hpq65, (cTok_of hqq65 hK rfl), show -7 = 0 → Iq65 5 6 ≤ 100 by omega⟩)
            · skip
              refine jt_aload_n d_EX_replaceCall_107 rfl ?_
              refine cm_get (k := 5) (v := .int (jI (Iq65 5 6))) d_EX_replaceCall_108 EX_f45 (by decide) cc_2 rfl ?_
              have rb67 : 0 ≤ Iq65 5 6 ∧ Iq65 5 6 ≤ 101 := hpq65.1 5 6
              refine jt_bipush d_EX_replaceCall_111 (by omega) ?_
              refine jt_icmp_le (t := 119) d_EX_replaceCall_113 rfl (by unfold jRi; omega) (by unfold jRi; omega) (fun c68 => ?_) (fun c68 => ?_)
              · skip
                refine jt_aload_n d_EX_replaceCall_119 rfl ?_
                refine jt_aload_n d_EX_replaceCall_120 rfl ?_
                refine jt_aload_n d_EX_replaceCall_121 rfl ?_
                refine cm_get (k := 5) (v := .ref (b + 6)) d_EX_replaceCall_122 EX_f13 (by decide) cc_2 rfl ?_
                refine jt_iload_n d_EX_replaceCall_125 rfl ?_
                refine cm_ldT (z := 3) d_EX_replaceCall_126 (by omega) (by omega) ?_
                show jt _ 127 [(0, .ref (b + 5)), (1, .ref (b + 39)), (2, .int (jI 3)), (3, .int (jI v45))] [.ref (b + 26), .ref (b + 39), .ref (b + 5)] (cmf b f0 Iq65 Aq65) _ _ _
                refine jt_iload_n d_EX_replaceCall_127 rfl ?_
                refine cct_callV (Y := Y_EX_putBody) (ci := 1) (k := 5) (As := [.ref (b + 39), .ref (b + 26), .int (jI v45)]) (rest := []) d_EX_replaceCall_128 EX_c69 yk_EX_putBody yv_EX_putBody rfl (Nat.le_of_ble_eq_true rfl) (by decide) cc_2 rfl rfl (Nat.le_of_ble_eq_true rfl) (v_EX_putBody_26 G _ b v45 Iq65 Aq65 hpq65.1 hpq65.2.1 (cTok_of hqq65 hK rfl) (by omega) (show Iq65 5 5 < 300 by omega)) (fun rvq69 Iq69 Aq69 hq69 => ?_)
                obtain ⟨rfl, hqq69, hxq69⟩ := hq69
                have hpq69 := cPo.trans hpq65 hqq69 rfl rfl
                have m5_5q69 : Iq69 5 5 = Iq65 5 5 := hqq69.2.2.1 5 5 rfl
                have m5_6q69 : Iq69 5 6 = Iq65 5 6 := hqq69.2.2.1 5 6 rfl
                show jt _ 131 [(0, .ref (b + 5)), (1, .ref (b + 39)), (2, .int (jI 3)), (3, .int (jI v45))] [] (cmf b f0 Iq69 Aq69) _ _ _
                refine jt_iconst d_EX_replaceCall_131 ?_
                exact cm_ret d_EX_replaceCall_132 rfl rfl (⟨0, rfl, by omega, hpq69, hxq69, show 0 = 0 → Iq69 5 6 ≤ 100 by omega⟩)
              · skip
                refine jt_bipush d_EX_replaceCall_116 (by omega) ?_
                exact cm_ret d_EX_replaceCall_118 rfl rfl (⟨-7, rfl, by omega, hpq65, (cTok_of hqq65 hK rfl), show -7 = 0 → Iq65 5 6 ≤ 100 by omega⟩)
          · skip
            subst h6
            refine cm_ldT (z := 4) d_EX_replaceCall_96 (by omega) (by omega) ?_
            show jt _ 97 [(0, .ref (b + 5)), (1, .ref (b + 39)), (2, .int (jI 4)), (3, .int (jI v45))] [.ref (b + 30), .ref (b + 39), .ref (b + 5)] (cmf b f0 (cu I 5 6 v48) A) _ _ _
            refine jt_iload_n d_EX_replaceCall_97 rfl ?_
            refine cct_callV (Y := Y_EX_lengthAfter) (ci := 1) (k := 5) (As := [.ref (b + 39), .ref (b + 30), .int (jI v45)]) (rest := []) d_EX_replaceCall_98 EX_c65 yk_EX_lengthAfter yv_EX_lengthAfter rfl (Nat.le_of_ble_eq_true rfl) (by decide) cc_2 rfl rfl (Nat.le_of_ble_eq_true rfl) (v_EX_lengthAfter_30 G _ b v45 (cu I 5 6 v48) A p49.1 p49.2.1 hK (by omega)) (fun rvq70 Iq70 Aq70 hq70 => ?_)
            obtain ⟨yq70, rfl, ryq70, hqq70⟩ := hq70
            have hpq70 := cPo.trans p49 hqq70 rfl rfl
            have m5_5q70 : Iq70 5 5 = I 5 5 := hqq70.2.2.1 5 5 rfl
            have m5_6q70 : Iq70 5 6 = v48 := hqq70.2.2.1 5 6 rfl
            have m39_3q70 : Iq70 39 3 = I 39 3 := hqq70.2.2.1 39 3 rfl
            show jt _ 101 [(0, .ref (b + 5)), (1, .ref (b + 39)), (2, .int (jI 4)), (3, .int (jI v45))] [.int (jI yq70)] (cmf b f0 Iq70 Aq70) _ _ _
            refine jt_sipush d_EX_replaceCall_101 (by omega) ?_
            refine jt_icmp_gt (t := 116) d_EX_replaceCall_104 rfl (by unfold jRi; omega) (by unfold jRi; omega) (fun c71 => ?_) (fun c71 => ?_)
            · skip
              refine jt_bipush d_EX_replaceCall_116 (by omega) ?_
              exact cm_ret d_EX_replaceCall_118 rfl rfl (⟨-7, rfl, by omega, hpq70, (cTok_of hqq70 hK rfl), show -7 = 0 → Iq70 5 6 ≤ 100 by omega⟩)
            · skip
              refine jt_aload_n d_EX_replaceCall_107 rfl ?_
              refine cm_get (k := 5) (v := .int (jI (Iq70 5 6))) d_EX_replaceCall_108 EX_f45 (by decide) cc_2 rfl ?_
              have rb72 : 0 ≤ Iq70 5 6 ∧ Iq70 5 6 ≤ 101 := hpq70.1 5 6
              refine jt_bipush d_EX_replaceCall_111 (by omega) ?_
              refine jt_icmp_le (t := 119) d_EX_replaceCall_113 rfl (by unfold jRi; omega) (by unfold jRi; omega) (fun c73 => ?_) (fun c73 => ?_)
              · skip
                refine jt_aload_n d_EX_replaceCall_119 rfl ?_
                refine jt_aload_n d_EX_replaceCall_120 rfl ?_
                refine jt_aload_n d_EX_replaceCall_121 rfl ?_
                refine cm_get (k := 5) (v := .ref (b + 6)) d_EX_replaceCall_122 EX_f13 (by decide) cc_2 rfl ?_
                refine jt_iload_n d_EX_replaceCall_125 rfl ?_
                refine cm_ldT (z := 4) d_EX_replaceCall_126 (by omega) (by omega) ?_
                show jt _ 127 [(0, .ref (b + 5)), (1, .ref (b + 39)), (2, .int (jI 4)), (3, .int (jI v45))] [.ref (b + 30), .ref (b + 39), .ref (b + 5)] (cmf b f0 Iq70 Aq70) _ _ _
                refine jt_iload_n d_EX_replaceCall_127 rfl ?_
                refine cct_callV (Y := Y_EX_putBody) (ci := 1) (k := 5) (As := [.ref (b + 39), .ref (b + 30), .int (jI v45)]) (rest := []) d_EX_replaceCall_128 EX_c69 yk_EX_putBody yv_EX_putBody rfl (Nat.le_of_ble_eq_true rfl) (by decide) cc_2 rfl rfl (Nat.le_of_ble_eq_true rfl) (v_EX_putBody_30 G _ b v45 Iq70 Aq70 hpq70.1 hpq70.2.1 (cTok_of hqq70 hK rfl) (by omega) (show Iq70 5 5 < 300 by omega)) (fun rvq74 Iq74 Aq74 hq74 => ?_)
                obtain ⟨rfl, hqq74, hxq74⟩ := hq74
                have hpq74 := cPo.trans hpq70 hqq74 rfl rfl
                have m5_5q74 : Iq74 5 5 = Iq70 5 5 := hqq74.2.2.1 5 5 rfl
                have m5_6q74 : Iq74 5 6 = Iq70 5 6 := hqq74.2.2.1 5 6 rfl
                show jt _ 131 [(0, .ref (b + 5)), (1, .ref (b + 39)), (2, .int (jI 4)), (3, .int (jI v45))] [] (cmf b f0 Iq74 Aq74) _ _ _
                refine jt_iconst d_EX_replaceCall_131 ?_
                exact cm_ret d_EX_replaceCall_132 rfl rfl (⟨0, rfl, by omega, hpq74, hxq74, show 0 = 0 → Iq74 5 6 ≤ 100 by omega⟩)
              · skip
                refine jt_bipush d_EX_replaceCall_116 (by omega) ?_
                exact cm_ret d_EX_replaceCall_118 rfl rfl (⟨-7, rfl, by omega, hpq70, (cTok_of hqq70 hK rfl), show -7 = 0 → Iq70 5 6 ≤ 100 by omega⟩)
          · skip
            subst h6
            refine cm_ldT (z := 5) d_EX_replaceCall_96 (by omega) (by omega) ?_
            show jt _ 97 [(0, .ref (b + 5)), (1, .ref (b + 39)), (2, .int (jI 5)), (3, .int (jI v45))] [.ref (b + 34), .ref (b + 39), .ref (b + 5)] (cmf b f0 (cu I 5 6 v48) A) _ _ _
            refine jt_iload_n d_EX_replaceCall_97 rfl ?_
            refine cct_callV (Y := Y_EX_lengthAfter) (ci := 1) (k := 5) (As := [.ref (b + 39), .ref (b + 34), .int (jI v45)]) (rest := []) d_EX_replaceCall_98 EX_c65 yk_EX_lengthAfter yv_EX_lengthAfter rfl (Nat.le_of_ble_eq_true rfl) (by decide) cc_2 rfl rfl (Nat.le_of_ble_eq_true rfl) (v_EX_lengthAfter_34 G _ b v45 (cu I 5 6 v48) A p49.1 p49.2.1 hK (by omega)) (fun rvq75 Iq75 Aq75 hq75 => ?_)
            obtain ⟨yq75, rfl, ryq75, hqq75⟩ := hq75
            have hpq75 := cPo.trans p49 hqq75 rfl rfl
            have m5_5q75 : Iq75 5 5 = I 5 5 := hqq75.2.2.1 5 5 rfl
            have m5_6q75 : Iq75 5 6 = v48 := hqq75.2.2.1 5 6 rfl
            have m39_3q75 : Iq75 39 3 = I 39 3 := hqq75.2.2.1 39 3 rfl
            show jt _ 101 [(0, .ref (b + 5)), (1, .ref (b + 39)), (2, .int (jI 5)), (3, .int (jI v45))] [.int (jI yq75)] (cmf b f0 Iq75 Aq75) _ _ _
            refine jt_sipush d_EX_replaceCall_101 (by omega) ?_
            refine jt_icmp_gt (t := 116) d_EX_replaceCall_104 rfl (by unfold jRi; omega) (by unfold jRi; omega) (fun c76 => ?_) (fun c76 => ?_)
            · skip
              refine jt_bipush d_EX_replaceCall_116 (by omega) ?_
              exact cm_ret d_EX_replaceCall_118 rfl rfl (⟨-7, rfl, by omega, hpq75, (cTok_of hqq75 hK rfl), show -7 = 0 → Iq75 5 6 ≤ 100 by omega⟩)
            · skip
              refine jt_aload_n d_EX_replaceCall_107 rfl ?_
              refine cm_get (k := 5) (v := .int (jI (Iq75 5 6))) d_EX_replaceCall_108 EX_f45 (by decide) cc_2 rfl ?_
              have rb77 : 0 ≤ Iq75 5 6 ∧ Iq75 5 6 ≤ 101 := hpq75.1 5 6
              refine jt_bipush d_EX_replaceCall_111 (by omega) ?_
              refine jt_icmp_le (t := 119) d_EX_replaceCall_113 rfl (by unfold jRi; omega) (by unfold jRi; omega) (fun c78 => ?_) (fun c78 => ?_)
              · skip
                refine jt_aload_n d_EX_replaceCall_119 rfl ?_
                refine jt_aload_n d_EX_replaceCall_120 rfl ?_
                refine jt_aload_n d_EX_replaceCall_121 rfl ?_
                refine cm_get (k := 5) (v := .ref (b + 6)) d_EX_replaceCall_122 EX_f13 (by decide) cc_2 rfl ?_
                refine jt_iload_n d_EX_replaceCall_125 rfl ?_
                refine cm_ldT (z := 5) d_EX_replaceCall_126 (by omega) (by omega) ?_
                show jt _ 127 [(0, .ref (b + 5)), (1, .ref (b + 39)), (2, .int (jI 5)), (3, .int (jI v45))] [.ref (b + 34), .ref (b + 39), .ref (b + 5)] (cmf b f0 Iq75 Aq75) _ _ _
                refine jt_iload_n d_EX_replaceCall_127 rfl ?_
                refine cct_callV (Y := Y_EX_putBody) (ci := 1) (k := 5) (As := [.ref (b + 39), .ref (b + 34), .int (jI v45)]) (rest := []) d_EX_replaceCall_128 EX_c69 yk_EX_putBody yv_EX_putBody rfl (Nat.le_of_ble_eq_true rfl) (by decide) cc_2 rfl rfl (Nat.le_of_ble_eq_true rfl) (v_EX_putBody_34 G _ b v45 Iq75 Aq75 hpq75.1 hpq75.2.1 (cTok_of hqq75 hK rfl) (by omega) (show Iq75 5 5 < 300 by omega)) (fun rvq79 Iq79 Aq79 hq79 => ?_)
                obtain ⟨rfl, hqq79, hxq79⟩ := hq79
                have hpq79 := cPo.trans hpq75 hqq79 rfl rfl
                have m5_5q79 : Iq79 5 5 = Iq75 5 5 := hqq79.2.2.1 5 5 rfl
                have m5_6q79 : Iq79 5 6 = Iq75 5 6 := hqq79.2.2.1 5 6 rfl
                show jt _ 131 [(0, .ref (b + 5)), (1, .ref (b + 39)), (2, .int (jI 5)), (3, .int (jI v45))] [] (cmf b f0 Iq79 Aq79) _ _ _
                refine jt_iconst d_EX_replaceCall_131 ?_
                exact cm_ret d_EX_replaceCall_132 rfl rfl (⟨0, rfl, by omega, hpq79, hxq79, show 0 = 0 → Iq79 5 6 ≤ 100 by omega⟩)
              · skip
                refine jt_bipush d_EX_replaceCall_116 (by omega) ?_
                exact cm_ret d_EX_replaceCall_118 rfl rfl (⟨-7, rfl, by omega, hpq75, (cTok_of hqq75 hK rfl), show -7 = 0 → Iq75 5 6 ≤ 100 by omega⟩)
        · skip
          refine jt_bipush d_EX_replaceCall_76 (by omega) ?_
          exact cm_ret d_EX_replaceCall_78 rfl rfl (⟨-6, rfl, by omega, hz0, hK, show -6 = 0 → I 5 6 ≤ 100 by omega⟩)
    · skip
      refine jt_bipush d_EX_replaceCall_37 (by omega) ?_
      exact cm_ret d_EX_replaceCall_39 rfl rfl (⟨-5, rfl, by omega, hz0, hK, show -5 = 0 → I 5 6 ≤ 100 by omega⟩)
  · skip
    refine jt_bipush d_EX_replaceCall_20 (by omega) ?_
    exact cm_ret d_EX_replaceCall_22 rfl rfl (⟨-4, rfl, by omega, hz0, hK, show -4 = 0 → I 5 6 ≤ 100 by omega⟩)
set_option maxRecDepth 100000 in
set_option maxHeartbeats 4000000 in
theorem l20_EX_expandv (G : jG) (d b : Nat)  (I : Nat → Nat → Int) (A : Nat → Int → Int) (hI : cSI I) (hA : cSA A) (hK : cTok A) (f0 : jF) (sz : Nat)   : ∀ (n9 : Nat) (e : Int) (s : Int) (J : Nat → Nat → Int) (B : Nat → Int → Int), cPo [85, 86, 131, 627] [9, 10, 11, 12, 13, 40, 41, 42] I A J B → (-13 ≤ e ∧ e ≤ 0) → (0 ≤ s ∧ s ≤ 401) → (e = 0 → J 5 6 ≤ 100) → (cTok B) → 401 - s < (n9 : Int) → jt (jm G Y_EX_expand (gR (d + 4)) (cQ b f0 sz (fun (rv : Option Value) (I2 : Nat → Nat → Int) (A2 : Nat → Int → Int) => ∃ y : Int, rv = some (.int (jI y)) ∧ (-13 ≤ y ∧ y ≤ 0) ∧ cPo [85, 86, 131, 627] [9, 10, 11, 12, 13, 40, 41, 42] I A I2 A2 ∧ cTok A2))) 20 [(0, .ref (b + 5)), (1, .ref (b + 1)), (2, .ref (b + 39)), (3, .int (jI e)), (4, .int (jI s))] [] (cmf b f0 J B) sz 0 0 := by
  intro n9
  induction n9 with
  | zero =>
    intro e s J B hJ e0 s0 hr hKJ hmeas
    have r55 : 0 ≤ J 5 5 ∧ J 5 5 ≤ 300 := hJ.1 5 5
    have r39 : 0 ≤ J 39 3 ∧ J 39 3 ≤ 300 := hJ.1 39 3
    exfalso
    omega
  | succ n9 ih =>
    intro e s J B hJ e0 s0 hr hKJ hmeas
    have r55 : 0 ≤ J 5 5 ∧ J 5 5 ≤ 300 := hJ.1 5 5
    have r39 : 0 ≤ J 39 3 ∧ J 39 3 ≤ 300 := hJ.1 39 3
    refine jt_iload d_EX_expand_20 rfl ?_
    refine jt_sipush d_EX_expand_22 (by omega) ?_
    refine jt_icmp_ge (t := 100) d_EX_expand_25 rfl (by unfold jRi; omega) (by unfold jRi; omega) (fun c101 => ?_) (fun c101 => ?_)
    · skip
      refine jt_iload_n d_EX_expand_100 rfl ?_
      exact cm_ret d_EX_expand_101 rfl rfl (⟨e, rfl, by omega, hJ, hKJ⟩)
    · skip
      refine jt_aload_n d_EX_expand_28 rfl ?_
      refine cm_get (k := 5) (v := .int (jI (J 5 5))) d_EX_expand_29 EX_f42 (by decide) cc_2 rfl ?_
      have rb102 : 0 ≤ J 5 5 ∧ J 5 5 ≤ 300 := hJ.1 5 5
      refine jt_aload_n d_EX_expand_32 rfl ?_
      refine cm_get (k := 39) (v := .int (jI (J 39 3))) d_EX_expand_33 EX_f38 (by decide) (cc_1 rfl) rfl ?_
      have rb103 : 0 ≤ J 39 3 ∧ J 39 3 ≤ 300 := hJ.1 39 3
      refine jt_icmp_ge (t := 100) d_EX_expand_36 rfl (by unfold jRi; omega) (by unfold jRi; omega) (fun c104 => ?_) (fun c104 => ?_)
      · skip
        refine jt_iload_n d_EX_expand_100 rfl ?_
        exact cm_ret d_EX_expand_101 rfl rfl (⟨e, rfl, by omega, hJ, hKJ⟩)
      · skip
        refine jt_iload_n d_EX_expand_39 rfl ?_
        refine jt_if_ne (t := 100) d_EX_expand_40 rfl (by unfold jRi; omega) (fun c105 => ?_) (fun c105 => ?_)
        · skip
          refine jt_iload_n d_EX_expand_100 rfl ?_
          exact cm_ret d_EX_expand_101 rfl rfl (⟨e, rfl, by omega, hJ, hKJ⟩)
        · skip
          refine jt_aload_n d_EX_expand_43 rfl ?_
          refine cm_get (k := 39) (v := .ref (b + 40)) d_EX_expand_44 EX_f48 (by decide) (cc_1 rfl) rfl ?_
          refine jt_aload_n d_EX_expand_47 rfl ?_
          refine cm_get (k := 5) (v := .int (jI (J 5 5))) d_EX_expand_48 EX_f42 (by decide) cc_2 rfl ?_
          refine cm_ld0 (k := 40) (n := 300) (v := (B 40) (J 5 5)) d_EX_expand_51 (by decide) rfl rfl (by omega) (by omega) (by omega) rfl ?_
          refine jt_topi (fun v106 ev106 => ?_)
          have bv106 : -2147483648 ≤ v106 ∧ v106 ≤ 2147483647 := by rw [ev106]; exact hJ.2.1 40 (J 5 5)
          refine jt_iconst d_EX_expand_52 ?_
          refine jt_icmp_ne (t := 62) d_EX_expand_53 rfl (by unfold jRi; omega) (by unfold jRi; omega) (fun c107 => ?_) (fun c107 => ?_)
          · skip
            refine jt_aload_n d_EX_expand_62 rfl ?_
            refine cm_get (k := 39) (v := .ref (b + 40)) d_EX_expand_63 EX_f48 (by decide) (cc_1 rfl) rfl ?_
            refine jt_aload_n d_EX_expand_66 rfl ?_
            refine cm_get (k := 5) (v := .int (jI (J 5 5))) d_EX_expand_67 EX_f42 (by decide) cc_2 rfl ?_
            refine cm_ld0 (k := 40) (n := 300) (v := (B 40) (J 5 5)) d_EX_expand_70 (by decide) rfl rfl (by omega) (by omega) (by omega) rfl ?_
            refine jt_topi (fun v108 ev108 => ?_)
            have bv108 : -2147483648 ≤ v108 ∧ v108 ≤ 2147483647 := by rw [ev108]; exact hJ.2.1 40 (J 5 5)
            refine jt_iconst d_EX_expand_71 ?_
            refine jt_icmp_ne (t := 84) d_EX_expand_72 rfl (by unfold jRi; omega) (by unfold jRi; omega) (fun c109 => ?_) (fun c109 => ?_)
            · skip
              refine jt_aload_n d_EX_expand_84 rfl ?_
              refine jt_dup d_EX_expand_85 rfl ?_
              refine cm_get (k := 5) (v := .int (jI (J 5 5))) d_EX_expand_86 EX_f42 (by decide) cc_2 rfl ?_
              refine jt_iconst d_EX_expand_89 ?_
              refine jt_iadd d_EX_expand_90 ?_
              refine jt_topi (fun v110 ev110 => ?_)
              refine cm_put (k := 5) (j := 5) (v := v110) d_EX_expand_91 (EX_w42 _ rfl) (by decide) cc_2 rfl rfl (Nat.le_of_ble_eq_true rfl) rfl ?_
              have p111 := cPo.I 5 5 v110 hJ rfl (show 0 ≤ v110 ∧ v110 ≤ 300 by omega)
              refine jt_iinc (L' := [(0, .ref (b + 5)), (1, .ref (b + 1)), (2, .ref (b + 39)), (3, .int (jI e)), (4, .int (jI (s + 1)))]) d_EX_expand_94 rfl (Nat.le_of_ble_eq_true rfl) rfl ?_
              refine jt_goto (t := 20) d_EX_expand_97 rfl ?_
              exact ih e (s + 1) (cu J 5 5 v110) B p111 (by omega) (by omega) (show e = 0 → J 5 6 ≤ 100 by omega) hKJ (by omega)
            · skip
              refine jt_aload_n d_EX_expand_75 rfl ?_
              refine jt_aload_n d_EX_expand_76 rfl ?_
              refine cct_callV (Y := Y_EX_replaceCall) (ci := 1) (k := 5) (As := [.ref (b + 39)]) (rest := []) d_EX_expand_77 EX_c51 yk_EX_replaceCall yv_EX_replaceCall rfl (Nat.le_of_ble_eq_true rfl) (by decide) cc_2 rfl rfl (Nat.le_of_ble_eq_true rfl) (v_EX_replaceCall G _ b  J B hJ.1 hJ.2.1 hKJ (show J 5 5 < J 39 3 by omega) (by omega) (show J 5 6 ≤ 100 by omega)) (fun rvq112 Iq112 Aq112 hq112 => ?_)
              obtain ⟨yq112, rfl, ryq112, hqq112, hxq112⟩ := hq112
              have hpq112 := cPo.trans hJ hqq112 rfl rfl
              have m5_5q112 : Iq112 5 5 = J 5 5 := hqq112.2.2.1 5 5 rfl
              show jt _ 80 [(0, .ref (b + 5)), (1, .ref (b + 1)), (2, .ref (b + 39)), (3, .int (jI e)), (4, .int (jI s))] [.int (jI yq112)] (cmf b f0 Iq112 Aq112) _ _ _
              refine jt_istore_n (L' := [(0, .ref (b + 5)), (1, .ref (b + 1)), (2, .ref (b + 39)), (3, .int (jI yq112)), (4, .int (jI s))]) d_EX_expand_80 (Nat.le_of_ble_eq_true rfl) rfl ?_
              refine jt_goto (t := 94) d_EX_expand_81 rfl ?_
              refine jt_iinc (L' := [(0, .ref (b + 5)), (1, .ref (b + 1)), (2, .ref (b + 39)), (3, .int (jI yq112)), (4, .int (jI (s + 1)))]) d_EX_expand_94 rfl (Nat.le_of_ble_eq_true rfl) rfl ?_
              refine jt_goto (t := 20) d_EX_expand_97 rfl ?_
              exact ih yq112 (s + 1) Iq112 Aq112 hpq112 (by omega) (by omega) (show yq112 = 0 → Iq112 5 6 ≤ 100 by omega) hxq112.1 (by omega)
          · skip
            refine jt_bipush d_EX_expand_56 (by omega) ?_
            refine jt_istore_n (L' := [(0, .ref (b + 5)), (1, .ref (b + 1)), (2, .ref (b + 39)), (3, .int (jI (-3))), (4, .int (jI s))]) d_EX_expand_58 (Nat.le_of_ble_eq_true rfl) rfl ?_
            refine jt_goto (t := 94) d_EX_expand_59 rfl ?_
            refine jt_iinc (L' := [(0, .ref (b + 5)), (1, .ref (b + 1)), (2, .ref (b + 39)), (3, .int (jI (-3))), (4, .int (jI (s + 1)))]) d_EX_expand_94 rfl (Nat.le_of_ble_eq_true rfl) rfl ?_
            refine jt_goto (t := 20) d_EX_expand_97 rfl ?_
            exact ih (-3) (s + 1) J B hJ (by omega) (by omega) (show -3 = 0 → J 5 6 ≤ 100 by omega) hKJ (by omega)
set_option maxRecDepth 100000 in
set_option maxHeartbeats 4000000 in
theorem v_EX_expand (G : jG) (d b : Nat)  (I : Nat → Nat → Int) (A : Nat → Int → Int) (hI : cSI I) (hA : cSA A) (hK : cTok A) : cct G Y_EX_expand (d + 4) b [.ref (b + 5), .ref (b + 1), .ref (b + 39)] I A (fun (rv : Option Value) (I2 : Nat → Nat → Int) (A2 : Nat → Int → Int) => ∃ y : Int, rv = some (.int (jI y)) ∧ (-13 ≤ y ∧ y ≤ 0) ∧ cPo [85, 86, 131, 627] [9, 10, 11, 12, 13, 40, 41, 42] I A I2 A2 ∧ cTok A2) := by
  refine cct_of (by decide) (Nat.le_of_ble_eq_true rfl) (fun f0 sz => ?_)
  show jt _ 0 [(0, .ref (b + 5)), (1, .ref (b + 1)), (2, .ref (b + 39))] [] _ _ _ _
  have hz0 : cPo [85, 86, 131, 627] [9, 10, 11, 12, 13, 40, 41, 42] I A I A := cPo.refl hI hA
  refine jt_aload_n d_EX_expand_0 rfl ?_
  refine jt_aload_n d_EX_expand_1 rfl ?_
  refine cct_callV (Y := Y_TR_copy) (ci := 0) (k := 39) (As := [.ref (b + 1)]) (rest := []) d_EX_expand_2 EX_c34 yk_TR_copy yv_TR_copy rfl (Nat.le_of_ble_eq_true rfl) (by decide) (cc_1 rfl) rfl rfl (Nat.le_of_ble_eq_true rfl) (v_TR_copy_39 G _ b  I A hz0.1 hz0.2.1 ) (fun rvq1 Iq1 Aq1 hq1 => ?_)
  obtain ⟨rfl, hqq1, hxq1⟩ := hq1
  have hpq1 := cPo.trans hz0 hqq1 rfl rfl
  have m5_5q1 : Iq1 5 5 = I 5 5 := hqq1.2.2.1 5 5 rfl
  have m5_6q1 : Iq1 5 6 = I 5 6 := hqq1.2.2.1 5 6 rfl
  show jt _ 5 [(0, .ref (b + 5)), (1, .ref (b + 1)), (2, .ref (b + 39))] [] (cmf b f0 Iq1 Aq1) _ _ _
  refine jt_aload_n d_EX_expand_5 rfl ?_
  refine jt_iconst d_EX_expand_6 ?_
  refine cm_put (k := 5) (j := 5) (v := 0) d_EX_expand_7 (EX_w42 _ rfl) (by decide) cc_2 rfl rfl (Nat.le_of_ble_eq_true rfl) rfl ?_
  have p2 := cPo.I 5 5 0 hpq1 rfl (show 0 ≤ 0 ∧ 0 ≤ 300 by omega)
  refine jt_aload_n d_EX_expand_10 rfl ?_
  refine jt_iconst d_EX_expand_11 ?_
  refine cm_put (k := 5) (j := 6) (v := 0) d_EX_expand_12 (EX_w45 _ rfl) (by decide) cc_2 rfl rfl (Nat.le_of_ble_eq_true rfl) rfl ?_
  have p3 := cPo.I 5 6 0 p2 rfl (show 0 ≤ 0 ∧ 0 ≤ 101 by omega)
  refine jt_iconst d_EX_expand_15 ?_
  refine jt_istore_n (L' := [(0, .ref (b + 5)), (1, .ref (b + 1)), (2, .ref (b + 39)), (3, .int (jI 0))]) d_EX_expand_16 (Nat.le_of_ble_eq_true rfl) rfl ?_
  refine jt_iconst d_EX_expand_17 ?_
  refine jt_istore (L' := [(0, .ref (b + 5)), (1, .ref (b + 1)), (2, .ref (b + 39)), (3, .int (jI 0)), (4, .int (jI 0))]) d_EX_expand_18 (Nat.le_of_ble_eq_true rfl) rfl ?_
  exact l20_EX_expandv G d b  I A hI hA hK f0 sz  402 0 0 (cu (cu Iq1 5 5 0) 5 6 0) Aq1 p3 (by omega) (by omega) (show 0 = 0 → 0 ≤ 100 by omega) (hxq1 hK) (by omega)
set_option maxRecDepth 100000 in
set_option maxHeartbeats 4000000 in
theorem v_EX_define (G : jG) (d b : Nat) (q : Int) (n : Int) (I : Nat → Nat → Int) (A : Nat → Int → Int) (hI : cSI I) (hA : cSA A) (hK : cTok A) (hq : 0 ≤ q ∧ q ≤ 5) (hn : 0 ≤ n ∧ n ≤ 3) : cct G Y_EX_define (d + 3) b [.ref (b + 5), .int (jI q), .int (jI n), .ref (b + 1)] I A (fun (rv : Option Value) (I2 : Nat → Nat → Int) (A2 : Nat → Int → Int) => rv = none ∧ cPo [227, 291, 355, 419, 483, 547] [7, 15, 16, 17, 19, 20, 21, 23, 24, 25, 27, 28, 29, 31, 32, 33, 35, 36, 37] I A I2 A2 ∧ cTok A2) := by
  refine cct_of (by decide) (Nat.le_of_ble_eq_true rfl) (fun f0 sz => ?_)
  show jt _ 0 [(0, .ref (b + 5)), (1, .int (jI q)), (2, .int (jI n)), (3, .ref (b + 1))] [] _ _ _ _
  have hz0 : cPo [227, 291, 355, 419, 483, 547] [7, 15, 16, 17, 19, 20, 21, 23, 24, 25, 27, 28, 29, 31, 32, 33, 35, 36, 37] I A I A := cPo.refl hI hA
  refine jt_aload_n d_EX_define_0 rfl ?_
  refine cm_get (k := 5) (v := .ref (b + 6)) d_EX_define_1 EX_f13 (by decide) cc_2 rfl ?_
  refine jt_iload_n d_EX_define_4 rfl ?_
  have h6 : q = 0 ∨ q = 1 ∨ q = 2 ∨ q = 3 ∨ q = 4 ∨ q = 5 := by omega
  rcases h6 with h6 | h6 | h6 | h6 | h6 | h6
  · skip
    subst h6
    refine cm_ldT (z := 0) d_EX_define_5 (by omega) (by omega) ?_
    show jt _ 6 [(0, .ref (b + 5)), (1, .int (jI 0)), (2, .int (jI n)), (3, .ref (b + 1))] [.ref (b + 14)] (cmf b f0 I A) _ _ _
    refine jt_aload_n d_EX_define_6 rfl ?_
    refine cct_callV (Y := Y_TR_copy) (ci := 0) (k := 14) (As := [.ref (b + 1)]) (rest := []) d_EX_define_7 EX_c34 yk_TR_copy yv_TR_copy rfl (Nat.le_of_ble_eq_true rfl) (by decide) (cc_1 rfl) rfl rfl (Nat.le_of_ble_eq_true rfl) (v_TR_copy_14 G _ b  I A hz0.1 hz0.2.1 ) (fun rvq1 Iq1 Aq1 hq1 => ?_)
    obtain ⟨rfl, hqq1, hxq1⟩ := hq1
    have hpq1 := cPo.trans hz0 hqq1 rfl rfl
    show jt _ 10 [(0, .ref (b + 5)), (1, .int (jI 0)), (2, .int (jI n)), (3, .ref (b + 1))] [] (cmf b f0 Iq1 Aq1) _ _ _
    refine jt_aload_n d_EX_define_10 rfl ?_
    refine cm_get (k := 5) (v := .ref (b + 7)) d_EX_define_11 EX_f17 (by decide) cc_2 rfl ?_
    refine jt_iload_n d_EX_define_14 rfl ?_
    refine jt_iload_n d_EX_define_15 rfl ?_
    refine cm_st0 (k := 7) (n := 6) (v := n) d_EX_define_16 (by decide) rfl rfl (by omega) (by omega) (by omega) ?_
    have p2 := cPo.A 7 (ju (Aq1 7) 0 n) hpq1 (Or.inl rfl) (gju (hpq1.2.1 7) (show -1 ≤ n ∧ n ≤ 3 by omega))
    exact cm_vret d_EX_define_17 rfl (⟨rfl, p2, cTok_n 7 _ (hxq1 hK) rfl⟩)
  · skip
    subst h6
    refine cm_ldT (z := 1) d_EX_define_5 (by omega) (by omega) ?_
    show jt _ 6 [(0, .ref (b + 5)), (1, .int (jI 1)), (2, .int (jI n)), (3, .ref (b + 1))] [.ref (b + 18)] (cmf b f0 I A) _ _ _
    refine jt_aload_n d_EX_define_6 rfl ?_
    refine cct_callV (Y := Y_TR_copy) (ci := 0) (k := 18) (As := [.ref (b + 1)]) (rest := []) d_EX_define_7 EX_c34 yk_TR_copy yv_TR_copy rfl (Nat.le_of_ble_eq_true rfl) (by decide) (cc_1 rfl) rfl rfl (Nat.le_of_ble_eq_true rfl) (v_TR_copy_18 G _ b  I A hz0.1 hz0.2.1 ) (fun rvq3 Iq3 Aq3 hq3 => ?_)
    obtain ⟨rfl, hqq3, hxq3⟩ := hq3
    have hpq3 := cPo.trans hz0 hqq3 rfl rfl
    show jt _ 10 [(0, .ref (b + 5)), (1, .int (jI 1)), (2, .int (jI n)), (3, .ref (b + 1))] [] (cmf b f0 Iq3 Aq3) _ _ _
    refine jt_aload_n d_EX_define_10 rfl ?_
    refine cm_get (k := 5) (v := .ref (b + 7)) d_EX_define_11 EX_f17 (by decide) cc_2 rfl ?_
    refine jt_iload_n d_EX_define_14 rfl ?_
    refine jt_iload_n d_EX_define_15 rfl ?_
    refine cm_st0 (k := 7) (n := 6) (v := n) d_EX_define_16 (by decide) rfl rfl (by omega) (by omega) (by omega) ?_
    have p4 := cPo.A 7 (ju (Aq3 7) 1 n) hpq3 (Or.inl rfl) (gju (hpq3.2.1 7) (show -1 ≤ n ∧ n ≤ 3 by omega))
    exact cm_vret d_EX_define_17 rfl (⟨rfl, p4, cTok_n 7 _ (hxq3 hK) rfl⟩)
  · skip
    subst h6
    refine cm_ldT (z := 2) d_EX_define_5 (by omega) (by omega) ?_
    show jt _ 6 [(0, .ref (b + 5)), (1, .int (jI 2)), (2, .int (jI n)), (3, .ref (b + 1))] [.ref (b + 22)] (cmf b f0 I A) _ _ _
    refine jt_aload_n d_EX_define_6 rfl ?_
    refine cct_callV (Y := Y_TR_copy) (ci := 0) (k := 22) (As := [.ref (b + 1)]) (rest := []) d_EX_define_7 EX_c34 yk_TR_copy yv_TR_copy rfl (Nat.le_of_ble_eq_true rfl) (by decide) (cc_1 rfl) rfl rfl (Nat.le_of_ble_eq_true rfl) (v_TR_copy_22 G _ b  I A hz0.1 hz0.2.1 ) (fun rvq5 Iq5 Aq5 hq5 => ?_)
    obtain ⟨rfl, hqq5, hxq5⟩ := hq5
    have hpq5 := cPo.trans hz0 hqq5 rfl rfl
    show jt _ 10 [(0, .ref (b + 5)), (1, .int (jI 2)), (2, .int (jI n)), (3, .ref (b + 1))] [] (cmf b f0 Iq5 Aq5) _ _ _
    refine jt_aload_n d_EX_define_10 rfl ?_
    refine cm_get (k := 5) (v := .ref (b + 7)) d_EX_define_11 EX_f17 (by decide) cc_2 rfl ?_
    refine jt_iload_n d_EX_define_14 rfl ?_
    refine jt_iload_n d_EX_define_15 rfl ?_
    refine cm_st0 (k := 7) (n := 6) (v := n) d_EX_define_16 (by decide) rfl rfl (by omega) (by omega) (by omega) ?_
    have p6 := cPo.A 7 (ju (Aq5 7) 2 n) hpq5 (Or.inl rfl) (gju (hpq5.2.1 7) (show -1 ≤ n ∧ n ≤ 3 by omega))
    exact cm_vret d_EX_define_17 rfl (⟨rfl, p6, cTok_n 7 _ (hxq5 hK) rfl⟩)
  · skip
    subst h6
    refine cm_ldT (z := 3) d_EX_define_5 (by omega) (by omega) ?_
    show jt _ 6 [(0, .ref (b + 5)), (1, .int (jI 3)), (2, .int (jI n)), (3, .ref (b + 1))] [.ref (b + 26)] (cmf b f0 I A) _ _ _
    refine jt_aload_n d_EX_define_6 rfl ?_
    refine cct_callV (Y := Y_TR_copy) (ci := 0) (k := 26) (As := [.ref (b + 1)]) (rest := []) d_EX_define_7 EX_c34 yk_TR_copy yv_TR_copy rfl (Nat.le_of_ble_eq_true rfl) (by decide) (cc_1 rfl) rfl rfl (Nat.le_of_ble_eq_true rfl) (v_TR_copy_26 G _ b  I A hz0.1 hz0.2.1 ) (fun rvq7 Iq7 Aq7 hq7 => ?_)
    obtain ⟨rfl, hqq7, hxq7⟩ := hq7
    have hpq7 := cPo.trans hz0 hqq7 rfl rfl
    show jt _ 10 [(0, .ref (b + 5)), (1, .int (jI 3)), (2, .int (jI n)), (3, .ref (b + 1))] [] (cmf b f0 Iq7 Aq7) _ _ _
    refine jt_aload_n d_EX_define_10 rfl ?_
    refine cm_get (k := 5) (v := .ref (b + 7)) d_EX_define_11 EX_f17 (by decide) cc_2 rfl ?_
    refine jt_iload_n d_EX_define_14 rfl ?_
    refine jt_iload_n d_EX_define_15 rfl ?_
    refine cm_st0 (k := 7) (n := 6) (v := n) d_EX_define_16 (by decide) rfl rfl (by omega) (by omega) (by omega) ?_
    have p8 := cPo.A 7 (ju (Aq7 7) 3 n) hpq7 (Or.inl rfl) (gju (hpq7.2.1 7) (show -1 ≤ n ∧ n ≤ 3 by omega))
    exact cm_vret d_EX_define_17 rfl (⟨rfl, p8, cTok_n 7 _ (hxq7 hK) rfl⟩)
  · skip
    subst h6
    refine cm_ldT (z := 4) d_EX_define_5 (by omega) (by omega) ?_
    show jt _ 6 [(0, .ref (b + 5)), (1, .int (jI 4)), (2, .int (jI n)), (3, .ref (b + 1))] [.ref (b + 30)] (cmf b f0 I A) _ _ _
    refine jt_aload_n d_EX_define_6 rfl ?_
    refine cct_callV (Y := Y_TR_copy) (ci := 0) (k := 30) (As := [.ref (b + 1)]) (rest := []) d_EX_define_7 EX_c34 yk_TR_copy yv_TR_copy rfl (Nat.le_of_ble_eq_true rfl) (by decide) (cc_1 rfl) rfl rfl (Nat.le_of_ble_eq_true rfl) (v_TR_copy_30 G _ b  I A hz0.1 hz0.2.1 ) (fun rvq9 Iq9 Aq9 hq9 => ?_)
    obtain ⟨rfl, hqq9, hxq9⟩ := hq9
    have hpq9 := cPo.trans hz0 hqq9 rfl rfl
    show jt _ 10 [(0, .ref (b + 5)), (1, .int (jI 4)), (2, .int (jI n)), (3, .ref (b + 1))] [] (cmf b f0 Iq9 Aq9) _ _ _
    refine jt_aload_n d_EX_define_10 rfl ?_
    refine cm_get (k := 5) (v := .ref (b + 7)) d_EX_define_11 EX_f17 (by decide) cc_2 rfl ?_
    refine jt_iload_n d_EX_define_14 rfl ?_
    refine jt_iload_n d_EX_define_15 rfl ?_
    refine cm_st0 (k := 7) (n := 6) (v := n) d_EX_define_16 (by decide) rfl rfl (by omega) (by omega) (by omega) ?_
    have p10 := cPo.A 7 (ju (Aq9 7) 4 n) hpq9 (Or.inl rfl) (gju (hpq9.2.1 7) (show -1 ≤ n ∧ n ≤ 3 by omega))
    exact cm_vret d_EX_define_17 rfl (⟨rfl, p10, cTok_n 7 _ (hxq9 hK) rfl⟩)
  · skip
    subst h6
    refine cm_ldT (z := 5) d_EX_define_5 (by omega) (by omega) ?_
    show jt _ 6 [(0, .ref (b + 5)), (1, .int (jI 5)), (2, .int (jI n)), (3, .ref (b + 1))] [.ref (b + 34)] (cmf b f0 I A) _ _ _
    refine jt_aload_n d_EX_define_6 rfl ?_
    refine cct_callV (Y := Y_TR_copy) (ci := 0) (k := 34) (As := [.ref (b + 1)]) (rest := []) d_EX_define_7 EX_c34 yk_TR_copy yv_TR_copy rfl (Nat.le_of_ble_eq_true rfl) (by decide) (cc_1 rfl) rfl rfl (Nat.le_of_ble_eq_true rfl) (v_TR_copy_34 G _ b  I A hz0.1 hz0.2.1 ) (fun rvq11 Iq11 Aq11 hq11 => ?_)
    obtain ⟨rfl, hqq11, hxq11⟩ := hq11
    have hpq11 := cPo.trans hz0 hqq11 rfl rfl
    show jt _ 10 [(0, .ref (b + 5)), (1, .int (jI 5)), (2, .int (jI n)), (3, .ref (b + 1))] [] (cmf b f0 Iq11 Aq11) _ _ _
    refine jt_aload_n d_EX_define_10 rfl ?_
    refine cm_get (k := 5) (v := .ref (b + 7)) d_EX_define_11 EX_f17 (by decide) cc_2 rfl ?_
    refine jt_iload_n d_EX_define_14 rfl ?_
    refine jt_iload_n d_EX_define_15 rfl ?_
    refine cm_st0 (k := 7) (n := 6) (v := n) d_EX_define_16 (by decide) rfl rfl (by omega) (by omega) (by omega) ?_
    have p12 := cPo.A 7 (ju (Aq11 7) 5 n) hpq11 (Or.inl rfl) (gju (hpq11.2.1 7) (show -1 ≤ n ∧ n ≤ 3 by omega))
    exact cm_vret d_EX_define_17 rfl (⟨rfl, p12, cTok_n 7 _ (hxq11 hK) rfl⟩)
set_option maxRecDepth 100000 in
set_option maxHeartbeats 4000000 in
theorem v_EX_bodyLength (G : jG) (d b : Nat) (q : Int) (I : Nat → Nat → Int) (A : Nat → Int → Int) (hI : cSI I) (hA : cSA A) (hq : 0 ≤ q ∧ q ≤ 5) : cct G Y_EX_bodyLength d b [.ref (b + 5), .int (jI q)] I A (fun (rv : Option Value) (I2 : Nat → Nat → Int) (A2 : Nat → Int → Int) => ∃ y : Int, rv = some (.int (jI y)) ∧ (-2147483648 ≤ y ∧ y ≤ 2147483647) ∧ cPo [] [] I A I2 A2) := by
  refine cct_of (by decide) (Nat.le_of_ble_eq_true rfl) (fun f0 sz => ?_)
  show jt _ 0 [(0, .ref (b + 5)), (1, .int (jI q))] [] _ _ _ _
  have hz0 : cPo [] [] I A I A := cPo.refl hI hA
  refine jt_aload_n d_EX_bodyLength_0 rfl ?_
  refine cm_get (k := 5) (v := .ref (b + 7)) d_EX_bodyLength_1 EX_f17 (by decide) cc_2 rfl ?_
  refine jt_iload_n d_EX_bodyLength_4 rfl ?_
  refine cm_ld0 (k := 7) (n := 6) (v := (A 7) q) d_EX_bodyLength_5 (by decide) rfl rfl (by omega) (by omega) (by omega) rfl ?_
  refine jt_topi (fun v1 ev1 => ?_)
  have bv1 : -1 ≤ v1 ∧ v1 ≤ 3 := by rw [ev1]; exact hz0.2.1 7 q
  refine jt_iconst d_EX_bodyLength_6 ?_
  refine jt_icmp_ne (t := 15) d_EX_bodyLength_7 rfl (by unfold jRi; omega) (by unfold jRi; omega) (fun c2 => ?_) (fun c2 => ?_)
  · skip
    refine jt_aload_n d_EX_bodyLength_15 rfl ?_
    refine cm_get (k := 5) (v := .ref (b + 6)) d_EX_bodyLength_16 EX_f13 (by decide) cc_2 rfl ?_
    refine jt_iload_n d_EX_bodyLength_19 rfl ?_
    have h6 : q = 0 ∨ q = 1 ∨ q = 2 ∨ q = 3 ∨ q = 4 ∨ q = 5 := by omega
    rcases h6 with h6 | h6 | h6 | h6 | h6 | h6
    · skip
      subst h6
      refine cm_ldT (z := 0) d_EX_bodyLength_20 (by omega) (by omega) ?_
      show jt _ 21 [(0, .ref (b + 5)), (1, .int (jI 0))] [.ref (b + 14)] (cmf b f0 I A) _ _ _
      refine cm_get (k := 14) (v := .int (jI (I 14 3))) d_EX_bodyLength_21 EX_f38 (by decide) (cc_1 rfl) rfl ?_
      have rb3 : 0 ≤ I 14 3 ∧ I 14 3 ≤ 40 := hz0.1 14 3
      exact cm_ret d_EX_bodyLength_24 rfl rfl (⟨I 14 3, rfl, by omega, hz0⟩)
    · skip
      subst h6
      refine cm_ldT (z := 1) d_EX_bodyLength_20 (by omega) (by omega) ?_
      show jt _ 21 [(0, .ref (b + 5)), (1, .int (jI 1))] [.ref (b + 18)] (cmf b f0 I A) _ _ _
      refine cm_get (k := 18) (v := .int (jI (I 18 3))) d_EX_bodyLength_21 EX_f38 (by decide) (cc_1 rfl) rfl ?_
      have rb4 : 0 ≤ I 18 3 ∧ I 18 3 ≤ 40 := hz0.1 18 3
      exact cm_ret d_EX_bodyLength_24 rfl rfl (⟨I 18 3, rfl, by omega, hz0⟩)
    · skip
      subst h6
      refine cm_ldT (z := 2) d_EX_bodyLength_20 (by omega) (by omega) ?_
      show jt _ 21 [(0, .ref (b + 5)), (1, .int (jI 2))] [.ref (b + 22)] (cmf b f0 I A) _ _ _
      refine cm_get (k := 22) (v := .int (jI (I 22 3))) d_EX_bodyLength_21 EX_f38 (by decide) (cc_1 rfl) rfl ?_
      have rb5 : 0 ≤ I 22 3 ∧ I 22 3 ≤ 40 := hz0.1 22 3
      exact cm_ret d_EX_bodyLength_24 rfl rfl (⟨I 22 3, rfl, by omega, hz0⟩)
    · skip
      subst h6
      refine cm_ldT (z := 3) d_EX_bodyLength_20 (by omega) (by omega) ?_
      show jt _ 21 [(0, .ref (b + 5)), (1, .int (jI 3))] [.ref (b + 26)] (cmf b f0 I A) _ _ _
      refine cm_get (k := 26) (v := .int (jI (I 26 3))) d_EX_bodyLength_21 EX_f38 (by decide) (cc_1 rfl) rfl ?_
      have rb6 : 0 ≤ I 26 3 ∧ I 26 3 ≤ 40 := hz0.1 26 3
      exact cm_ret d_EX_bodyLength_24 rfl rfl (⟨I 26 3, rfl, by omega, hz0⟩)
    · skip
      subst h6
      refine cm_ldT (z := 4) d_EX_bodyLength_20 (by omega) (by omega) ?_
      show jt _ 21 [(0, .ref (b + 5)), (1, .int (jI 4))] [.ref (b + 30)] (cmf b f0 I A) _ _ _
      refine cm_get (k := 30) (v := .int (jI (I 30 3))) d_EX_bodyLength_21 EX_f38 (by decide) (cc_1 rfl) rfl ?_
      have rb7 : 0 ≤ I 30 3 ∧ I 30 3 ≤ 40 := hz0.1 30 3
      exact cm_ret d_EX_bodyLength_24 rfl rfl (⟨I 30 3, rfl, by omega, hz0⟩)
    · skip
      subst h6
      refine cm_ldT (z := 5) d_EX_bodyLength_20 (by omega) (by omega) ?_
      show jt _ 21 [(0, .ref (b + 5)), (1, .int (jI 5))] [.ref (b + 34)] (cmf b f0 I A) _ _ _
      refine cm_get (k := 34) (v := .int (jI (I 34 3))) d_EX_bodyLength_21 EX_f38 (by decide) (cc_1 rfl) rfl ?_
      have rb8 : 0 ≤ I 34 3 ∧ I 34 3 ≤ 40 := hz0.1 34 3
      exact cm_ret d_EX_bodyLength_24 rfl rfl (⟨I 34 3, rfl, by omega, hz0⟩)
  · skip
    refine jt_bipush d_EX_bodyLength_10 (by omega) ?_
    refine jt_goto (t := 24) d_EX_bodyLength_12 rfl ?_
    exact cm_ret d_EX_bodyLength_24 rfl rfl (⟨-2, rfl, by omega, hz0⟩)

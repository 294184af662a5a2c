set_option maxRecDepth 100000 in
set_option maxHeartbeats 4000000 in
theorem l4_EX_endOfArgumentv (G : jG) (d b : Nat) (q : Int) (I : Nat → Nat → Int) (A : Nat → Int → Int) (hI : cSI I) (hA : cSA A) (hq : 0 ≤ q ∧ q ≤ 300) (f0 : jF) (sz : Nat)  : ∀ (n9 : Nat) (n : Int) (e : Int) (J : Nat → Nat → Int) (B : Nat → Int → Int), cPo [] [] I A J B → (q ≤ e ∧ e ≤ 300) → (-e ≤ n ∧ n ≤ e) → 300 - e < (n9 : Int) → jt (jm G Y_EX_endOfArgument (gR (d + 1)) (cQ b f0 sz (fun (rv : Option Value) (I2 : Nat → Nat → Int) (A2 : Nat → Int → Int) => ∃ y : Int, rv = some (.int (jI y)) ∧ (0 ≤ y ∧ y ≤ 300) ∧ cPo [] [] I A I2 A2))) 4 [(0, .ref (b + 39)), (1, .int (jI q)), (2, .int (jI n)), (3, .int (jI e))] [] (cmf b f0 J B) sz 0 0 := by
  intro n9
  induction n9 with
  | zero =>
    intro n e J B hJ e0 n0 hmeas
    have f39 : J 39 3 = I 39 3 := hJ.2.2.1 39 3 rfl
    have l39 : 0 ≤ J 39 3 ∧ J 39 3 ≤ 300 := hJ.1 39 3
    exfalso
    omega
  | succ n9 ih =>
    intro n e J B hJ e0 n0 hmeas
    have f39 : J 39 3 = I 39 3 := hJ.2.2.1 39 3 rfl
    have l39 : 0 ≤ J 39 3 ∧ J 39 3 ≤ 300 := hJ.1 39 3
    refine jt_iload_n d_EX_endOfArgument_4 rfl ?_
    refine jt_aload_n d_EX_endOfArgument_5 rfl ?_
    refine cm_get (k := 39) (v := .int (jI (J 39 3))) d_EX_endOfArgument_6 EX_f38 (by decide) (cc_1 rfl) rfl ?_
    have rb101 : 0 ≤ J 39 3 ∧ J 39 3 ≤ 300 := hJ.1 39 3
    refine jt_icmp_ge (t := 69) d_EX_endOfArgument_9 rfl (by unfold jRi; omega) (by unfold jRi; omega) (fun c102 => ?_) (fun c102 => ?_)
    · skip
      refine jt_aload_n d_EX_endOfArgument_69 rfl ?_
      refine cm_get (k := 39) (v := .int (jI (J 39 3))) d_EX_endOfArgument_70 EX_f38 (by decide) (cc_1 rfl) rfl ?_
      exact cm_ret d_EX_endOfArgument_73 rfl rfl (⟨J 39 3, rfl, by omega, hJ⟩)
    · skip
      refine jt_aload_n d_EX_endOfArgument_12 rfl ?_
      refine jt_iload_n d_EX_endOfArgument_13 rfl ?_
      refine jt_iconst d_EX_endOfArgument_14 ?_
      refine cct_callV (Y := Y_TR_isWord) (ci := 0) (k := 39) (As := [.int (jI e), .int (jI 4)]) (rest := []) d_EX_endOfArgument_15 EX_c73 yk_TR_isWord yv_TR_isWord rfl (Nat.le_of_ble_eq_true rfl) (by decide) (cc_1 rfl) rfl rfl (Nat.le_of_ble_eq_true rfl) (v_TR_isWord G _ b e 4 J B hJ.1 hJ.2.1 (by omega) (by omega)) (fun rvq103 Iq103 Aq103 hq103 => ?_)
      obtain ⟨yq103, rfl, ryq103, hqq103, hxq103⟩ := hq103
      have hpq103 := cPo.trans hJ hqq103 rfl rfl
      show jt _ 18 [(0, .ref (b + 39)), (1, .int (jI q)), (2, .int (jI n)), (3, .int (jI e))] [.int (jI yq103)] (cmf b f0 Iq103 Aq103) _ _ _
      refine jt_istore (L' := [(0, .ref (b + 39)), (1, .int (jI q)), (2, .int (jI n)), (3, .int (jI e)), (4, .int (jI yq103))]) d_EX_endOfArgument_18 (Nat.le_of_ble_eq_true rfl) rfl ?_
      refine jt_iload_n d_EX_endOfArgument_20 rfl ?_
      refine jt_if_ne (t := 40) d_EX_endOfArgument_21 rfl (by unfold jRi; omega) (fun c104 => ?_) (fun c104 => ?_)
      · skip
        refine jt_iload d_EX_endOfArgument_40 rfl ?_
        refine jt_if_eq (t := 51) d_EX_endOfArgument_42 rfl (by unfold jRi; omega) (fun c105 => ?_) (fun c105 => ?_)
        · skip
          refine jt_aload_n d_EX_endOfArgument_51 rfl ?_
          refine jt_iload_n d_EX_endOfArgument_52 rfl ?_
          refine jt_iconst d_EX_endOfArgument_53 ?_
          refine cct_callV (Y := Y_TR_isWord) (ci := 0) (k := 39) (As := [.int (jI e), .int (jI 3)]) (rest := []) d_EX_endOfArgument_54 EX_c73 yk_TR_isWord yv_TR_isWord rfl (Nat.le_of_ble_eq_true rfl) (by decide) (cc_1 rfl) rfl rfl (Nat.le_of_ble_eq_true rfl) (v_TR_isWord G _ b e 3 Iq103 Aq103 hpq103.1 hpq103.2.1 (by omega) (by omega)) (fun rvq106 Iq106 Aq106 hq106 => ?_)
          obtain ⟨yq106, rfl, ryq106, hqq106, hxq106⟩ := hq106
          have hpq106 := cPo.trans hpq103 hqq106 rfl rfl
          show jt _ 57 [(0, .ref (b + 39)), (1, .int (jI q)), (2, .int (jI n)), (3, .int (jI e)), (4, .int (jI yq103))] [.int (jI yq106)] (cmf b f0 Iq106 Aq106) _ _ _
          refine jt_if_eq (t := 63) d_EX_endOfArgument_57 rfl (by unfold jRi; omega) (fun c107 => ?_) (fun c107 => ?_)
          · skip
            refine jt_iinc (L' := [(0, .ref (b + 39)), (1, .int (jI q)), (2, .int (jI n)), (3, .int (jI (e + 1))), (4, .int (jI yq103))]) d_EX_endOfArgument_63 rfl (Nat.le_of_ble_eq_true rfl) rfl ?_
            refine jt_goto (t := 4) d_EX_endOfArgument_66 rfl ?_
            refine jt_sub (L' := [(0, .ref (b + 39)), (1, .int (jI q)), (2, .int (jI n)), (3, .int (jI (e + 1)))]) (fun _ h => List.mem_append_left [(4, Value.int (jI yq103))] h) ?_
            exact ih n (e + 1) Iq106 Aq106 hpq106 (by omega) (by omega) (by omega)
          · skip
            refine jt_iinc (L' := [(0, .ref (b + 39)), (1, .int (jI q)), (2, .int (jI (n + 1))), (3, .int (jI e)), (4, .int (jI yq103))]) d_EX_endOfArgument_60 rfl (Nat.le_of_ble_eq_true rfl) rfl ?_
            refine jt_iinc (L' := [(0, .ref (b + 39)), (1, .int (jI q)), (2, .int (jI (n + 1))), (3, .int (jI (e + 1))), (4, .int (jI yq103))]) d_EX_endOfArgument_63 rfl (Nat.le_of_ble_eq_true rfl) rfl ?_
            refine jt_goto (t := 4) d_EX_endOfArgument_66 rfl ?_
            refine jt_sub (L' := [(0, .ref (b + 39)), (1, .int (jI q)), (2, .int (jI (n + 1))), (3, .int (jI (e + 1)))]) (fun _ h => List.mem_append_left [(4, Value.int (jI yq103))] h) ?_
            exact ih (n + 1) (e + 1) Iq106 Aq106 hpq106 (by omega) (by omega) (by omega)
        · skip
          refine jt_iinc (L' := [(0, .ref (b + 39)), (1, .int (jI q)), (2, .int (jI (n + (-1)))), (3, .int (jI e)), (4, .int (jI yq103))]) d_EX_endOfArgument_45 rfl (Nat.le_of_ble_eq_true rfl) rfl ?_
          refine jt_goto (t := 63) d_EX_endOfArgument_48 rfl ?_
          refine jt_iinc (L' := [(0, .ref (b + 39)), (1, .int (jI q)), (2, .int (jI (n + (-1)))), (3, .int (jI (e + 1))), (4, .int (jI yq103))]) d_EX_endOfArgument_63 rfl (Nat.le_of_ble_eq_true rfl) rfl ?_
          refine jt_goto (t := 4) d_EX_endOfArgument_66 rfl ?_
          refine jt_sub (L' := [(0, .ref (b + 39)), (1, .int (jI q)), (2, .int (jI (n + (-1)))), (3, .int (jI (e + 1)))]) (fun _ h => List.mem_append_left [(4, Value.int (jI yq103))] h) ?_
          exact ih (n + (-1)) (e + 1) Iq103 Aq103 hpq103 (by omega) (by omega) (by omega)
      · skip
        refine jt_iload d_EX_endOfArgument_24 rfl ?_
        refine jt_if_ne (t := 38) d_EX_endOfArgument_26 rfl (by unfold jRi; omega) (fun c108 => ?_) (fun c108 => ?_)
        · skip
          refine jt_iload_n d_EX_endOfArgument_38 rfl ?_
          exact cm_ret d_EX_endOfArgument_39 rfl rfl (⟨e, rfl, by omega, hpq103⟩)
        · skip
          refine jt_aload_n d_EX_endOfArgument_29 rfl ?_
          refine jt_iload_n d_EX_endOfArgument_30 rfl ?_
          refine jt_iconst d_EX_endOfArgument_31 ?_
          refine cct_callV (Y := Y_TR_isWord) (ci := 0) (k := 39) (As := [.int (jI e), .int (jI 5)]) (rest := []) d_EX_endOfArgument_32 EX_c73 yk_TR_isWord yv_TR_isWord rfl (Nat.le_of_ble_eq_true rfl) (by decide) (cc_1 rfl) rfl rfl (Nat.le_of_ble_eq_true rfl) (v_TR_isWord G _ b e 5 Iq103 Aq103 hpq103.1 hpq103.2.1 (by omega) (by omega)) (fun rvq109 Iq109 Aq109 hq109 => ?_)
          obtain ⟨yq109, rfl, ryq109, hqq109, hxq109⟩ := hq109
          have hpq109 := cPo.trans hpq103 hqq109 rfl rfl
          show jt _ 35 [(0, .ref (b + 39)), (1, .int (jI q)), (2, .int (jI n)), (3, .int (jI e)), (4, .int (jI yq103))] [.int (jI yq109)] (cmf b f0 Iq109 Aq109) _ _ _
          refine jt_if_eq (t := 40) d_EX_endOfArgument_35 rfl (by unfold jRi; omega) (fun c110 => ?_) (fun c110 => ?_)
          · skip
            refine jt_iload d_EX_endOfArgument_40 rfl ?_
            refine jt_if_eq (t := 51) d_EX_endOfArgument_42 rfl (by unfold jRi; omega) (fun c111 => ?_) (fun c111 => ?_)
            · skip
              refine jt_aload_n d_EX_endOfArgument_51 rfl ?_
              refine jt_iload_n d_EX_endOfArgument_52 rfl ?_
              refine jt_iconst d_EX_endOfArgument_53 ?_
              refine cct_callV (Y := Y_TR_isWord) (ci := 0) (k := 39) (As := [.int (jI e), .int (jI 3)]) (rest := []) d_EX_endOfArgument_54 EX_c73 yk_TR_isWord yv_TR_isWord rfl (Nat.le_of_ble_eq_true rfl) (by decide) (cc_1 rfl) rfl rfl (Nat.le_of_ble_eq_true rfl) (v_TR_isWord G _ b e 3 Iq109 Aq109 hpq109.1 hpq109.2.1 (by omega) (by omega)) (fun rvq112 Iq112 Aq112 hq112 => ?_)
              obtain ⟨yq112, rfl, ryq112, hqq112, hxq112⟩ := hq112
              have hpq112 := cPo.trans hpq109 hqq112 rfl rfl
              show jt _ 57 [(0, .ref (b + 39)), (1, .int (jI q)), (2, .int (jI n)), (3, .int (jI e)), (4, .int (jI yq103))] [.int (jI yq112)] (cmf b f0 Iq112 Aq112) _ _ _
              refine jt_if_eq (t := 63) d_EX_endOfArgument_57 rfl (by unfold jRi; omega) (fun c113 => ?_) (fun c113 => ?_)
              · skip
                refine jt_iinc (L' := [(0, .ref (b + 39)), (1, .int (jI q)), (2, .int (jI n)), (3, .int (jI (e + 1))), (4, .int (jI yq103))]) d_EX_endOfArgument_63 rfl (Nat.le_of_ble_eq_true rfl) rfl ?_
                refine jt_goto (t := 4) d_EX_endOfArgument_66 rfl ?_
                refine jt_sub (L' := [(0, .ref (b + 39)), (1, .int (jI q)), (2, .int (jI n)), (3, .int (jI (e + 1)))]) (fun _ h => List.mem_append_left [(4, Value.int (jI yq103))] h) ?_
                exact ih n (e + 1) Iq112 Aq112 hpq112 (by omega) (by omega) (by omega)
              · skip
                refine jt_iinc (L' := [(0, .ref (b + 39)), (1, .int (jI q)), (2, .int (jI (n + 1))), (3, .int (jI e)), (4, .int (jI yq103))]) d_EX_endOfArgument_60 rfl (Nat.le_of_ble_eq_true rfl) rfl ?_
                refine jt_iinc (L' := [(0, .ref (b + 39)), (1, .int (jI q)), (2, .int (jI (n + 1))), (3, .int (jI (e + 1))), (4, .int (jI yq103))]) d_EX_endOfArgument_63 rfl (Nat.le_of_ble_eq_true rfl) rfl ?_
                refine jt_goto (t := 4) d_EX_endOfArgument_66 rfl ?_
                refine jt_sub (L' := [(0, .ref (b + 39)), (1, .int (jI q)), (2, .int (jI (n + 1))), (3, .int (jI (e + 1)))]) (fun _ h => List.mem_append_left [(4, Value.int (jI yq103))] h) ?_
                exact ih (n + 1) (e + 1) Iq112 Aq112 hpq112 (by omega) (by omega) (by omega)
            · skip
              refine jt_iinc (L' := [(0, .ref (b + 39)), (1, .int (jI q)), (2, .int (jI (n + (-1)))), (3, .int (jI e)), (4, .int (jI yq103))]) d_EX_endOfArgument_45 rfl (Nat.le_of_ble_eq_true rfl) rfl ?_
              refine jt_goto (t := 63) d_EX_endOfArgument_48 rfl ?_
              refine jt_iinc (L' := [(0, .ref (b + 39)), (1, .int (jI q)), (2, .int (jI (n + (-1)))), (3, .int (jI (e + 1))), (4, .int (jI yq103))]) d_EX_endOfArgument_63 rfl (Nat.le_of_ble_eq_true rfl) rfl ?_
              refine jt_goto (t := 4) d_EX_endOfArgument_66 rfl ?_
              refine jt_sub (L' := [(0, .ref (b + 39)), (1, .int (jI q)), (2, .int (jI (n + (-1)))), (3, .int (jI (e + 1)))]) (fun _ h => List.mem_append_left [(4, Value.int (jI yq103))] h) ?_
              exact ih (n + (-1)) (e + 1) Iq109 Aq109 hpq109 (by omega) (by omega) (by omega)
          · skip
            refine jt_iload_n d_EX_endOfArgument_38 rfl ?_
            exact cm_ret d_EX_endOfArgument_39 rfl rfl (⟨e, rfl, by omega, hpq109⟩)
set_option maxRecDepth 100000 in
set_option maxHeartbeats 4000000 in
theorem v_EX_endOfArgument (G : jG) (d b : Nat) (q : Int) (I : Nat → Nat → Int) (A : Nat → Int → Int) (hI : cSI I) (hA : cSA A) (hq : 0 ≤ q ∧ q ≤ 300) : cct G Y_EX_endOfArgument (d + 1) b [.ref (b + 39), .int (jI q)] I A (fun (rv : Option Value) (I2 : Nat → Nat → Int) (A2 : Nat → Int → Int) => ∃ y : Int, rv = some (.int (jI y)) ∧ (0 ≤ y ∧ y ≤ 300) ∧ cPo [] [] I A I2 A2) := by
  refine cct_of (by decide) (Nat.le_of_ble_eq_true rfl) (fun f0 sz => ?_)
  show jt _ 0 [(0, .ref (b + 39)), (1, .int (jI q))] [] _ _ _ _
  have hz0 : cPo [] [] I A I A := cPo.refl hI hA
  refine jt_iconst d_EX_endOfArgument_0 ?_
  refine jt_istore_n (L' := [(0, .ref (b + 39)), (1, .int (jI q)), (2, .int (jI 0))]) d_EX_endOfArgument_1 (Nat.le_of_ble_eq_true rfl) rfl ?_
  refine jt_iload_n d_EX_endOfArgument_2 rfl ?_
  refine jt_istore_n (L' := [(0, .ref (b + 39)), (1, .int (jI q)), (2, .int (jI 0)), (3, .int (jI q))]) d_EX_endOfArgument_3 (Nat.le_of_ble_eq_true rfl) rfl ?_
  exact l4_EX_endOfArgumentv G d b q I A hI hA hq f0 sz  301 0 q I A hz0 (by omega) (by omega) (by omega)
set_option maxRecDepth 100000 in
set_option maxHeartbeats 4000000 in
theorem l27_EX_findArgumentsv (G : jG) (d b : Nat) (n : Int) (I : Nat → Nat → Int) (A : Nat → Int → Int) (hI : cSI I) (hA : cSA A) (hn : 1 ≤ n ∧ n ≤ 3) (f0 : jF) (sz : Nat)  : ∀ (n9 : Nat) (q : Int) (k : Int) (J : Nat → Nat → Int) (B : Nat → Int → Int), cPo [] [12, 13] I A J B → (0 ≤ q ∧ q ≤ 300) → (0 ≤ k ∧ k ≤ 3) → 3 - k < (n9 : Int) → jt (jm G Y_EX_findArguments (gR (d + 2)) (cQ b f0 sz (fun (rv : Option Value) (I2 : Nat → Nat → Int) (A2 : Nat → Int → Int) => ∃ y : Int, rv = some (.int (jI y)) ∧ (-2 ≤ y ∧ y ≤ 300 ∧ y ≠ -1) ∧ cPo [] [12, 13] I A I2 A2))) 27 [(0, .ref (b + 5)), (1, .ref (b + 39)), (2, .int (jI n)), (3, .int (jI q)), (4, .int (jI k))] [] (cmf b f0 J B) sz 0 0 := by
  have r55 : 0 ≤ I 5 5 ∧ I 5 5 ≤ 300 := hI 5 5
  have r39 : 0 ≤ I 39 3 ∧ I 39 3 ≤ 300 := hI 39 3
  intro n9
  induction n9 with
  | zero =>
    intro q k J B hJ q0 k0 hmeas
    have f39 : J 39 3 = I 39 3 := hJ.2.2.1 39 3 rfl
    exfalso
    omega
  | succ n9 ih =>
    intro q k J B hJ q0 k0 hmeas
    have f39 : J 39 3 = I 39 3 := hJ.2.2.1 39 3 rfl
    refine jt_iload d_EX_findArguments_27 rfl ?_
    refine jt_iload_n d_EX_findArguments_29 rfl ?_
    refine jt_icmp_ge (t := 99) d_EX_findArguments_30 rfl (by unfold jRi; omega) (by unfold jRi; omega) (fun c101 => ?_) (fun c101 => ?_)
    · skip
      refine jt_iload_n d_EX_findArguments_99 rfl ?_
      exact cm_ret d_EX_findArguments_100 rfl rfl (⟨q, rfl, by omega, hJ⟩)
    · skip
      refine jt_aload_n d_EX_findArguments_33 rfl ?_
      refine cm_get (k := 5) (v := .ref (b + 12)) d_EX_findArguments_34 EX_f28 (by decide) cc_2 rfl ?_
      refine jt_iload d_EX_findArguments_37 rfl ?_
      refine jt_iload_n d_EX_findArguments_39 rfl ?_
      refine cm_st0 (k := 12) (n := 3) (v := q) d_EX_findArguments_40 (by decide) rfl rfl (by omega) (by omega) (by omega) ?_
      have p102 := cPo.A 12 (ju (B 12) k q) hJ (Or.inl rfl) (gju (hJ.2.1 12) (show 0 ≤ q ∧ q ≤ 300 by omega))
      refine jt_aload_n d_EX_findArguments_41 rfl ?_
      refine cm_get (k := 5) (v := .ref (b + 13)) d_EX_findArguments_42 EX_f31 (by decide) cc_2 rfl ?_
      refine jt_iload d_EX_findArguments_45 rfl ?_
      refine jt_aload_n d_EX_findArguments_47 rfl ?_
      refine jt_iload_n d_EX_findArguments_48 rfl ?_
      refine cct_callS (Y := Y_EX_endOfArgument) (As := [.ref (b + 39), .int (jI q)]) (rest := [.int (jI k), .ref (b + 13)]) d_EX_findArguments_49 EX_c77 yk_EX_endOfArgument ys_EX_endOfArgument (Nat.le_of_ble_eq_true rfl) rfl rfl (Nat.le_of_ble_eq_true rfl) (v_EX_endOfArgument G _ b q J (va_up B 12 (ju (B 12) k q)) p102.1 p102.2.1 (by omega)) (fun rvq103 Iq103 Aq103 hq103 => ?_)
      obtain ⟨yq103, rfl, ryq103, hqq103⟩ := hq103
      have hpq103 := cPo.trans p102 hqq103 rfl rfl
      have m39_3q103 : Iq103 39 3 = J 39 3 := hqq103.2.2.1 39 3 rfl
      have m5_5q103 : Iq103 5 5 = J 5 5 := hqq103.2.2.1 5 5 rfl
      show jt _ 52 [(0, .ref (b + 5)), (1, .ref (b + 39)), (2, .int (jI n)), (3, .int (jI q)), (4, .int (jI k))] [.int (jI yq103), .int (jI k), .ref (b + 13)] (cmf b f0 Iq103 Aq103) _ _ _
      refine cm_st0 (k := 13) (n := 3) (v := yq103) d_EX_findArguments_52 (by decide) rfl rfl (by omega) (by omega) (by omega) ?_
      have p104 := cPo.A 13 (ju (Aq103 13) k yq103) hpq103 (Or.inl rfl) (gju (hpq103.2.1 13) (show 0 ≤ yq103 ∧ yq103 ≤ 300 by omega))
      refine jt_aload_n d_EX_findArguments_53 rfl ?_
      refine jt_aload_n d_EX_findArguments_54 rfl ?_
      refine cm_get (k := 5) (v := .ref (b + 13)) d_EX_findArguments_55 EX_f31 (by decide) cc_2 rfl ?_
      refine jt_iload d_EX_findArguments_58 rfl ?_
      refine cm_ld0 (k := 13) (n := 3) (v := (ju (Aq103 13) k yq103) k) d_EX_findArguments_60 (by decide) rfl rfl (by omega) (by omega) (by omega) rfl ?_
      refine jt_topi (fun v105 ev105 => ?_)
      have bv105 : 0 ≤ v105 ∧ v105 ≤ 300 := by rw [ev105]; exact p104.2.1 13 k
      refine jt_iload d_EX_findArguments_61 rfl ?_
      refine jt_iload_n d_EX_findArguments_63 rfl ?_
      refine jt_iconst d_EX_findArguments_64 ?_
      refine jt_isub d_EX_findArguments_65 ?_
      refine jt_icmp_ne (t := 73) d_EX_findArguments_66 rfl (by unfold jRi; omega) (by unfold jRi; omega) (fun c106 => ?_) (fun c106 => ?_)
      · skip
        refine jt_iconst d_EX_findArguments_73 ?_
        refine cct_callV (Y := Y_TR_isWord) (ci := 0) (k := 39) (As := [.int (jI v105), .int (jI 5)]) (rest := []) d_EX_findArguments_74 EX_c73 yk_TR_isWord yv_TR_isWord rfl (Nat.le_of_ble_eq_true rfl) (by decide) (cc_1 rfl) rfl rfl (Nat.le_of_ble_eq_true rfl) (v_TR_isWord G _ b v105 5 Iq103 (va_up Aq103 13 (ju (Aq103 13) k yq103)) p104.1 p104.2.1 (by omega) (by omega)) (fun rvq107 Iq107 Aq107 hq107 => ?_)
        obtain ⟨yq107, rfl, ryq107, hqq107, hxq107⟩ := hq107
        have hpq107 := cPo.trans p104 hqq107 rfl rfl
        have m39_3q107 : Iq107 39 3 = Iq103 39 3 := hqq107.2.2.1 39 3 rfl
        have m5_5q107 : Iq107 5 5 = Iq103 5 5 := hqq107.2.2.1 5 5 rfl
        show jt _ 77 [(0, .ref (b + 5)), (1, .ref (b + 39)), (2, .int (jI n)), (3, .int (jI q)), (4, .int (jI k))] [.int (jI yq107)] (cmf b f0 Iq107 Aq107) _ _ _
        refine jt_if_ne (t := 83) d_EX_findArguments_77 rfl (by unfold jRi; omega) (fun c108 => ?_) (fun c108 => ?_)
        · skip
          refine jt_aload_n d_EX_findArguments_83 rfl ?_
          refine cm_get (k := 5) (v := .ref (b + 13)) d_EX_findArguments_84 EX_f31 (by decide) cc_2 rfl ?_
          refine jt_iload d_EX_findArguments_87 rfl ?_
          refine cm_ld0 (k := 13) (n := 3) (v := (Aq107 13) k) d_EX_findArguments_89 (by decide) rfl rfl (by omega) (by omega) (by omega) rfl ?_
          refine jt_topi (fun v109 ev109 => ?_)
          have bv109 : 0 ≤ v109 ∧ v109 ≤ 300 := by rw [ev109]; exact hpq107.2.1 13 k
          refine jt_iconst d_EX_findArguments_90 ?_
          refine jt_iadd d_EX_findArguments_91 ?_
          refine jt_topi (fun v110 ev110 => ?_)
          refine jt_istore_n (L' := [(0, .ref (b + 5)), (1, .ref (b + 39)), (2, .int (jI n)), (3, .int (jI v110)), (4, .int (jI k))]) d_EX_findArguments_92 (Nat.le_of_ble_eq_true rfl) rfl ?_
          refine jt_iinc (L' := [(0, .ref (b + 5)), (1, .ref (b + 39)), (2, .int (jI n)), (3, .int (jI v110)), (4, .int (jI (k + 1)))]) d_EX_findArguments_93 rfl (Nat.le_of_ble_eq_true rfl) rfl ?_
          refine jt_goto (t := 27) d_EX_findArguments_96 rfl ?_
          exact ih v110 (k + 1) Iq107 Aq107 hpq107 (by omega) (by omega) (by omega)
        · skip
          refine jt_bipush d_EX_findArguments_80 (by omega) ?_
          exact cm_ret d_EX_findArguments_82 rfl rfl (⟨-2, rfl, by omega, hpq107⟩)
      · skip
        refine jt_iconst d_EX_findArguments_69 ?_
        refine jt_goto (t := 74) d_EX_findArguments_70 rfl ?_
        refine cct_callV (Y := Y_TR_isWord) (ci := 0) (k := 39) (As := [.int (jI v105), .int (jI 4)]) (rest := []) d_EX_findArguments_74 EX_c73 yk_TR_isWord yv_TR_isWord rfl (Nat.le_of_ble_eq_true rfl) (by decide) (cc_1 rfl) rfl rfl (Nat.le_of_ble_eq_true rfl) (v_TR_isWord G _ b v105 4 Iq103 (va_up Aq103 13 (ju (Aq103 13) k yq103)) p104.1 p104.2.1 (by omega) (by omega)) (fun rvq111 Iq111 Aq111 hq111 => ?_)
        obtain ⟨yq111, rfl, ryq111, hqq111, hxq111⟩ := hq111
        have hpq111 := cPo.trans p104 hqq111 rfl rfl
        have m39_3q111 : Iq111 39 3 = Iq103 39 3 := hqq111.2.2.1 39 3 rfl
        have m5_5q111 : Iq111 5 5 = Iq103 5 5 := hqq111.2.2.1 5 5 rfl
        show jt _ 77 [(0, .ref (b + 5)), (1, .ref (b + 39)), (2, .int (jI n)), (3, .int (jI q)), (4, .int (jI k))] [.int (jI yq111)] (cmf b f0 Iq111 Aq111) _ _ _
        refine jt_if_ne (t := 83) d_EX_findArguments_77 rfl (by unfold jRi; omega) (fun c112 => ?_) (fun c112 => ?_)
        · skip
          refine jt_aload_n d_EX_findArguments_83 rfl ?_
          refine cm_get (k := 5) (v := .ref (b + 13)) d_EX_findArguments_84 EX_f31 (by decide) cc_2 rfl ?_
          refine jt_iload d_EX_findArguments_87 rfl ?_
          refine cm_ld0 (k := 13) (n := 3) (v := (Aq111 13) k) d_EX_findArguments_89 (by decide) rfl rfl (by omega) (by omega) (by omega) rfl ?_
          refine jt_topi (fun v113 ev113 => ?_)
          have bv113 : 0 ≤ v113 ∧ v113 ≤ 300 := by rw [ev113]; exact hpq111.2.1 13 k
          refine jt_iconst d_EX_findArguments_90 ?_
          refine jt_iadd d_EX_findArguments_91 ?_
          refine jt_topi (fun v114 ev114 => ?_)
          refine jt_istore_n (L' := [(0, .ref (b + 5)), (1, .ref (b + 39)), (2, .int (jI n)), (3, .int (jI v114)), (4, .int (jI k))]) d_EX_findArguments_92 (Nat.le_of_ble_eq_true rfl) rfl ?_
          refine jt_iinc (L' := [(0, .ref (b + 5)), (1, .ref (b + 39)), (2, .int (jI n)), (3, .int (jI v114)), (4, .int (jI (k + 1)))]) d_EX_findArguments_93 rfl (Nat.le_of_ble_eq_true rfl) rfl ?_
          refine jt_goto (t := 27) d_EX_findArguments_96 rfl ?_
          exact ih v114 (k + 1) Iq111 Aq111 hpq111 (by omega) (by omega) (by omega)
        · skip
          refine jt_bipush d_EX_findArguments_80 (by omega) ?_
          exact cm_ret d_EX_findArguments_82 rfl rfl (⟨-2, rfl, by omega, hpq111⟩)
set_option maxRecDepth 100000 in
set_option maxHeartbeats 4000000 in
theorem v_EX_findArguments (G : jG) (d b : Nat) (n : Int) (I : Nat → Nat → Int) (A : Nat → Int → Int) (hI : cSI I) (hA : cSA A) (hn : 1 ≤ n ∧ n ≤ 3) : cct G Y_EX_findArguments (d + 2) b [.ref (b + 5), .ref (b + 39), .int (jI n)] I A (fun (rv : Option Value) (I2 : Nat → Nat → Int) (A2 : Nat → Int → Int) => ∃ y : Int, rv = some (.int (jI y)) ∧ (-2 ≤ y ∧ y ≤ 300 ∧ y ≠ -1) ∧ cPo [] [12, 13] I A I2 A2) := by
  refine cct_of (by decide) (Nat.le_of_ble_eq_true rfl) (fun f0 sz => ?_)
  show jt _ 0 [(0, .ref (b + 5)), (1, .ref (b + 39)), (2, .int (jI n))] [] _ _ _ _
  have r55 : 0 ≤ I 5 5 ∧ I 5 5 ≤ 300 := hI 5 5
  have r39 : 0 ≤ I 39 3 ∧ I 39 3 ≤ 300 := hI 39 3
  have hz0 : cPo [] [12, 13] I A I A := cPo.refl hI hA
  refine jt_aload_n d_EX_findArguments_0 rfl ?_
  refine jt_aload_n d_EX_findArguments_1 rfl ?_
  refine cm_get (k := 5) (v := .int (jI (I 5 5))) d_EX_findArguments_2 EX_f42 (by decide) cc_2 rfl ?_
  have rb1 : 0 ≤ I 5 5 ∧ I 5 5 ≤ 300 := hz0.1 5 5
  refine jt_iconst d_EX_findArguments_5 ?_
  refine jt_iadd d_EX_findArguments_6 ?_
  refine jt_iconst d_EX_findArguments_7 ?_
  refine cct_callV (Y := Y_TR_isWord) (ci := 0) (k := 39) (As := [.int (jI ((I 5 5) + 1)), .int (jI 3)]) (rest := []) d_EX_findArguments_8 EX_c73 yk_TR_isWord yv_TR_isWord rfl (Nat.le_of_ble_eq_true rfl) (by decide) (cc_1 rfl) rfl rfl (Nat.le_of_ble_eq_true rfl) (v_TR_isWord G _ b ((I 5 5) + 1) 3 I A hz0.1 hz0.2.1 (by omega) (by omega)) (fun rvq2 Iq2 Aq2 hq2 => ?_)
  obtain ⟨yq2, rfl, ryq2, hqq2, hxq2⟩ := hq2
  have hpq2 := cPo.trans hz0 hqq2 rfl rfl
  have m39_3q2 : Iq2 39 3 = I 39 3 := hqq2.2.2.1 39 3 rfl
  have m5_5q2 : Iq2 5 5 = I 5 5 := hqq2.2.2.1 5 5 rfl
  show jt _ 11 [(0, .ref (b + 5)), (1, .ref (b + 39)), (2, .int (jI n))] [.int (jI yq2)] (cmf b f0 Iq2 Aq2) _ _ _
  refine jt_if_ne (t := 17) d_EX_findArguments_11 rfl (by unfold jRi; omega) (fun c3 => ?_) (fun c3 => ?_)
  · skip
    refine jt_aload_n d_EX_findArguments_17 rfl ?_
    refine cm_get (k := 5) (v := .int (jI (Iq2 5 5))) d_EX_findArguments_18 EX_f42 (by decide) cc_2 rfl ?_
    have rb4 : 0 ≤ Iq2 5 5 ∧ Iq2 5 5 ≤ 300 := hpq2.1 5 5
    refine jt_iconst d_EX_findArguments_21 ?_
    refine jt_iadd d_EX_findArguments_22 ?_
    refine jt_topi (fun v5 ev5 => ?_)
    refine jt_istore_n (L' := [(0, .ref (b + 5)), (1, .ref (b + 39)), (2, .int (jI n)), (3, .int (jI v5))]) d_EX_findArguments_23 (Nat.le_of_ble_eq_true rfl) rfl ?_
    refine jt_iconst d_EX_findArguments_24 ?_
    refine jt_istore (L' := [(0, .ref (b + 5)), (1, .ref (b + 39)), (2, .int (jI n)), (3, .int (jI v5)), (4, .int (jI 0))]) d_EX_findArguments_25 (Nat.le_of_ble_eq_true rfl) rfl ?_
    exact l27_EX_findArgumentsv G d b n I A hI hA hn f0 sz  4 v5 0 Iq2 Aq2 hpq2 (by omega) (by omega) (by omega)
  · skip
    refine jt_bipush d_EX_findArguments_14 (by omega) ?_
    exact cm_ret d_EX_findArguments_16 rfl rfl (⟨-2, rfl, by omega, hpq2⟩)
set_option maxRecDepth 100000 in
set_option maxHeartbeats 4000000 in
theorem l16_EX_lengthAfter_14v (G : jG) (d b : Nat) (q : Int) (I : Nat → Nat → Int) (A : Nat → Int → Int) (hI : cSI I) (hA : cSA A) (hK : cTok A) (hq : 0 ≤ q ∧ q ≤ 301) (f0 : jF) (sz : Nat)  : ∀ (n9 : Nat) (l : Int) (i : Int) (J : Nat → Nat → Int) (B : Nat → Int → Int), cPo [] [] I A J B → (0 ≤ i ∧ i ≤ 40) → (-700 - 300 * i ≤ l ∧ l ≤ 700 + 300 * i) → 40 - i < (n9 : Int) → jt (jm G Y_EX_lengthAfter (gR d) (cQ b f0 sz (fun (rv : Option Value) (I2 : Nat → Nat → Int) (A2 : Nat → Int → Int) => ∃ y : Int, rv = some (.int (jI y)) ∧ (-2147483648 ≤ y ∧ y ≤ 2147483647) ∧ cPo [] [] I A I2 A2))) 16 [(0, .ref (b + 5)), (1, .ref (b + 39)), (2, .ref (b + 14)), (3, .int (jI q)), (4, .int (jI l)), (5, .int (jI i))] [] (cmf b f0 J B) sz 0 0 := by
  intro n9
  induction n9 with
  | zero =>
    intro l i J B hJ i0 l0 hmeas
    have tk : gtok (B 15 i) (B 16 i) := (cTok_of hJ hK rfl) 14 rfl i
    unfold gtok at tk
    exfalso
    omega
  | succ n9 ih =>
    intro l i J B hJ i0 l0 hmeas
    have tk : gtok (B 15 i) (B 16 i) := (cTok_of hJ hK rfl) 14 rfl i
    unfold gtok at tk
    refine jt_iload d_EX_lengthAfter_16 rfl ?_
    refine jt_aload_n d_EX_lengthAfter_18 rfl ?_
    refine cm_get (k := 14) (v := .int (jI (J 14 3))) d_EX_lengthAfter_19 EX_f38 (by decide) (cc_1 rfl) rfl ?_
    have rb101 : 0 ≤ J 14 3 ∧ J 14 3 ≤ 40 := hJ.1 14 3
    refine jt_icmp_ge (t := 75) d_EX_lengthAfter_22 rfl (by unfold jRi; omega) (by unfold jRi; omega) (fun c102 => ?_) (fun c102 => ?_)
    · skip
      refine jt_iload d_EX_lengthAfter_75 rfl ?_
      exact cm_ret d_EX_lengthAfter_77 rfl rfl (⟨l, rfl, by omega, hJ⟩)
    · skip
      refine jt_aload_n d_EX_lengthAfter_25 rfl ?_
      refine cm_get (k := 14) (v := .ref (b + 16)) d_EX_lengthAfter_26 EX_f55 (by decide) (cc_1 rfl) rfl ?_
      refine jt_iload d_EX_lengthAfter_29 rfl ?_
      refine cm_ld0 (k := 16) (n := 40) (v := (B 16) i) d_EX_lengthAfter_31 (by decide) rfl rfl (by omega) (by omega) (by omega) rfl ?_
      refine jt_topi (fun v103 ev103 => ?_)
      have bv103 : -2147483648 ≤ v103 ∧ v103 ≤ 2147483647 := by rw [ev103]; exact hJ.2.1 16 i
      refine jt_istore (L' := [(0, .ref (b + 5)), (1, .ref (b + 39)), (2, .ref (b + 14)), (3, .int (jI q)), (4, .int (jI l)), (5, .int (jI i)), (6, .int (jI v103))]) d_EX_lengthAfter_32 (Nat.le_of_ble_eq_true rfl) rfl ?_
      refine jt_iload d_EX_lengthAfter_34 rfl ?_
      refine jt_aload_n d_EX_lengthAfter_36 rfl ?_
      refine cm_get (k := 14) (v := .ref (b + 15)) d_EX_lengthAfter_37 EX_f48 (by decide) (cc_1 rfl) rfl ?_
      refine jt_iload d_EX_lengthAfter_40 rfl ?_
      refine cm_ld0 (k := 15) (n := 40) (v := (B 15) i) d_EX_lengthAfter_42 (by decide) rfl rfl (by omega) (by omega) (by omega) rfl ?_
      refine jt_topi (fun v104 ev104 => ?_)
      have bv104 : -2147483648 ≤ v104 ∧ v104 ≤ 2147483647 := by rw [ev104]; exact hJ.2.1 15 i
      refine jt_iconst d_EX_lengthAfter_43 ?_
      refine jt_icmp_ne (t := 65) d_EX_lengthAfter_44 rfl (by unfold jRi; omega) (by unfold jRi; omega) (fun c105 => ?_) (fun c105 => ?_)
      · skip
        refine jt_iconst d_EX_lengthAfter_65 ?_
        refine jt_iadd d_EX_lengthAfter_66 ?_
        refine jt_topi (fun v106 ev106 => ?_)
        refine jt_istore (L' := [(0, .ref (b + 5)), (1, .ref (b + 39)), (2, .ref (b + 14)), (3, .int (jI q)), (4, .int (jI v106)), (5, .int (jI i)), (6, .int (jI v103))]) d_EX_lengthAfter_67 (Nat.le_of_ble_eq_true rfl) rfl ?_
        refine jt_iinc (L' := [(0, .ref (b + 5)), (1, .ref (b + 39)), (2, .ref (b + 14)), (3, .int (jI q)), (4, .int (jI v106)), (5, .int (jI (i + 1))), (6, .int (jI v103))]) d_EX_lengthAfter_69 rfl (Nat.le_of_ble_eq_true rfl) rfl ?_
        refine jt_goto (t := 16) d_EX_lengthAfter_72 rfl ?_
        refine jt_sub (L' := [(0, .ref (b + 5)), (1, .ref (b + 39)), (2, .ref (b + 14)), (3, .int (jI q)), (4, .int (jI v106)), (5, .int (jI (i + 1)))]) (fun _ h => List.mem_append_left [(6, Value.int (jI v103))] h) ?_
        exact ih v106 (i + 1) J B hJ (by omega) (by omega) (by omega)
      · skip
        refine jt_aload_n d_EX_lengthAfter_47 rfl ?_
        refine cm_get (k := 5) (v := .ref (b + 13)) d_EX_lengthAfter_48 EX_f31 (by decide) cc_2 rfl ?_
        refine jt_iload d_EX_lengthAfter_51 rfl ?_
        refine cm_ld0 (k := 13) (n := 3) (v := (B 13) v103) d_EX_lengthAfter_53 (by decide) rfl rfl (by omega) (by omega) (by omega) rfl ?_
        refine jt_topi (fun v107 ev107 => ?_)
        have bv107 : 0 ≤ v107 ∧ v107 ≤ 300 := by rw [ev107]; exact hJ.2.1 13 v103
        refine jt_aload_n d_EX_lengthAfter_54 rfl ?_
        refine cm_get (k := 5) (v := .ref (b + 12)) d_EX_lengthAfter_55 EX_f28 (by decide) cc_2 rfl ?_
        refine jt_iload d_EX_lengthAfter_58 rfl ?_
        refine cm_ld0 (k := 12) (n := 3) (v := (B 12) v103) d_EX_lengthAfter_60 (by decide) rfl rfl (by omega) (by omega) (by omega) rfl ?_
        refine jt_topi (fun v108 ev108 => ?_)
        have bv108 : 0 ≤ v108 ∧ v108 ≤ 300 := by rw [ev108]; exact hJ.2.1 12 v103
        refine jt_isub d_EX_lengthAfter_61 ?_
        refine jt_goto (t := 66) d_EX_lengthAfter_62 rfl ?_
        refine jt_iadd d_EX_lengthAfter_66 ?_
        refine jt_topi (fun v109 ev109 => ?_)
        refine jt_istore (L' := [(0, .ref (b + 5)), (1, .ref (b + 39)), (2, .ref (b + 14)), (3, .int (jI q)), (4, .int (jI v109)), (5, .int (jI i)), (6, .int (jI v103))]) d_EX_lengthAfter_67 (Nat.le_of_ble_eq_true rfl) rfl ?_
        refine jt_iinc (L' := [(0, .ref (b + 5)), (1, .ref (b + 39)), (2, .ref (b + 14)), (3, .int (jI q)), (4, .int (jI v109)), (5, .int (jI (i + 1))), (6, .int (jI v103))]) d_EX_lengthAfter_69 rfl (Nat.le_of_ble_eq_true rfl) rfl ?_
        refine jt_goto (t := 16) d_EX_lengthAfter_72 rfl ?_
        refine jt_sub (L' := [(0, .ref (b + 5)), (1, .ref (b + 39)), (2, .ref (b + 14)), (3, .int (jI q)), (4, .int (jI v109)), (5, .int (jI (i + 1)))]) (fun _ h => List.mem_append_left [(6, Value.int (jI v103))] h) ?_
        exact ih v109 (i + 1) J B hJ (by omega) (by omega) (by omega)
set_option maxRecDepth 100000 in
set_option maxHeartbeats 4000000 in
theorem v_EX_lengthAfter_14 (G : jG) (d b : Nat) (q : Int) (I : Nat → Nat → Int) (A : Nat → Int → Int) (hI : cSI I) (hA : cSA A) (hK : cTok A) (hq : 0 ≤ q ∧ q ≤ 301) : cct G Y_EX_lengthAfter d b [.ref (b + 5), .ref (b + 39), .ref (b + 14), .int (jI q)] I A (fun (rv : Option Value) (I2 : Nat → Nat → Int) (A2 : Nat → Int → Int) => ∃ y : Int, rv = some (.int (jI y)) ∧ (-2147483648 ≤ y ∧ y ≤ 2147483647) ∧ cPo [] [] I A I2 A2) := by
  refine cct_of (by decide) (Nat.le_of_ble_eq_true rfl) (fun f0 sz => ?_)
  show jt _ 0 [(0, .ref (b + 5)), (1, .ref (b + 39)), (2, .ref (b + 14)), (3, .int (jI q))] [] _ _ _ _
  have hz0 : cPo [] [] I A I A := cPo.refl hI hA
  refine jt_aload_n d_EX_lengthAfter_0 rfl ?_
  refine cm_get (k := 5) (v := .int (jI (I 5 5))) d_EX_lengthAfter_1 EX_f42 (by decide) cc_2 rfl ?_
  have rb1 : 0 ≤ I 5 5 ∧ I 5 5 ≤ 300 := hz0.1 5 5
  refine jt_aload_n d_EX_lengthAfter_4 rfl ?_
  refine cm_get (k := 39) (v := .int (jI (I 39 3))) d_EX_lengthAfter_5 EX_f38 (by decide) (cc_1 rfl) rfl ?_
  have rb2 : 0 ≤ I 39 3 ∧ I 39 3 ≤ 300 := hz0.1 39 3
  refine jt_iadd d_EX_lengthAfter_8 ?_
  refine jt_iload_n d_EX_lengthAfter_9 rfl ?_
  refine jt_isub d_EX_lengthAfter_10 ?_
  refine jt_topi (fun v3 ev3 => ?_)
  refine jt_istore (L' := [(0, .ref (b + 5)), (1, .ref (b + 39)), (2, .ref (b + 14)), (3, .int (jI q)), (4, .int (jI v3))]) d_EX_lengthAfter_11 (Nat.le_of_ble_eq_true rfl) rfl ?_
  refine jt_iconst d_EX_lengthAfter_13 ?_
  refine jt_istore (L' := [(0, .ref (b + 5)), (1, .ref (b + 39)), (2, .ref (b + 14)), (3, .int (jI q)), (4, .int (jI v3)), (5, .int (jI 0))]) d_EX_lengthAfter_14 (Nat.le_of_ble_eq_true rfl) rfl ?_
  exact l16_EX_lengthAfter_14v G d b q I A hI hA hK hq f0 sz  41 v3 0 I A hz0 (by omega) (by omega) (by omega)
set_option maxRecDepth 100000 in
set_option maxHeartbeats 4000000 in
theorem l24_EX_putBody_14v (G : jG) (d b : Nat) (q : Int) (I : Nat → Nat → Int) (A : Nat → Int → Int) (hI : cSI I) (hA : cSA A) (hK : cTok A) (hq : 0 ≤ q ∧ q ≤ 301) (ha : I 5 5 < 300) (f0 : jF) (sz : Nat) (e : Int) (e0 : -2147483648 ≤ e ∧ e ≤ 2147483647) : ∀ (n9 : Nat) (i : Int) (J : Nat → Nat → Int) (B : Nat → Int → Int), cPo [131, 627] [9, 10, 11, 40, 41, 42] I A J B → (0 ≤ i ∧ i ≤ 40) → (cTok B) → 40 - i < (n9 : Int) → jt (jm G Y_EX_putBody (gR (d + 2)) (cQ b f0 sz (fun (rv : Option Value) (I2 : Nat → Nat → Int) (A2 : Nat → Int → Int) => rv = none ∧ cPo [131, 627] [9, 10, 11, 40, 41, 42] I A I2 A2 ∧ cTok A2))) 24 [(0, .ref (b + 5)), (1, .ref (b + 39)), (2, .ref (b + 14)), (3, .int (jI q)), (4, .int (jI e)), (5, .int (jI i))] [] (cmf b f0 J B) sz 0 0 := by
  have r55 : 0 ≤ I 5 5 ∧ I 5 5 ≤ 300 := hI 5 5
  intro n9
  induction n9 with
  | zero =>
    intro i J B hJ i0 hKJ hmeas
    have tk : gtok (B 15 i) (B 16 i) := hKJ 14 rfl i
    have tk2 := tk
    unfold gtok at tk
    have f55 : J 5 5 = I 5 5 := hJ.2.2.1 5 5 rfl
    exfalso
    omega
  | succ n9 ih =>
    intro i J B hJ i0 hKJ hmeas
    have tk : gtok (B 15 i) (B 16 i) := hKJ 14 rfl i
    have tk2 := tk
    unfold gtok at tk
    have f55 : J 5 5 = I 5 5 := hJ.2.2.1 5 5 rfl
    refine jt_iload d_EX_putBody_24 rfl ?_
    refine jt_aload_n d_EX_putBody_26 rfl ?_
    refine cm_get (k := 14) (v := .int (jI (J 14 3))) d_EX_putBody_27 EX_f38 (by decide) (cc_1 rfl) rfl ?_
    have rb101 : 0 ≤ J 14 3 ∧ J 14 3 ≤ 40 := hJ.1 14 3
    refine jt_icmp_ge (t := 102) d_EX_putBody_30 rfl (by unfold jRi; omega) (by unfold jRi; omega) (fun c102 => ?_) (fun c102 => ?_)
    · skip
      refine jt_aload_n d_EX_putBody_102 rfl ?_
      refine cm_get (k := 5) (v := .ref (b + 8)) d_EX_putBody_103 EX_f24 (by decide) cc_2 rfl ?_
      refine jt_aload_n d_EX_putBody_106 rfl ?_
      refine jt_iload_n d_EX_putBody_107 rfl ?_
      refine jt_aload_n d_EX_putBody_108 rfl ?_
      refine cm_get (k := 39) (v := .int (jI (J 39 3))) d_EX_putBody_109 EX_f38 (by decide) (cc_1 rfl) rfl ?_
      have rb103 : 0 ≤ J 39 3 ∧ J 39 3 ≤ 300 := hJ.1 39 3
      refine cct_callV (Y := Y_TR_addAll) (ci := 0) (k := 8) (As := [.ref (b + 39), .int (jI q), .int (jI (J 39 3))]) (rest := []) d_EX_putBody_112 EX_c80 yk_TR_addAll yv_TR_addAll rfl (Nat.le_of_ble_eq_true rfl) (by decide) (cc_1 rfl) rfl rfl (Nat.le_of_ble_eq_true rfl) (v_TR_addAll_8_39 G _ b q (J 39 3) J B hJ.1 hJ.2.1 (by omega) (by omega)) (fun rvq104 Iq104 Aq104 hq104 => ?_)
      obtain ⟨rfl, hqq104, hxq104⟩ := hq104
      have hpq104 := cPo.trans hJ hqq104 rfl rfl
      have m39_3q104 : Iq104 39 3 = J 39 3 := hqq104.2.2.1 39 3 rfl
      have m5_5q104 : Iq104 5 5 = J 5 5 := hqq104.2.2.1 5 5 rfl
      show jt _ 115 [(0, .ref (b + 5)), (1, .ref (b + 39)), (2, .ref (b + 14)), (3, .int (jI q)), (4, .int (jI e)), (5, .int (jI i))] [] (cmf b f0 Iq104 Aq104) _ _ _
      refine jt_aload_n d_EX_putBody_115 rfl ?_
      refine jt_aload_n d_EX_putBody_116 rfl ?_
      refine cm_get (k := 5) (v := .int (jI (Iq104 5 5))) d_EX_putBody_117 EX_f42 (by decide) cc_2 rfl ?_
      have rb105 : 0 ≤ Iq104 5 5 ∧ Iq104 5 5 ≤ 300 := hpq104.1 5 5
      refine cm_put (k := 39) (j := 3) (v := (Iq104 5 5)) d_EX_putBody_120 (EX_w38 _ rfl) (by decide) (cc_1 rfl) rfl rfl (Nat.le_of_ble_eq_true rfl) rfl ?_
      have p106 := cPo.I 39 3 (Iq104 5 5) hpq104 rfl (show 0 ≤ Iq104 5 5 ∧ Iq104 5 5 ≤ 300 by omega)
      refine jt_aload_n d_EX_putBody_123 rfl ?_
      refine jt_aload_n d_EX_putBody_124 rfl ?_
      refine cm_get (k := 5) (v := .ref (b + 8)) d_EX_putBody_125 EX_f24 (by decide) cc_2 rfl ?_
      refine jt_iconst d_EX_putBody_128 ?_
      refine jt_aload_n d_EX_putBody_129 rfl ?_
      refine cm_get (k := 5) (v := .ref (b + 8)) d_EX_putBody_130 EX_f24 (by decide) cc_2 rfl ?_
      refine cm_get (k := 8) (v := .int (jI (Iq104 8 3))) d_EX_putBody_133 EX_f38 (by decide) (cc_1 rfl) rfl ?_
      have rb107 : 0 ≤ Iq104 8 3 ∧ Iq104 8 3 ≤ 300 := p106.1 8 3
      refine cct_callV (Y := Y_TR_addAll) (ci := 0) (k := 39) (As := [.ref (b + 8), .int (jI 0), .int (jI (Iq104 8 3))]) (rest := []) d_EX_putBody_136 EX_c80 yk_TR_addAll yv_TR_addAll rfl (Nat.le_of_ble_eq_true rfl) (by decide) (cc_1 rfl) rfl rfl (Nat.le_of_ble_eq_true rfl) (v_TR_addAll_39_8 G _ b 0 (Iq104 8 3) (cu Iq104 39 3 (Iq104 5 5)) Aq104 p106.1 p106.2.1 (by omega) (by omega)) (fun rvq108 Iq108 Aq108 hq108 => ?_)
      obtain ⟨rfl, hqq108, hxq108⟩ := hq108
      have hpq108 := cPo.trans p106 hqq108 rfl rfl
      have m5_5q108 : Iq108 5 5 = Iq104 5 5 := hqq108.2.2.1 5 5 rfl
      have m8_3q108 : Iq108 8 3 = Iq104 8 3 := hqq108.2.2.1 8 3 rfl
      show jt _ 139 [(0, .ref (b + 5)), (1, .ref (b + 39)), (2, .ref (b + 14)), (3, .int (jI q)), (4, .int (jI e)), (5, .int (jI i))] [] (cmf b f0 Iq108 Aq108) _ _ _
      exact cm_vret d_EX_putBody_139 rfl (⟨rfl, hpq108, (hxq108 (hxq104 hKJ))⟩)
    · skip
      refine jt_aload_n d_EX_putBody_33 rfl ?_
      refine cm_get (k := 14) (v := .ref (b + 16)) d_EX_putBody_34 EX_f55 (by decide) (cc_1 rfl) rfl ?_
      refine jt_iload d_EX_putBody_37 rfl ?_
      refine cm_ld0 (k := 16) (n := 40) (v := (B 16) i) d_EX_putBody_39 (by decide) rfl rfl (by omega) (by omega) (by omega) rfl ?_
      refine jt_topi (fun v109 ev109 => ?_)
      have bv109 : -2147483648 ≤ v109 ∧ v109 ≤ 2147483647 := by rw [ev109]; exact hJ.2.1 16 i
      refine jt_istore (L' := [(0, .ref (b + 5)), (1, .ref (b + 39)), (2, .ref (b + 14)), (3, .int (jI q)), (4, .int (jI e)), (5, .int (jI i)), (6, .int (jI v109))]) d_EX_putBody_40 (Nat.le_of_ble_eq_true rfl) rfl ?_
      refine jt_aload_n d_EX_putBody_42 rfl ?_
      refine cm_get (k := 14) (v := .ref (b + 15)) d_EX_putBody_43 EX_f48 (by decide) (cc_1 rfl) rfl ?_
      refine jt_iload d_EX_putBody_46 rfl ?_
      refine cm_ld0 (k := 15) (n := 40) (v := (B 15) i) d_EX_putBody_48 (by decide) rfl rfl (by omega) (by omega) (by omega) rfl ?_
      refine jt_topi (fun v110 ev110 => ?_)
      have bv110 : -2147483648 ≤ v110 ∧ v110 ≤ 2147483647 := by rw [ev110]; exact hJ.2.1 15 i
      refine jt_iconst d_EX_putBody_49 ?_
      refine jt_icmp_ne (t := 78) d_EX_putBody_50 rfl (by unfold jRi; omega) (by unfold jRi; omega) (fun c111 => ?_) (fun c111 => ?_)
      · skip
        refine jt_aload_n d_EX_putBody_78 rfl ?_
        refine cm_get (k := 5) (v := .ref (b + 8)) d_EX_putBody_79 EX_f24 (by decide) cc_2 rfl ?_
        refine jt_aload_n d_EX_putBody_82 rfl ?_
        refine cm_get (k := 14) (v := .ref (b + 15)) d_EX_putBody_83 EX_f48 (by decide) (cc_1 rfl) rfl ?_
        refine jt_iload d_EX_putBody_86 rfl ?_
        refine cm_ld0 (k := 15) (n := 40) (v := (B 15) i) d_EX_putBody_88 (by decide) rfl rfl (by omega) (by omega) (by omega) rfl ?_
        refine jt_topi (fun v112 ev112 => ?_)
        have bv112 : -2147483648 ≤ v112 ∧ v112 ≤ 2147483647 := by rw [ev112]; exact hJ.2.1 15 i
        refine jt_iload d_EX_putBody_89 rfl ?_
        refine jt_iload d_EX_putBody_91 rfl ?_
        refine cct_callV (Y := Y_TR_add) (ci := 0) (k := 8) (As := [.int (jI v112), .int (jI v109), .int (jI e)]) (rest := []) d_EX_putBody_93 EX_c84 yk_TR_add yv_TR_add rfl (Nat.le_of_ble_eq_true rfl) (by decide) (cc_1 rfl) rfl rfl (Nat.le_of_ble_eq_true rfl) (v_TR_add_8 G _ b v112 v109 e J B hJ.1 hJ.2.1 (by omega) (by omega) (by omega)) (fun rvq113 Iq113 Aq113 hq113 => ?_)
        obtain ⟨rfl, hqq113, hxq113⟩ := hq113
        have hpq113 := cPo.trans hJ hqq113 rfl rfl
        have m39_3q113 : Iq113 39 3 = J 39 3 := hqq113.2.2.1 39 3 rfl
        have m5_5q113 : Iq113 5 5 = J 5 5 := hqq113.2.2.1 5 5 rfl
        show jt _ 96 [(0, .ref (b + 5)), (1, .ref (b + 39)), (2, .ref (b + 14)), (3, .int (jI q)), (4, .int (jI e)), (5, .int (jI i)), (6, .int (jI v109))] [] (cmf b f0 Iq113 Aq113) _ _ _
        refine jt_iinc (L' := [(0, .ref (b + 5)), (1, .ref (b + 39)), (2, .ref (b + 14)), (3, .int (jI q)), (4, .int (jI e)), (5, .int (jI (i + 1))), (6, .int (jI v109))]) d_EX_putBody_96 rfl (Nat.le_of_ble_eq_true rfl) rfl ?_
        refine jt_goto (t := 24) d_EX_putBody_99 rfl ?_
        refine jt_sub (L' := [(0, .ref (b + 5)), (1, .ref (b + 39)), (2, .ref (b + 14)), (3, .int (jI q)), (4, .int (jI e)), (5, .int (jI (i + 1)))]) (fun _ h => List.mem_append_left [(6, Value.int (jI v109))] h) ?_
        exact ih (i + 1) Iq113 Aq113 hpq113 (by omega) (hxq113.1 hKJ (by rw [ev112, ev109]; exact tk2)) (by omega)
      · skip
        refine jt_aload_n d_EX_putBody_53 rfl ?_
        refine cm_get (k := 5) (v := .ref (b + 8)) d_EX_putBody_54 EX_f24 (by decide) cc_2 rfl ?_
        refine jt_aload_n d_EX_putBody_57 rfl ?_
        refine jt_aload_n d_EX_putBody_58 rfl ?_
        refine cm_get (k := 5) (v := .ref (b + 12)) d_EX_putBody_59 EX_f28 (by decide) cc_2 rfl ?_
        refine jt_iload d_EX_putBody_62 rfl ?_
        refine cm_ld0 (k := 12) (n := 3) (v := (B 12) v109) d_EX_putBody_64 (by decide) rfl rfl (by omega) (by omega) (by omega) rfl ?_
        refine jt_topi (fun v114 ev114 => ?_)
        have bv114 : 0 ≤ v114 ∧ v114 ≤ 300 := by rw [ev114]; exact hJ.2.1 12 v109
        refine jt_aload_n d_EX_putBody_65 rfl ?_
        refine cm_get (k := 5) (v := .ref (b + 13)) d_EX_putBody_66 EX_f31 (by decide) cc_2 rfl ?_
        refine jt_iload d_EX_putBody_69 rfl ?_
        refine cm_ld0 (k := 13) (n := 3) (v := (B 13) v109) d_EX_putBody_71 (by decide) rfl rfl (by omega) (by omega) (by omega) rfl ?_
        refine jt_topi (fun v115 ev115 => ?_)
        have bv115 : 0 ≤ v115 ∧ v115 ≤ 300 := by rw [ev115]; exact hJ.2.1 13 v109
        refine cct_callV (Y := Y_TR_addAll) (ci := 0) (k := 8) (As := [.ref (b + 39), .int (jI v114), .int (jI v115)]) (rest := []) d_EX_putBody_72 EX_c80 yk_TR_addAll yv_TR_addAll rfl (Nat.le_of_ble_eq_true rfl) (by decide) (cc_1 rfl) rfl rfl (Nat.le_of_ble_eq_true rfl) (v_TR_addAll_8_39 G _ b v114 v115 J B hJ.1 hJ.2.1 (by omega) (by omega)) (fun rvq116 Iq116 Aq116 hq116 => ?_)
        obtain ⟨rfl, hqq116, hxq116⟩ := hq116
        have hpq116 := cPo.trans hJ hqq116 rfl rfl
        have m39_3q116 : Iq116 39 3 = J 39 3 := hqq116.2.2.1 39 3 rfl
        have m5_5q116 : Iq116 5 5 = J 5 5 := hqq116.2.2.1 5 5 rfl
        show jt _ 75 [(0, .ref (b + 5)), (1, .ref (b + 39)), (2, .ref (b + 14)), (3, .int (jI q)), (4, .int (jI e)), (5, .int (jI i)), (6, .int (jI v109))] [] (cmf b f0 Iq116 Aq116) _ _ _
        refine jt_goto (t := 96) d_EX_putBody_75 rfl ?_
        refine jt_iinc (L' := [(0, .ref (b + 5)), (1, .ref (b + 39)), (2, .ref (b + 14)), (3, .int (jI q)), (4, .int (jI e)), (5, .int (jI (i + 1))), (6, .int (jI v109))]) d_EX_putBody_96 rfl (Nat.le_of_ble_eq_true rfl) rfl ?_
        refine jt_goto (t := 24) d_EX_putBody_99 rfl ?_
        refine jt_sub (L' := [(0, .ref (b + 5)), (1, .ref (b + 39)), (2, .ref (b + 14)), (3, .int (jI q)), (4, .int (jI e)), (5, .int (jI (i + 1)))]) (fun _ h => List.mem_append_left [(6, Value.int (jI v109))] h) ?_
        exact ih (i + 1) Iq116 Aq116 hpq116 (by omega) (hxq116 hKJ) (by omega)
set_option maxRecDepth 100000 in
set_option maxHeartbeats 4000000 in
theorem v_EX_putBody_14 (G : jG) (d b : Nat) (q : Int) (I : Nat → Nat → Int) (A : Nat → Int → Int) (hI : cSI I) (hA : cSA A) (hK : cTok A) (hq : 0 ≤ q ∧ q ≤ 301) (ha : I 5 5 < 300) : cct G Y_EX_putBody (d + 2) b [.ref (b + 5), .ref (b + 39), .ref (b + 14), .int (jI q)] I A (fun (rv : Option Value) (I2 : Nat → Nat → Int) (A2 : Nat → Int → Int) => rv = none ∧ cPo [131, 627] [9, 10, 11, 40, 41, 42] I A I2 A2 ∧ cTok A2) := by
  refine cct_of (by decide) (Nat.le_of_ble_eq_true rfl) (fun f0 sz => ?_)
  show jt _ 0 [(0, .ref (b + 5)), (1, .ref (b + 39)), (2, .ref (b + 14)), (3, .int (jI q))] [] _ _ _ _
  have r55 : 0 ≤ I 5 5 ∧ I 5 5 ≤ 300 := hI 5 5
  have hz0 : cPo [131, 627] [9, 10, 11, 40, 41, 42] I A I A := cPo.refl hI hA
  refine jt_aload_n d_EX_putBody_0 rfl ?_
  refine cm_get (k := 39) (v := .ref (b + 42)) d_EX_putBody_1 EX_f58 (by decide) (cc_1 rfl) rfl ?_
  refine jt_aload_n d_EX_putBody_4 rfl ?_
  refine cm_get (k := 5) (v := .int (jI (I 5 5))) d_EX_putBody_5 EX_f42 (by decide) cc_2 rfl ?_
  have rb1 : 0 ≤ I 5 5 ∧ I 5 5 ≤ 300 := hz0.1 5 5
  refine cm_ld0 (k := 42) (n := 300) (v := (A 42) (I 5 5)) d_EX_putBody_8 (by decide) rfl rfl (by omega) (by omega) (by omega) rfl ?_
  refine jt_topi (fun v2 ev2 => ?_)
  have bv2 : -2147483648 ≤ v2 ∧ v2 ≤ 2147483647 := by rw [ev2]; exact hz0.2.1 42 (I 5 5)
  refine jt_iconst d_EX_putBody_9 ?_
  refine jt_iadd d_EX_putBody_10 ?_
  refine jt_topiw (fun v3 bv3 => ?_)
  refine jt_istore (L' := [(0, .ref (b + 5)), (1, .ref (b + 39)), (2, .ref (b + 14)), (3, .int (jI q)), (4, .int (jI v3))]) d_EX_putBody_11 (Nat.le_of_ble_eq_true rfl) rfl ?_
  refine jt_aload_n d_EX_putBody_13 rfl ?_
  refine cm_get (k := 5) (v := .ref (b + 8)) d_EX_putBody_14 EX_f24 (by decide) cc_2 rfl ?_
  refine jt_iconst d_EX_putBody_17 ?_
  refine cm_put (k := 8) (j := 3) (v := 0) d_EX_putBody_18 (EX_w38 _ rfl) (by decide) (cc_1 rfl) rfl rfl (Nat.le_of_ble_eq_true rfl) rfl ?_
  have p4 := cPo.I 8 3 0 hz0 rfl (show 0 ≤ 0 ∧ 0 ≤ 300 by omega)
  refine jt_iconst d_EX_putBody_21 ?_
  refine jt_istore (L' := [(0, .ref (b + 5)), (1, .ref (b + 39)), (2, .ref (b + 14)), (3, .int (jI q)), (4, .int (jI v3)), (5, .int (jI 0))]) d_EX_putBody_22 (Nat.le_of_ble_eq_true rfl) rfl ?_
  exact l24_EX_putBody_14v G d b q I A hI hA hK hq ha f0 sz v3 ((by omega)) 41 0 (cu I 8 3 0) A p4 (by omega) hK (by omega)
set_option maxRecDepth 100000 in
set_option maxHeartbeats 4000000 in
theorem l16_EX_lengthAfter_18v (G : jG) (d b : Nat) (q : Int) (I : Nat → Nat → Int) (A : Nat → Int → Int) (hI : cSI I) (hA : cSA A) (hK : cTok A) (hq : 0 ≤ q ∧ q ≤ 301) (f0 : jF) (sz : Nat)  : ∀ (n9 : Nat) (l : Int) (i : Int) (J : Nat → Nat → Int) (B : Nat → Int → Int), cPo [] [] I A J B → (0 ≤ i ∧ i ≤ 40) → (-700 - 300 * i ≤ l ∧ l ≤ 700 + 300 * i) → 40 - i < (n9 : Int) → jt (jm G Y_EX_lengthAfter (gR d) (cQ b f0 sz (fun (rv : Option Value) (I2 : Nat → Nat → Int) (A2 : Nat → Int → Int) => ∃ y : Int, rv = some (.int (jI y)) ∧ (-2147483648 ≤ y ∧ y ≤ 2147483647) ∧ cPo [] [] I A I2 A2))) 16 [(0, .ref (b + 5)), (1, .ref (b + 39)), (2, .ref (b + 18)), (3, .int (jI q)), (4, .int (jI l)), (5, .int (jI i))] [] (cmf b f0 J B) sz 0 0 := by
  intro n9
  induction n9 with
  | zero =>
    intro l i J B hJ i0 l0 hmeas
    have tk : gtok (B 19 i) (B 20 i) := (cTok_of hJ hK rfl) 18 rfl i
    unfold gtok at tk
    exfalso
    omega
  | succ n9 ih =>
    intro l i J B hJ i0 l0 hmeas
    have tk : gtok (B 19 i) (B 20 i) := (cTok_of hJ hK rfl) 18 rfl i
    unfold gtok at tk
    refine jt_iload d_EX_lengthAfter_16 rfl ?_
    refine jt_aload_n d_EX_lengthAfter_18 rfl ?_
    refine cm_get (k := 18) (v := .int (jI (J 18 3))) d_EX_lengthAfter_19 EX_f38 (by decide) (cc_1 rfl) rfl ?_
    have rb101 : 0 ≤ J 18 3 ∧ J 18 3 ≤ 40 := hJ.1 18 3
    refine jt_icmp_ge (t := 75) d_EX_lengthAfter_22 rfl (by unfold jRi; omega) (by unfold jRi; omega) (fun c102 => ?_) (fun c102 => ?_)
    · skip
      refine jt_iload d_EX_lengthAfter_75 rfl ?_
      exact cm_ret d_EX_lengthAfter_77 rfl rfl (⟨l, rfl, by omega, hJ⟩)
    · skip
      refine jt_aload_n d_EX_lengthAfter_25 rfl ?_
      refine cm_get (k := 18) (v := .ref (b + 20)) d_EX_lengthAfter_26 EX_f55 (by decide) (cc_1 rfl) rfl ?_
      refine jt_iload d_EX_lengthAfter_29 rfl ?_
      refine cm_ld0 (k := 20) (n := 40) (v := (B 20) i) d_EX_lengthAfter_31 (by decide) rfl rfl (by omega) (by omega) (by omega) rfl ?_
      refine jt_topi (fun v103 ev103 => ?_)
      have bv103 : -2147483648 ≤ v103 ∧ v103 ≤ 2147483647 := by rw [ev103]; exact hJ.2.1 20 i
      refine jt_istore (L' := [(0, .ref (b + 5)), (1, .ref (b + 39)), (2, .ref (b + 18)), (3, .int (jI q)), (4, .int (jI l)), (5, .int (jI i)), (6, .int (jI v103))]) d_EX_lengthAfter_32 (Nat.le_of_ble_eq_true rfl) rfl ?_
      refine jt_iload d_EX_lengthAfter_34 rfl ?_
      refine jt_aload_n d_EX_lengthAfter_36 rfl ?_
      refine cm_get (k := 18) (v := .ref (b + 19)) d_EX_lengthAfter_37 EX_f48 (by decide) (cc_1 rfl) rfl ?_
      refine jt_iload d_EX_lengthAfter_40 rfl ?_
      refine cm_ld0 (k := 19) (n := 40) (v := (B 19) i) d_EX_lengthAfter_42 (by decide) rfl rfl (by omega) (by omega) (by omega) rfl ?_
      refine jt_topi (fun v104 ev104 => ?_)
      have bv104 : -2147483648 ≤ v104 ∧ v104 ≤ 2147483647 := by rw [ev104]; exact hJ.2.1 19 i
      refine jt_iconst d_EX_lengthAfter_43 ?_
      refine jt_icmp_ne (t := 65) d_EX_lengthAfter_44 rfl (by unfold jRi; omega) (by unfold jRi; omega) (fun c105 => ?_) (fun c105 => ?_)
      · skip
        refine jt_iconst d_EX_lengthAfter_65 ?_
        refine jt_iadd d_EX_lengthAfter_66 ?_
        refine jt_topi (fun v106 ev106 => ?_)
        refine jt_istore (L' := [(0, .ref (b + 5)), (1, .ref (b + 39)), (2, .ref (b + 18)), (3, .int (jI q)), (4, .int (jI v106)), (5, .int (jI i)), (6, .int (jI v103))]) d_EX_lengthAfter_67 (Nat.le_of_ble_eq_true rfl) rfl ?_
        refine jt_iinc (L' := [(0, .ref (b + 5)), (1, .ref (b + 39)), (2, .ref (b + 18)), (3, .int (jI q)), (4, .int (jI v106)), (5, .int (jI (i + 1))), (6, .int (jI v103))]) d_EX_lengthAfter_69 rfl (Nat.le_of_ble_eq_true rfl) rfl ?_
        refine jt_goto (t := 16) d_EX_lengthAfter_72 rfl ?_
        refine jt_sub (L' := [(0, .ref (b + 5)), (1, .ref (b + 39)), (2, .ref (b + 18)), (3, .int (jI q)), (4, .int (jI v106)), (5, .int (jI (i + 1)))]) (fun _ h => List.mem_append_left [(6, Value.int (jI v103))] h) ?_
        exact ih v106 (i + 1) J B hJ (by omega) (by omega) (by omega)
      · skip
        refine jt_aload_n d_EX_lengthAfter_47 rfl ?_
        refine cm_get (k := 5) (v := .ref (b + 13)) d_EX_lengthAfter_48 EX_f31 (by decide) cc_2 rfl ?_
        refine jt_iload d_EX_lengthAfter_51 rfl ?_
        refine cm_ld0 (k := 13) (n := 3) (v := (B 13) v103) d_EX_lengthAfter_53 (by decide) rfl rfl (by omega) (by omega) (by omega) rfl ?_
        refine jt_topi (fun v107 ev107 => ?_)
        have bv107 : 0 ≤ v107 ∧ v107 ≤ 300 := by rw [ev107]; exact hJ.2.1 13 v103
        refine jt_aload_n d_EX_lengthAfter_54 rfl ?_
        refine cm_get (k := 5) (v := .ref (b + 12)) d_EX_lengthAfter_55 EX_f28 (by decide) cc_2 rfl ?_
        refine jt_iload d_EX_lengthAfter_58 rfl ?_
        refine cm_ld0 (k := 12) (n := 3) (v := (B 12) v103) d_EX_lengthAfter_60 (by decide) rfl rfl (by omega) (by omega) (by omega) rfl ?_
        refine jt_topi (fun v108 ev108 => ?_)
        have bv108 : 0 ≤ v108 ∧ v108 ≤ 300 := by rw [ev108]; exact hJ.2.1 12 v103
        refine jt_isub d_EX_lengthAfter_61 ?_
        refine jt_goto (t := 66) d_EX_lengthAfter_62 rfl ?_
        refine jt_iadd d_EX_lengthAfter_66 ?_
        refine jt_topi (fun v109 ev109 => ?_)
        refine jt_istore (L' := [(0, .ref (b + 5)), (1, .ref (b + 39)), (2, .ref (b + 18)), (3, .int (jI q)), (4, .int (jI v109)), (5, .int (jI i)), (6, .int (jI v103))]) d_EX_lengthAfter_67 (Nat.le_of_ble_eq_true rfl) rfl ?_
        refine jt_iinc (L' := [(0, .ref (b + 5)), (1, .ref (b + 39)), (2, .ref (b + 18)), (3, .int (jI q)), (4, .int (jI v109)), (5, .int (jI (i + 1))), (6, .int (jI v103))]) d_EX_lengthAfter_69 rfl (Nat.le_of_ble_eq_true rfl) rfl ?_
        refine jt_goto (t := 16) d_EX_lengthAfter_72 rfl ?_
        refine jt_sub (L' := [(0, .ref (b + 5)), (1, .ref (b + 39)), (2, .ref (b + 18)), (3, .int (jI q)), (4, .int (jI v109)), (5, .int (jI (i + 1)))]) (fun _ h => List.mem_append_left [(6, Value.int (jI v103))] h) ?_
        exact ih v109 (i + 1) J B hJ (by omega) (by omega) (by omega)
set_option maxRecDepth 100000 in
set_option maxHeartbeats 4000000 in
theorem v_EX_lengthAfter_18 (G : jG) (d b : Nat) (q : Int) (I : Nat → Nat → Int) (A : Nat → Int → Int) (hI : cSI I) (hA : cSA A) (hK : cTok A) (hq : 0 ≤ q ∧ q ≤ 301) : cct G Y_EX_lengthAfter d b [.ref (b + 5), .ref (b + 39), .ref (b + 18), .int (jI q)] I A (fun (rv : Option Value) (I2 : Nat → Nat → Int) (A2 : Nat → Int → Int) => ∃ y : Int, rv = some (.int (jI y)) ∧ (-2147483648 ≤ y ∧ y ≤ 2147483647) ∧ cPo [] [] I A I2 A2) := by
  refine cct_of (by decide) (Nat.le_of_ble_eq_true rfl) (fun f0 sz => ?_)
  show jt _ 0 [(0, .ref (b + 5)), (1, .ref (b + 39)), (2, .ref (b + 18)), (3, .int (jI q))] [] _ _ _ _
  have hz0 : cPo [] [] I A I A := cPo.refl hI hA
  refine jt_aload_n d_EX_lengthAfter_0 rfl ?_
  refine cm_get (k := 5) (v := .int (jI (I 5 5))) d_EX_lengthAfter_1 EX_f42 (by decide) cc_2 rfl ?_
  have rb1 : 0 ≤ I 5 5 ∧ I 5 5 ≤ 300 := hz0.1 5 5
  refine jt_aload_n d_EX_lengthAfter_4 rfl ?_
  refine cm_get (k := 39) (v := .int (jI (I 39 3))) d_EX_lengthAfter_5 EX_f38 (by decide) (cc_1 rfl) rfl ?_
  have rb2 : 0 ≤ I 39 3 ∧ I 39 3 ≤ 300 := hz0.1 39 3
  refine jt_iadd d_EX_lengthAfter_8 ?_
  refine jt_iload_n d_EX_lengthAfter_9 rfl ?_
  refine jt_isub d_EX_lengthAfter_10 ?_
  refine jt_topi (fun v3 ev3 => ?_)
  refine jt_istore (L' := [(0, .ref (b + 5)), (1, .ref (b + 39)), (2, .ref (b + 18)), (3, .int (jI q)), (4, .int (jI v3))]) d_EX_lengthAfter_11 (Nat.le_of_ble_eq_true rfl) rfl ?_
  refine jt_iconst d_EX_lengthAfter_13 ?_
  refine jt_istore (L' := [(0, .ref (b + 5)), (1, .ref (b + 39)), (2, .ref (b + 18)), (3, .int (jI q)), (4, .int (jI v3)), (5, .int (jI 0))]) d_EX_lengthAfter_14 (Nat.le_of_ble_eq_true rfl) rfl ?_
  exact l16_EX_lengthAfter_18v G d b q I A hI hA hK hq f0 sz  41 v3 0 I A hz0 (by omega) (by omega) (by omega)
set_option maxRecDepth 100000 in
set_option maxHeartbeats 4000000 in
theorem l24_EX_putBody_18v (G : jG) (d b : Nat) (q : Int) (I : Nat → Nat → Int) (A : Nat → Int → Int) (hI : cSI I) (hA : cSA A) (hK : cTok A) (hq : 0 ≤ q ∧ q ≤ 301) (ha : I 5 5 < 300) (f0 : jF) (sz : Nat) (e : Int) (e0 : -2147483648 ≤ e ∧ e ≤ 2147483647) : ∀ (n9 : Nat) (i : Int) (J : Nat → Nat → Int) (B : Nat → Int → Int), cPo [131, 627] [9, 10, 11, 40, 41, 42] I A J B → (0 ≤ i ∧ i ≤ 40) → (cTok B) → 40 - i < (n9 : Int) → jt (jm G Y_EX_putBody (gR (d + 2)) (cQ b f0 sz (fun (rv : Option Value) (I2 : Nat → Nat → Int) (A2 : Nat → Int → Int) => rv = none ∧ cPo [131, 627] [9, 10, 11, 40, 41, 42] I A I2 A2 ∧ cTok A2))) 24 [(0, .ref (b + 5)), (1, .ref (b + 39)), (2, .ref (b + 18)), (3, .int (jI q)), (4, .int (jI e)), (5, .int (jI i))] [] (cmf b f0 J B) sz 0 0 := by
  have r55 : 0 ≤ I 5 5 ∧ I 5 5 ≤ 300 := hI 5 5
  intro n9
  induction n9 with
  | zero =>
    intro i J B hJ i0 hKJ hmeas
    have tk : gtok (B 19 i) (B 20 i) := hKJ 18 rfl i
    have tk2 := tk
    unfold gtok at tk
    have f55 : J 5 5 = I 5 5 := hJ.2.2.1 5 5 rfl
    exfalso
    omega
  | succ n9 ih =>
    intro i J B hJ i0 hKJ hmeas
    have tk : gtok (B 19 i) (B 20 i) := hKJ 18 rfl i
    have tk2 := tk
    unfold gtok at tk
    have f55 : J 5 5 = I 5 5 := hJ.2.2.1 5 5 rfl
    refine jt_iload d_EX_putBody_24 rfl ?_
    refine jt_aload_n d_EX_putBody_26 rfl ?_
    refine cm_get (k := 18) (v := .int (jI (J 18 3))) d_EX_putBody_27 EX_f38 (by decide) (cc_1 rfl) rfl ?_
    have rb101 : 0 ≤ J 18 3 ∧ J 18 3 ≤ 40 := hJ.1 18 3
    refine jt_icmp_ge (t := 102) d_EX_putBody_30 rfl (by unfold jRi; omega) (by unfold jRi; omega) (fun c102 => ?_) (fun c102 => ?_)
    · skip
      refine jt_aload_n d_EX_putBody_102 rfl ?_
      refine cm_get (k := 5) (v := .ref (b + 8)) d_EX_putBody_103 EX_f24 (by decide) cc_2 rfl ?_
      refine jt_aload_n d_EX_putBody_106 rfl ?_
      refine jt_iload_n d_EX_putBody_107 rfl ?_
      refine jt_aload_n d_EX_putBody_108 rfl ?_
      refine cm_get (k := 39) (v := .int (jI (J 39 3))) d_EX_putBody_109 EX_f38 (by decide) (cc_1 rfl) rfl ?_
      have rb103 : 0 ≤ J 39 3 ∧ J 39 3 ≤ 300 := hJ.1 39 3
      refine cct_callV (Y := Y_TR_addAll) (ci := 0) (k := 8) (As := [.ref (b + 39), .int (jI q), .int (jI (J 39 3))]) (rest := []) d_EX_putBody_112 EX_c80 yk_TR_addAll yv_TR_addAll rfl (Nat.le_of_ble_eq_true rfl) (by decide) (cc_1 rfl) rfl rfl (Nat.le_of_ble_eq_true rfl) (v_TR_addAll_8_39 G _ b q (J 39 3) J B hJ.1 hJ.2.1 (by omega) (by omega)) (fun rvq104 Iq104 Aq104 hq104 => ?_)
      obtain ⟨rfl, hqq104, hxq104⟩ := hq104
      have hpq104 := cPo.trans hJ hqq104 rfl rfl
      have m39_3q104 : Iq104 39 3 = J 39 3 := hqq104.2.2.1 39 3 rfl
      have m5_5q104 : Iq104 5 5 = J 5 5 := hqq104.2.2.1 5 5 rfl
      show jt _ 115 [(0, .ref (b + 5)), (1, .ref (b + 39)), (2, .ref (b + 18)), (3, .int (jI q)), (4, .int (jI e)), (5, .int (jI i))] [] (cmf b f0 Iq104 Aq104) _ _ _
      refine jt_aload_n d_EX_putBody_115 rfl ?_
      refine jt_aload_n d_EX_putBody_116 rfl ?_
      refine cm_get (k := 5) (v := .int (jI (Iq104 5 5))) d_EX_putBody_117 EX_f42 (by decide) cc_2 rfl ?_
      have rb105 : 0 ≤ Iq104 5 5 ∧ Iq104 5 5 ≤ 300 := hpq104.1 5 5
      refine cm_put (k := 39) (j := 3) (v := (Iq104 5 5)) d_EX_putBody_120 (EX_w38 _ rfl) (by decide) (cc_1 rfl) rfl rfl (Nat.le_of_ble_eq_true rfl) rfl ?_
      have p106 := cPo.I 39 3 (Iq104 5 5) hpq104 rfl (show 0 ≤ Iq104 5 5 ∧ Iq104 5 5 ≤ 300 by omega)
      refine jt_aload_n d_EX_putBody_123 rfl ?_
      refine jt_aload_n d_EX_putBody_124 rfl ?_
      refine cm_get (k := 5) (v := .ref (b + 8)) d_EX_putBody_125 EX_f24 (by decide) cc_2 rfl ?_
      refine jt_iconst d_EX_putBody_128 ?_
      refine jt_aload_n d_EX_putBody_129 rfl ?_
      refine cm_get (k := 5) (v := .ref (b + 8)) d_EX_putBody_130 EX_f24 (by decide) cc_2 rfl ?_
      refine cm_get (k := 8) (v := .int (jI (Iq104 8 3))) d_EX_putBody_133 EX_f38 (by decide) (cc_1 rfl) rfl ?_
      have rb107 : 0 ≤ Iq104 8 3 ∧ Iq104 8 3 ≤ 300 := p106.1 8 3
      refine cct_callV (Y := Y_TR_addAll) (ci := 0) (k := 39) (As := [.ref (b + 8), .int (jI 0), .int (jI (Iq104 8 3))]) (rest := []) d_EX_putBody_136 EX_c80 yk_TR_addAll yv_TR_addAll rfl (Nat.le_of_ble_eq_true rfl) (by decide) (cc_1 rfl) rfl rfl (Nat.le_of_ble_eq_true rfl) (v_TR_addAll_39_8 G _ b 0 (Iq104 8 3) (cu Iq104 39 3 (Iq104 5 5)) Aq104 p106.1 p106.2.1 (by omega) (by omega)) (fun rvq108 Iq108 Aq108 hq108 => ?_)
      obtain ⟨rfl, hqq108, hxq108⟩ := hq108
      have hpq108 := cPo.trans p106 hqq108 rfl rfl
      have m5_5q108 : Iq108 5 5 = Iq104 5 5 := hqq108.2.2.1 5 5 rfl
      have m8_3q108 : Iq108 8 3 = Iq104 8 3 := hqq108.2.2.1 8 3 rfl
      show jt _ 139 [(0, .ref (b + 5)), (1, .ref (b + 39)), (2, .ref (b + 18)), (3, .int (jI q)), (4, .int (jI e)), (5, .int (jI i))] [] (cmf b f0 Iq108 Aq108) _ _ _
      exact cm_vret d_EX_putBody_139 rfl (⟨rfl, hpq108, (hxq108 (hxq104 hKJ))⟩)
    · skip
      refine jt_aload_n d_EX_putBody_33 rfl ?_
      refine cm_get (k := 18) (v := .ref (b + 20)) d_EX_putBody_34 EX_f55 (by decide) (cc_1 rfl) rfl ?_
      refine jt_iload d_EX_putBody_37 rfl ?_
      refine cm_ld0 (k := 20) (n := 40) (v := (B 20) i) d_EX_putBody_39 (by decide) rfl rfl (by omega) (by omega) (by omega) rfl ?_
      refine jt_topi (fun v109 ev109 => ?_)
      have bv109 : -2147483648 ≤ v109 ∧ v109 ≤ 2147483647 := by rw [ev109]; exact hJ.2.1 20 i
      refine jt_istore (L' := [(0, .ref (b + 5)), (1, .ref (b + 39)), (2, .ref (b + 18)), (3, .int (jI q)), (4, .int (jI e)), (5, .int (jI i)), (6, .int (jI v109))]) d_EX_putBody_40 (Nat.le_of_ble_eq_true rfl) rfl ?_
      refine jt_aload_n d_EX_putBody_42 rfl ?_
      refine cm_get (k := 18) (v := .ref (b + 19)) d_EX_putBody_43 EX_f48 (by decide) (cc_1 rfl) rfl ?_
      refine jt_iload d_EX_putBody_46 rfl ?_
      refine cm_ld0 (k := 19) (n := 40) (v := (B 19) i) d_EX_putBody_48 (by decide) rfl rfl (by omega) (by omega) (by omega) rfl ?_
      refine jt_topi (fun v110 ev110 => ?_)
      have bv110 : -2147483648 ≤ v110 ∧ v110 ≤ 2147483647 := by rw [ev110]; exact hJ.2.1 19 i
      refine jt_iconst d_EX_putBody_49 ?_
      refine jt_icmp_ne (t := 78) d_EX_putBody_50 rfl (by unfold jRi; omega) (by unfold jRi; omega) (fun c111 => ?_) (fun c111 => ?_)
      · skip
        refine jt_aload_n d_EX_putBody_78 rfl ?_
        refine cm_get (k := 5) (v := .ref (b + 8)) d_EX_putBody_79 EX_f24 (by decide) cc_2 rfl ?_
        refine jt_aload_n d_EX_putBody_82 rfl ?_
        refine cm_get (k := 18) (v := .ref (b + 19)) d_EX_putBody_83 EX_f48 (by decide) (cc_1 rfl) rfl ?_
        refine jt_iload d_EX_putBody_86 rfl ?_
        refine cm_ld0 (k := 19) (n := 40) (v := (B 19) i) d_EX_putBody_88 (by decide) rfl rfl (by omega) (by omega) (by omega) rfl ?_
        refine jt_topi (fun v112 ev112 => ?_)
        have bv112 : -2147483648 ≤ v112 ∧ v112 ≤ 2147483647 := by rw [ev112]; exact hJ.2.1 19 i
        refine jt_iload d_EX_putBody_89 rfl ?_
        refine jt_iload d_EX_putBody_91 rfl ?_
        refine cct_callV (Y := Y_TR_add) (ci := 0) (k := 8) (As := [.int (jI v112), .int (jI v109), .int (jI e)]) (rest := []) d_EX_putBody_93 EX_c84 yk_TR_add yv_TR_add rfl (Nat.le_of_ble_eq_true rfl) (by decide) (cc_1 rfl) rfl rfl (Nat.le_of_ble_eq_true rfl) (v_TR_add_8 G _ b v112 v109 e J B hJ.1 hJ.2.1 (by omega) (by omega) (by omega)) (fun rvq113 Iq113 Aq113 hq113 => ?_)
        obtain ⟨rfl, hqq113, hxq113⟩ := hq113
        have hpq113 := cPo.trans hJ hqq113 rfl rfl
        have m39_3q113 : Iq113 39 3 = J 39 3 := hqq113.2.2.1 39 3 rfl
        have m5_5q113 : Iq113 5 5 = J 5 5 := hqq113.2.2.1 5 5 rfl
        show jt _ 96 [(0, .ref (b + 5)), (1, .ref (b + 39)), (2, .ref (b + 18)), (3, .int (jI q)), (4, .int (jI e)), (5, .int (jI i)), (6, .int (jI v109))] [] (cmf b f0 Iq113 Aq113) _ _ _
        refine jt_iinc (L' := [(0, .ref (b + 5)), (1, .ref (b + 39)), (2, .ref (b + 18)), (3, .int (jI q)), (4, .int (jI e)), (5, .int (jI (i + 1))), (6, .int (jI v109))]) d_EX_putBody_96 rfl (Nat.le_of_ble_eq_true rfl) rfl ?_
        refine jt_goto (t := 24) d_EX_putBody_99 rfl ?_
        refine jt_sub (L' := [(0, .ref (b + 5)), (1, .ref (b + 39)), (2, .ref (b + 18)), (3, .int (jI q)), (4, .int (jI e)), (5, .int (jI (i + 1)))]) (fun _ h => List.mem_append_left [(6, Value.int (jI v109))] h) ?_
        exact ih (i + 1) Iq113 Aq113 hpq113 (by omega) (hxq113.1 hKJ (by rw [ev112, ev109]; exact tk2)) (by omega)
      · skip
        refine jt_aload_n d_EX_putBody_53 rfl ?_
        refine cm_get (k := 5) (v := .ref (b + 8)) d_EX_putBody_54 EX_f24 (by decide) cc_2 rfl ?_
        refine jt_aload_n d_EX_putBody_57 rfl ?_
        refine jt_aload_n d_EX_putBody_58 rfl ?_
        refine cm_get (k := 5) (v := .ref (b + 12)) d_EX_putBody_59 EX_f28 (by decide) cc_2 rfl ?_
        refine jt_iload d_EX_putBody_62 rfl ?_
        refine cm_ld0 (k := 12) (n := 3) (v := (B 12) v109) d_EX_putBody_64 (by decide) rfl rfl (by omega) (by omega) (by omega) rfl ?_
        refine jt_topi (fun v114 ev114 => ?_)
        have bv114 : 0 ≤ v114 ∧ v114 ≤ 300 := by rw [ev114]; exact hJ.2.1 12 v109
        refine jt_aload_n d_EX_putBody_65 rfl ?_
        refine cm_get (k := 5) (v := .ref (b + 13)) d_EX_putBody_66 EX_f31 (by decide) cc_2 rfl ?_
        refine jt_iload d_EX_putBody_69 rfl ?_
        refine cm_ld0 (k := 13) (n := 3) (v := (B 13) v109) d_EX_putBody_71 (by decide) rfl rfl (by omega) (by omega) (by omega) rfl ?_
        refine jt_topi (fun v115 ev115 => ?_)
        have bv115 : 0 ≤ v115 ∧ v115 ≤ 300 := by rw [ev115]; exact hJ.2.1 13 v109
        refine cct_callV (Y := Y_TR_addAll) (ci := 0) (k := 8) (As := [.ref (b + 39), .int (jI v114), .int (jI v115)]) (rest := []) d_EX_putBody_72 EX_c80 yk_TR_addAll yv_TR_addAll rfl (Nat.le_of_ble_eq_true rfl) (by decide) (cc_1 rfl) rfl rfl (Nat.le_of_ble_eq_true rfl) (v_TR_addAll_8_39 G _ b v114 v115 J B hJ.1 hJ.2.1 (by omega) (by omega)) (fun rvq116 Iq116 Aq116 hq116 => ?_)
        obtain ⟨rfl, hqq116, hxq116⟩ := hq116
        have hpq116 := cPo.trans hJ hqq116 rfl rfl
        have m39_3q116 : Iq116 39 3 = J 39 3 := hqq116.2.2.1 39 3 rfl
        have m5_5q116 : Iq116 5 5 = J 5 5 := hqq116.2.2.1 5 5 rfl
        show jt _ 75 [(0, .ref (b + 5)), (1, .ref (b + 39)), (2, .ref (b + 18)), (3, .int (jI q)), (4, .int (jI e)), (5, .int (jI i)), (6, .int (jI v109))] [] (cmf b f0 Iq116 Aq116) _ _ _
        refine jt_goto (t := 96) d_EX_putBody_75 rfl ?_
        refine jt_iinc (L' := [(0, .ref (b + 5)), (1, .ref (b + 39)), (2, .ref (b + 18)), (3, .int (jI q)), (4, .int (jI e)), (5, .int (jI (i + 1))), (6, .int (jI v109))]) d_EX_putBody_96 rfl (Nat.le_of_ble_eq_true rfl) rfl ?_
        refine jt_goto (t := 24) d_EX_putBody_99 rfl ?_
        refine jt_sub (L' := [(0, .ref (b + 5)), (1, .ref (b + 39)), (2, .ref (b + 18)), (3, .int (jI q)), (4, .int (jI e)), (5, .int (jI (i + 1)))]) (fun _ h => List.mem_append_left [(6, Value.int (jI v109))] h) ?_
        exact ih (i + 1) Iq116 Aq116 hpq116 (by omega) (hxq116 hKJ) (by omega)
set_option maxRecDepth 100000 in
set_option maxHeartbeats 4000000 in
theorem v_EX_putBody_18 (G : jG) (d b : Nat) (q : Int) (I : Nat → Nat → Int) (A : Nat → Int → Int) (hI : cSI I) (hA : cSA A) (hK : cTok A) (hq : 0 ≤ q ∧ q ≤ 301) (ha : I 5 5 < 300) : cct G Y_EX_putBody (d + 2) b [.ref (b + 5), .ref (b + 39), .ref (b + 18), .int (jI q)] I A (fun (rv : Option Value) (I2 : Nat → Nat → Int) (A2 : Nat → Int → Int) => rv = none ∧ cPo [131, 627] [9, 10, 11, 40, 41, 42] I A I2 A2 ∧ cTok A2) := by
  refine cct_of (by decide) (Nat.le_of_ble_eq_true rfl) (fun f0 sz => ?_)
  show jt _ 0 [(0, .ref (b + 5)), (1, .ref (b + 39)), (2, .ref (b + 18)), (3, .int (jI q))] [] _ _ _ _
  have r55 : 0 ≤ I 5 5 ∧ I 5 5 ≤ 300 := hI 5 5
  have hz0 : cPo [131, 627] [9, 10, 11, 40, 41, 42] I A I A := cPo.refl hI hA
  refine jt_aload_n d_EX_putBody_0 rfl ?_
  refine cm_get (k := 39) (v := .ref (b + 42)) d_EX_putBody_1 EX_f58 (by decide) (cc_1 rfl) rfl ?_
  refine jt_aload_n d_EX_putBody_4 rfl ?_
  refine cm_get (k := 5) (v := .int (jI (I 5 5))) d_EX_putBody_5 EX_f42 (by decide) cc_2 rfl ?_
  have rb1 : 0 ≤ I 5 5 ∧ I 5 5 ≤ 300 := hz0.1 5 5
  refine cm_ld0 (k := 42) (n := 300) (v := (A 42) (I 5 5)) d_EX_putBody_8 (by decide) rfl rfl (by omega) (by omega) (by omega) rfl ?_
  refine jt_topi (fun v2 ev2 => ?_)
  have bv2 : -2147483648 ≤ v2 ∧ v2 ≤ 2147483647 := by rw [ev2]; exact hz0.2.1 42 (I 5 5)
  refine jt_iconst d_EX_putBody_9 ?_
  refine jt_iadd d_EX_putBody_10 ?_
  refine jt_topiw (fun v3 bv3 => ?_)
  refine jt_istore (L' := [(0, .ref (b + 5)), (1, .ref (b + 39)), (2, .ref (b + 18)), (3, .int (jI q)), (4, .int (jI v3))]) d_EX_putBody_11 (Nat.le_of_ble_eq_true rfl) rfl ?_
  refine jt_aload_n d_EX_putBody_13 rfl ?_
  refine cm_get (k := 5) (v := .ref (b + 8)) d_EX_putBody_14 EX_f24 (by decide) cc_2 rfl ?_
  refine jt_iconst d_EX_putBody_17 ?_
  refine cm_put (k := 8) (j := 3) (v := 0) d_EX_putBody_18 (EX_w38 _ rfl) (by decide) (cc_1 rfl) rfl rfl (Nat.le_of_ble_eq_true rfl) rfl ?_
  have p4 := cPo.I 8 3 0 hz0 rfl (show 0 ≤ 0 ∧ 0 ≤ 300 by omega)
  refine jt_iconst d_EX_putBody_21 ?_
  refine jt_istore (L' := [(0, .ref (b + 5)), (1, .ref (b + 39)), (2, .ref (b + 18)), (3, .int (jI q)), (4, .int (jI v3)), (5, .int (jI 0))]) d_EX_putBody_22 (Nat.le_of_ble_eq_true rfl) rfl ?_
  exact l24_EX_putBody_18v G d b q I A hI hA hK hq ha f0 sz v3 ((by omega)) 41 0 (cu I 8 3 0) A p4 (by omega) hK (by omega)
set_option maxRecDepth 100000 in
set_option maxHeartbeats 4000000 in
theorem l16_EX_lengthAfter_22v (G : jG) (d b : Nat) (q : Int) (I : Nat → Nat → Int) (A : Nat → Int → Int) (hI : cSI I) (hA : cSA A) (hK : cTok A) (hq : 0 ≤ q ∧ q ≤ 301) (f0 : jF) (sz : Nat)  : ∀ (n9 : Nat) (l : Int) (i : Int) (J : Nat → Nat → Int) (B : Nat → Int → Int), cPo [] [] I A J B → (0 ≤ i ∧ i ≤ 40) → (-700 - 300 * i ≤ l ∧ l ≤ 700 + 300 * i) → 40 - i < (n9 : Int) → jt (jm G Y_EX_lengthAfter (gR d) (cQ b f0 sz (fun (rv : Option Value) (I2 : Nat → Nat → Int) (A2 : Nat → Int → Int) => ∃ y : Int, rv = some (.int (jI y)) ∧ (-2147483648 ≤ y ∧ y ≤ 2147483647) ∧ cPo [] [] I A I2 A2))) 16 [(0, .ref (b + 5)), (1, .ref (b + 39)), (2, .ref (b + 22)), (3, .int (jI q)), (4, .int (jI l)), (5, .int (jI i))] [] (cmf b f0 J B) sz 0 0 := by
  intro n9
  induction n9 with
  | zero =>
    intro l i J B hJ i0 l0 hmeas
    have tk : gtok (B 23 i) (B 24 i) := (cTok_of hJ hK rfl) 22 rfl i
    unfold gtok at tk
    exfalso
    omega
  | succ n9 ih =>
    intro l i J B hJ i0 l0 hmeas
    have tk : gtok (B 23 i) (B 24 i) := (cTok_of hJ hK rfl) 22 rfl i
    unfold gtok at tk
    refine jt_iload d_EX_lengthAfter_16 rfl ?_
    refine jt_aload_n d_EX_lengthAfter_18 rfl ?_
    refine cm_get (k := 22) (v := .int (jI (J 22 3))) d_EX_lengthAfter_19 EX_f38 (by decide) (cc_1 rfl) rfl ?_
    have rb101 : 0 ≤ J 22 3 ∧ J 22 3 ≤ 40 := hJ.1 22 3
    refine jt_icmp_ge (t := 75) d_EX_lengthAfter_22 rfl (by unfold jRi; omega) (by unfold jRi; omega) (fun c102 => ?_) (fun c102 => ?_)
    · skip
      refine jt_iload d_EX_lengthAfter_75 rfl ?_
      exact cm_ret d_EX_lengthAfter_77 rfl rfl (⟨l, rfl, by omega, hJ⟩)
    · skip
      refine jt_aload_n d_EX_lengthAfter_25 rfl ?_
      refine cm_get (k := 22) (v := .ref (b + 24)) d_EX_lengthAfter_26 EX_f55 (by decide) (cc_1 rfl) rfl ?_
      refine jt_iload d_EX_lengthAfter_29 rfl ?_
      refine cm_ld0 (k := 24) (n := 40) (v := (B 24) i) d_EX_lengthAfter_31 (by decide) rfl rfl (by omega) (by omega) (by omega) rfl ?_
      refine jt_topi (fun v103 ev103 => ?_)
      have bv103 : -2147483648 ≤ v103 ∧ v103 ≤ 2147483647 := by rw [ev103]; exact hJ.2.1 24 i
      refine jt_istore (L' := [(0, .ref (b + 5)), (1, .ref (b + 39)), (2, .ref (b + 22)), (3, .int (jI q)), (4, .int (jI l)), (5, .int (jI i)), (6, .int (jI v103))]) d_EX_lengthAfter_32 (Nat.le_of_ble_eq_true rfl) rfl ?_
      refine jt_iload d_EX_lengthAfter_34 rfl ?_
      refine jt_aload_n d_EX_lengthAfter_36 rfl ?_
      refine cm_get (k := 22) (v := .ref (b + 23)) d_EX_lengthAfter_37 EX_f48 (by decide) (cc_1 rfl) rfl ?_
      refine jt_iload d_EX_lengthAfter_40 rfl ?_
      refine cm_ld0 (k := 23) (n := 40) (v := (B 23) i) d_EX_lengthAfter_42 (by decide) rfl rfl (by omega) (by omega) (by omega) rfl ?_
      refine jt_topi (fun v104 ev104 => ?_)
      have bv104 : -2147483648 ≤ v104 ∧ v104 ≤ 2147483647 := by rw [ev104]; exact hJ.2.1 23 i
      refine jt_iconst d_EX_lengthAfter_43 ?_
      refine jt_icmp_ne (t := 65) d_EX_lengthAfter_44 rfl (by unfold jRi; omega) (by unfold jRi; omega) (fun c105 => ?_) (fun c105 => ?_)
      · skip
        refine jt_iconst d_EX_lengthAfter_65 ?_
        refine jt_iadd d_EX_lengthAfter_66 ?_
        refine jt_topi (fun v106 ev106 => ?_)
        refine jt_istore (L' := [(0, .ref (b + 5)), (1, .ref (b + 39)), (2, .ref (b + 22)), (3, .int (jI q)), (4, .int (jI v106)), (5, .int (jI i)), (6, .int (jI v103))]) d_EX_lengthAfter_67 (Nat.le_of_ble_eq_true rfl) rfl ?_
        refine jt_iinc (L' := [(0, .ref (b + 5)), (1, .ref (b + 39)), (2, .ref (b + 22)), (3, .int (jI q)), (4, .int (jI v106)), (5, .int (jI (i + 1))), (6, .int (jI v103))]) d_EX_lengthAfter_69 rfl (Nat.le_of_ble_eq_true rfl) rfl ?_
        refine jt_goto (t := 16) d_EX_lengthAfter_72 rfl ?_
        refine jt_sub (L' := [(0, .ref (b + 5)), (1, .ref (b + 39)), (2, .ref (b + 22)), (3, .int (jI q)), (4, .int (jI v106)), (5, .int (jI (i + 1)))]) (fun _ h => List.mem_append_left [(6, Value.int (jI v103))] h) ?_
        exact ih v106 (i + 1) J B hJ (by omega) (by omega) (by omega)
      · skip
        refine jt_aload_n d_EX_lengthAfter_47 rfl ?_
        refine cm_get (k := 5) (v := .ref (b + 13)) d_EX_lengthAfter_48 EX_f31 (by decide) cc_2 rfl ?_
        refine jt_iload d_EX_lengthAfter_51 rfl ?_
        refine cm_ld0 (k := 13) (n := 3) (v := (B 13) v103) d_EX_lengthAfter_53 (by decide) rfl rfl (by omega) (by omega) (by omega) rfl ?_
        refine jt_topi (fun v107 ev107 => ?_)
        have bv107 : 0 ≤ v107 ∧ v107 ≤ 300 := by rw [ev107]; exact hJ.2.1 13 v103
        refine jt_aload_n d_EX_lengthAfter_54 rfl ?_
        refine cm_get (k := 5) (v := .ref (b + 12)) d_EX_lengthAfter_55 EX_f28 (by decide) cc_2 rfl ?_
        refine jt_iload d_EX_lengthAfter_58 rfl ?_
        refine cm_ld0 (k := 12) (n := 3) (v := (B 12) v103) d_EX_lengthAfter_60 (by decide) rfl rfl (by omega) (by omega) (by omega) rfl ?_
        refine jt_topi (fun v108 ev108 => ?_)
        have bv108 : 0 ≤ v108 ∧ v108 ≤ 300 := by rw [ev108]; exact hJ.2.1 12 v103
        refine jt_isub d_EX_lengthAfter_61 ?_
        refine jt_goto (t := 66) d_EX_lengthAfter_62 rfl ?_
        refine jt_iadd d_EX_lengthAfter_66 ?_
        refine jt_topi (fun v109 ev109 => ?_)
        refine jt_istore (L' := [(0, .ref (b + 5)), (1, .ref (b + 39)), (2, .ref (b + 22)), (3, .int (jI q)), (4, .int (jI v109)), (5, .int (jI i)), (6, .int (jI v103))]) d_EX_lengthAfter_67 (Nat.le_of_ble_eq_true rfl) rfl ?_
        refine jt_iinc (L' := [(0, .ref (b + 5)), (1, .ref (b + 39)), (2, .ref (b + 22)), (3, .int (jI q)), (4, .int (jI v109)), (5, .int (jI (i + 1))), (6, .int (jI v103))]) d_EX_lengthAfter_69 rfl (Nat.le_of_ble_eq_true rfl) rfl ?_
        refine jt_goto (t := 16) d_EX_lengthAfter_72 rfl ?_
        refine jt_sub (L' := [(0, .ref (b + 5)), (1, .ref (b + 39)), (2, .ref (b + 22)), (3, .int (jI q)), (4, .int (jI v109)), (5, .int (jI (i + 1)))]) (fun _ h => List.mem_append_left [(6, Value.int (jI v103))] h) ?_
        exact ih v109 (i + 1) J B hJ (by omega) (by omega) (by omega)
set_option maxRecDepth 100000 in
set_option maxHeartbeats 4000000 in
theorem v_EX_lengthAfter_22 (G : jG) (d b : Nat) (q : Int) (I : Nat → Nat → Int) (A : Nat → Int → Int) (hI : cSI I) (hA : cSA A) (hK : cTok A) (hq : 0 ≤ q ∧ q ≤ 301) : cct G Y_EX_lengthAfter d b [.ref (b + 5), .ref (b + 39), .ref (b + 22), .int (jI q)] I A (fun (rv : Option Value) (I2 : Nat → Nat → Int) (A2 : Nat → Int → Int) => ∃ y : Int, rv = some (.int (jI y)) ∧ (-2147483648 ≤ y ∧ y ≤ 2147483647) ∧ cPo [] [] I A I2 A2) := by
  refine cct_of (by decide) (Nat.le_of_ble_eq_true rfl) (fun f0 sz => ?_)
  show jt _ 0 [(0, .ref (b + 5)), (1, .ref (b + 39)), (2, .ref (b + 22)), (3, .int (jI q))] [] _ _ _ _
  have hz0 : cPo [] [] I A I A := cPo.refl hI hA
  refine jt_aload_n d_EX_lengthAfter_0 rfl ?_
  refine cm_get (k := 5) (v := .int (jI (I 5 5))) d_EX_lengthAfter_1 EX_f42 (by decide) cc_2 rfl ?_
  have rb1 : 0 ≤ I 5 5 ∧ I 5 5 ≤ 300 := hz0.1 5 5
  refine jt_aload_n d_EX_lengthAfter_4 rfl ?_
  refine cm_get (k := 39) (v := .int (jI (I 39 3))) d_EX_lengthAfter_5 EX_f38 (by decide) (cc_1 rfl) rfl ?_
  have rb2 : 0 ≤ I 39 3 ∧ I 39 3 ≤ 300 := hz0.1 39 3
  refine jt_iadd d_EX_lengthAfter_8 ?_
  refine jt_iload_n d_EX_lengthAfter_9 rfl ?_
  refine jt_isub d_EX_lengthAfter_10 ?_
  refine jt_topi (fun v3 ev3 => ?_)
  refine jt_istore (L' := [(0, .ref (b + 5)), (1, .ref (b + 39)), (2, .ref (b + 22)), (3, .int (jI q)), (4, .int (jI v3))]) d_EX_lengthAfter_11 (Nat.le_of_ble_eq_true rfl) rfl ?_
  refine jt_iconst d_EX_lengthAfter_13 ?_
  refine jt_istore (L' := [(0, .ref (b + 5)), (1, .ref (b + 39)), (2, .ref (b + 22)), (3, .int (jI q)), (4, .int (jI v3)), (5, .int (jI 0))]) d_EX_lengthAfter_14 (Nat.le_of_ble_eq_true rfl) rfl ?_
  exact l16_EX_lengthAfter_22v G d b q I A hI hA hK hq f0 sz  41 v3 0 I A hz0 (by omega) (by omega) (by omega)
set_option maxRecDepth 100000 in
set_option maxHeartbeats 4000000 in
theorem l24_EX_putBody_22v (G : jG) (d b : Nat) (q : Int) (I : Nat → Nat → Int) (A : Nat → Int → Int) (hI : cSI I) (hA : cSA A) (hK : cTok A) (hq : 0 ≤ q ∧ q ≤ 301) (ha : I 5 5 < 300) (f0 : jF) (sz : Nat) (e : Int) (e0 : -2147483648 ≤ e ∧ e ≤ 2147483647) : ∀ (n9 : Nat) (i : Int) (J : Nat → Nat → Int) (B : Nat → Int → Int), cPo [131, 627] [9, 10, 11, 40, 41, 42] I A J B → (0 ≤ i ∧ i ≤ 40) → (cTok B) → 40 - i < (n9 : Int) → jt (jm G Y_EX_putBody (gR (d + 2)) (cQ b f0 sz (fun (rv : Option Value) (I2 : Nat → Nat → Int) (A2 : Nat → Int → Int) => rv = none ∧ cPo [131, 627] [9, 10, 11, 40, 41, 42] I A I2 A2 ∧ cTok A2))) 24 [(0, .ref (b + 5)), (1, .ref (b + 39)), (2, .ref (b + 22)), (3, .int (jI q)), (4, .int (jI e)), (5, .int (jI i))] [] (cmf b f0 J B) sz 0 0 := by
  have r55 : 0 ≤ I 5 5 ∧ I 5 5 ≤ 300 := hI 5 5
  intro n9
  induction n9 with
  | zero =>
    intro i J B hJ i0 hKJ hmeas
    have tk : gtok (B 23 i) (B 24 i) := hKJ 22 rfl i
    have tk2 := tk
    unfold gtok at tk
    have f55 : J 5 5 = I 5 5 := hJ.2.2.1 5 5 rfl
    exfalso
    omega
  | succ n9 ih =>
    intro i J B hJ i0 hKJ hmeas
    have tk : gtok (B 23 i) (B 24 i) := hKJ 22 rfl i
    have tk2 := tk
    unfold gtok at tk
    have f55 : J 5 5 = I 5 5 := hJ.2.2.1 5 5 rfl
    refine jt_iload d_EX_putBody_24 rfl ?_
    refine jt_aload_n d_EX_putBody_26 rfl ?_
    refine cm_get (k := 22) (v := .int (jI (J 22 3))) d_EX_putBody_27 EX_f38 (by decide) (cc_1 rfl) rfl ?_
    have rb101 : 0 ≤ J 22 3 ∧ J 22 3 ≤ 40 := hJ.1 22 3
    refine jt_icmp_ge (t := 102) d_EX_putBody_30 rfl (by unfold jRi; omega) (by unfold jRi; omega) (fun c102 => ?_) (fun c102 => ?_)
    · skip
      refine jt_aload_n d_EX_putBody_102 rfl ?_
      refine cm_get (k := 5) (v := .ref (b + 8)) d_EX_putBody_103 EX_f24 (by decide) cc_2 rfl ?_
      refine jt_aload_n d_EX_putBody_106 rfl ?_
      refine jt_iload_n d_EX_putBody_107 rfl ?_
      refine jt_aload_n d_EX_putBody_108 rfl ?_
      refine cm_get (k := 39) (v := .int (jI (J 39 3))) d_EX_putBody_109 EX_f38 (by decide) (cc_1 rfl) rfl ?_
      have rb103 : 0 ≤ J 39 3 ∧ J 39 3 ≤ 300 := hJ.1 39 3
      refine cct_callV (Y := Y_TR_addAll) (ci := 0) (k := 8) (As := [.ref (b + 39), .int (jI q), .int (jI (J 39 3))]) (rest := []) d_EX_putBody_112 EX_c80 yk_TR_addAll yv_TR_addAll rfl (Nat.le_of_ble_eq_true rfl) (by decide) (cc_1 rfl) rfl rfl (Nat.le_of_ble_eq_true rfl) (v_TR_addAll_8_39 G _ b q (J 39 3) J B hJ.1 hJ.2.1 (by omega) (by omega)) (fun rvq104 Iq104 Aq104 hq104 => ?_)
      obtain ⟨rfl, hqq104, hxq104⟩ := hq104
      have hpq104 := cPo.trans hJ hqq104 rfl rfl
      have m39_3q104 : Iq104 39 3 = J 39 3 := hqq104.2.2.1 39 3 rfl
      have m5_5q104 : Iq104 5 5 = J 5 5 := hqq104.2.2.1 5 5 rfl
      show jt _ 115 [(0, .ref (b + 5)), (1, .ref (b + 39)), (2, .ref (b + 22)), (3, .int (jI q)), (4, .int (jI e)), (5, .int (jI i))] [] (cmf b f0 Iq104 Aq104) _ _ _
      refine jt_aload_n d_EX_putBody_115 rfl ?_
      refine jt_aload_n d_EX_putBody_116 rfl ?_
      refine cm_get (k := 5) (v := .int (jI (Iq104 5 5))) d_EX_putBody_117 EX_f42 (by decide) cc_2 rfl ?_
      have rb105 : 0 ≤ Iq104 5 5 ∧ Iq104 5 5 ≤ 300 := hpq104.1 5 5
      refine cm_put (k := 39) (j := 3) (v := (Iq104 5 5)) d_EX_putBody_120 (EX_w38 _ rfl) (by decide) (cc_1 rfl) rfl rfl (Nat.le_of_ble_eq_true rfl) rfl ?_
      have p106 := cPo.I 39 3 (Iq104 5 5) hpq104 rfl (show 0 ≤ Iq104 5 5 ∧ Iq104 5 5 ≤ 300 by omega)
      refine jt_aload_n d_EX_putBody_123 rfl ?_
      refine jt_aload_n d_EX_putBody_124 rfl ?_
      refine cm_get (k := 5) (v := .ref (b + 8)) d_EX_putBody_125 EX_f24 (by decide) cc_2 rfl ?_
      refine jt_iconst d_EX_putBody_128 ?_
      refine jt_aload_n d_EX_putBody_129 rfl ?_
      refine cm_get (k := 5) (v := .ref (b + 8)) d_EX_putBody_130 EX_f24 (by decide) cc_2 rfl ?_
      refine cm_get (k := 8) (v := .int (jI (Iq104 8 3))) d_EX_putBody_133 EX_f38 (by decide) (cc_1 rfl) rfl ?_
      have rb107 : 0 ≤ Iq104 8 3 ∧ Iq104 8 3 ≤ 300 := p106.1 8 3
      refine cct_callV (Y := Y_TR_addAll) (ci := 0) (k := 39) (As := [.ref (b + 8), .int (jI 0), .int (jI (Iq104 8 3))]) (rest := []) d_EX_putBody_136 EX_c80 yk_TR_addAll yv_TR_addAll rfl (Nat.le_of_ble_eq_true rfl) (by decide) (cc_1 rfl) rfl rfl (Nat.le_of_ble_eq_true rfl) (v_TR_addAll_39_8 G _ b 0 (Iq104 8 3) (cu Iq104 39 3 (Iq104 5 5)) Aq104 p106.1 p106.2.1 (by omega) (by omega)) (fun rvq108 Iq108 Aq108 hq108 => ?_)
      obtain ⟨rfl, hqq108, hxq108⟩ := hq108
      have hpq108 := cPo.trans p106 hqq108 rfl rfl
      have m5_5q108 : Iq108 5 5 = Iq104 5 5 := hqq108.2.2.1 5 5 rfl
      have m8_3q108 : Iq108 8 3 = Iq104 8 3 := hqq108.2.2.1 8 3 rfl
      show jt _ 139 [(0, .ref (b + 5)), (1, .ref (b + 39)), (2, .ref (b + 22)), (3, .int (jI q)), (4, .int (jI e)), (5, .int (jI i))] [] (cmf b f0 Iq108 Aq108) _ _ _
      exact cm_vret d_EX_putBody_139 rfl (⟨rfl, hpq108, (hxq108 (hxq104 hKJ))⟩)
    · skip
      refine jt_aload_n d_EX_putBody_33 rfl ?_
      refine cm_get (k := 22) (v := .ref (b + 24)) d_EX_putBody_34 EX_f55 (by decide) (cc_1 rfl) rfl ?_
      refine jt_iload d_EX_putBody_37 rfl ?_
      refine cm_ld0 (k := 24) (n := 40) (v := (B 24) i) d_EX_putBody_39 (by decide) rfl rfl (by omega) (by omega) (by omega) rfl ?_
      refine jt_topi (fun v109 ev109 => ?_)
      have bv109 : -2147483648 ≤ v109 ∧ v109 ≤ 2147483647 := by rw [ev109]; exact hJ.2.1 24 i
      refine jt_istore (L' := [(0, .ref (b + 5)), (1, .ref (b + 39)), (2, .ref (b + 22)), (3, .int (jI q)), (4, .int (jI e)), (5, .int (jI i)), (6, .int (jI v109))]) d_EX_putBody_40 (Nat.le_of_ble_eq_true rfl) rfl ?_
      refine jt_aload_n d_EX_putBody_42 rfl ?_
      refine cm_get (k := 22) (v := .ref (b + 23)) d_EX_putBody_43 EX_f48 (by decide) (cc_1 rfl) rfl ?_
      refine jt_iload d_EX_putBody_46 rfl ?_
      refine cm_ld0 (k := 23) (n := 40) (v := (B 23) i) d_EX_putBody_48 (by decide) rfl rfl (by omega) (by omega) (by omega) rfl ?_
      refine jt_topi (fun v110 ev110 => ?_)
      have bv110 : -2147483648 ≤ v110 ∧ v110 ≤ 2147483647 := by rw [ev110]; exact hJ.2.1 23 i
      refine jt_iconst d_EX_putBody_49 ?_
      refine jt_icmp_ne (t := 78) d_EX_putBody_50 rfl (by unfold jRi; omega) (by unfold jRi; omega) (fun c111 => ?_) (fun c111 => ?_)
      · skip
        refine jt_aload_n d_EX_putBody_78 rfl ?_
        refine cm_get (k := 5) (v := .ref (b + 8)) d_EX_putBody_79 EX_f24 (by decide) cc_2 rfl ?_
        refine jt_aload_n d_EX_putBody_82 rfl ?_
        refine cm_get (k := 22) (v := .ref (b + 23)) d_EX_putBody_83 EX_f48 (by decide) (cc_1 rfl) rfl ?_
        refine jt_iload d_EX_putBody_86 rfl ?_
        refine cm_ld0 (k := 23) (n := 40) (v := (B 23) i) d_EX_putBody_88 (by decide) rfl rfl (by omega) (by omega) (by omega) rfl ?_
        refine jt_topi (fun v112 ev112 => ?_)
        have bv112 : -2147483648 ≤ v112 ∧ v112 ≤ 2147483647 := by rw [ev112]; exact hJ.2.1 23 i
        refine jt_iload d_EX_putBody_89 rfl ?_
        refine jt_iload d_EX_putBody_91 rfl ?_
        refine cct_callV (Y := Y_TR_add) (ci := 0) (k := 8) (As := [.int (jI v112), .int (jI v109), .int (jI e)]) (rest := []) d_EX_putBody_93 EX_c84 yk_TR_add yv_TR_add rfl (Nat.le_of_ble_eq_true rfl) (by decide) (cc_1 rfl) rfl rfl (Nat.le_of_ble_eq_true rfl) (v_TR_add_8 G _ b v112 v109 e J B hJ.1 hJ.2.1 (by omega) (by omega) (by omega)) (fun rvq113 Iq113 Aq113 hq113 => ?_)
        obtain ⟨rfl, hqq113, hxq113⟩ := hq113
        have hpq113 := cPo.trans hJ hqq113 rfl rfl
        have m39_3q113 : Iq113 39 3 = J 39 3 := hqq113.2.2.1 39 3 rfl
        have m5_5q113 : Iq113 5 5 = J 5 5 := hqq113.2.2.1 5 5 rfl
        show jt _ 96 [(0, .ref (b + 5)), (1, .ref (b + 39)), (2, .ref (b + 22)), (3, .int (jI q)), (4, .int (jI e)), (5, .int (jI i)), (6, .int (jI v109))] [] (cmf b f0 Iq113 Aq113) _ _ _
        refine jt_iinc (L' := [(0, .ref (b + 5)), (1, .ref (b + 39)), (2, .ref (b + 22)), (3, .int (jI q)), (4, .int (jI e)), (5, .int (jI (i + 1))), (6, .int (jI v109))]) d_EX_putBody_96 rfl (Nat.le_of_ble_eq_true rfl) rfl ?_
        refine jt_goto (t := 24) d_EX_putBody_99 rfl ?_
        refine jt_sub (L' := [(0, .ref (b + 5)), (1, .ref (b + 39)), (2, .ref (b + 22)), (3, .int (jI q)), (4, .int (jI e)), (5, .int (jI (i + 1)))]) (fun _ h => List.mem_append_left [(6, Value.int (jI v109))] h) ?_
        exact ih (i + 1) Iq113 Aq113 hpq113 (by omega) (hxq113.1 hKJ (by rw [ev112, ev109]; exact tk2)) (by omega)
      · skip
        refine jt_aload_n d_EX_putBody_53 rfl ?_
        refine cm_get (k := 5) (v := .ref (b + 8)) d_EX_putBody_54 EX_f24 (by decide) cc_2 rfl ?_
        refine jt_aload_n d_EX_putBody_57 rfl ?_
        refine jt_aload_n d_EX_putBody_58 rfl ?_
        refine cm_get (k := 5) (v := .ref (b + 12)) d_EX_putBody_59 EX_f28 (by decide) cc_2 rfl ?_
        refine jt_iload d_EX_putBody_62 rfl ?_
        refine cm_ld0 (k := 12) (n := 3) (v := (B 12) v109) d_EX_putBody_64 (by decide) rfl rfl (by omega) (by omega) (by omega) rfl ?_
        refine jt_topi (fun v114 ev114 => ?_)
        have bv114 : 0 ≤ v114 ∧ v114 ≤ 300 := by rw [ev114]; exact hJ.2.1 12 v109
        refine jt_aload_n d_EX_putBody_65 rfl ?_
        refine cm_get (k := 5) (v := .ref (b + 13)) d_EX_putBody_66 EX_f31 (by decide) cc_2 rfl ?_
        refine jt_iload d_EX_putBody_69 rfl ?_
        refine cm_ld0 (k := 13) (n := 3) (v := (B 13) v109) d_EX_putBody_71 (by decide) rfl rfl (by omega) (by omega) (by omega) rfl ?_
        refine jt_topi (fun v115 ev115 => ?_)
        have bv115 : 0 ≤ v115 ∧ v115 ≤ 300 := by rw [ev115]; exact hJ.2.1 13 v109
        refine cct_callV (Y := Y_TR_addAll) (ci := 0) (k := 8) (As := [.ref (b + 39), .int (jI v114), .int (jI v115)]) (rest := []) d_EX_putBody_72 EX_c80 yk_TR_addAll yv_TR_addAll rfl (Nat.le_of_ble_eq_true rfl) (by decide) (cc_1 rfl) rfl rfl (Nat.le_of_ble_eq_true rfl) (v_TR_addAll_8_39 G _ b v114 v115 J B hJ.1 hJ.2.1 (by omega) (by omega)) (fun rvq116 Iq116 Aq116 hq116 => ?_)
        obtain ⟨rfl, hqq116, hxq116⟩ := hq116
        have hpq116 := cPo.trans hJ hqq116 rfl rfl
        have m39_3q116 : Iq116 39 3 = J 39 3 := hqq116.2.2.1 39 3 rfl
        have m5_5q116 : Iq116 5 5 = J 5 5 := hqq116.2.2.1 5 5 rfl
        show jt _ 75 [(0, .ref (b + 5)), (1, .ref (b + 39)), (2, .ref (b + 22)), (3, .int (jI q)), (4, .int (jI e)), (5, .int (jI i)), (6, .int (jI v109))] [] (cmf b f0 Iq116 Aq116) _ _ _
        refine jt_goto (t := 96) d_EX_putBody_75 rfl ?_
        refine jt_iinc (L' := [(0, .ref (b + 5)), (1, .ref (b + 39)), (2, .ref (b + 22)), (3, .int (jI q)), (4, .int (jI e)), (5, .int (jI (i + 1))), (6, .int (jI v109))]) d_EX_putBody_96 rfl (Nat.le_of_ble_eq_true rfl) rfl ?_
        refine jt_goto (t := 24) d_EX_putBody_99 rfl ?_
        refine jt_sub (L' := [(0, .ref (b + 5)), (1, .ref (b + 39)), (2, .ref (b + 22)), (3, .int (jI q)), (4, .int (jI e)), (5, .int (jI (i + 1)))]) (fun _ h => List.mem_append_left [(6, Value.int (jI v109))] h) ?_
        exact ih (i + 1) Iq116 Aq116 hpq116 (by omega) (hxq116 hKJ) (by omega)
set_option maxRecDepth 100000 in
set_option maxHeartbeats 4000000 in
theorem v_EX_putBody_22 (G : jG) (d b : Nat) (q : Int) (I : Nat → Nat → Int) (A : Nat → Int → Int) (hI : cSI I) (hA : cSA A) (hK : cTok A) (hq : 0 ≤ q ∧ q ≤ 301) (ha : I 5 5 < 300) : cct G Y_EX_putBody (d + 2) b [.ref (b + 5), .ref (b + 39), .ref (b + 22), .int (jI q)] I A (fun (rv : Option Value) (I2 : Nat → Nat → Int) (A2 : Nat → Int → Int) => rv = none ∧ cPo [131, 627] [9, 10, 11, 40, 41, 42] I A I2 A2 ∧ cTok A2) := by
  refine cct_of (by decide) (Nat.le_of_ble_eq_true rfl) (fun f0 sz => ?_)
  show jt _ 0 [(0, .ref (b + 5)), (1, .ref (b + 39)), (2, .ref (b + 22)), (3, .int (jI q))] [] _ _ _ _
  have r55 : 0 ≤ I 5 5 ∧ I 5 5 ≤ 300 := hI 5 5
  have hz0 : cPo [131, 627] [9, 10, 11, 40, 41, 42] I A I A := cPo.refl hI hA
  refine jt_aload_n d_EX_putBody_0 rfl ?_
  refine cm_get (k := 39) (v := .ref (b + 42)) d_EX_putBody_1 EX_f58 (by decide) (cc_1 rfl) rfl ?_
  refine jt_aload_n d_EX_putBody_4 rfl ?_
  refine cm_get (k := 5) (v := .int (jI (I 5 5))) d_EX_putBody_5 EX_f42 (by decide) cc_2 rfl ?_
  have rb1 : 0 ≤ I 5 5 ∧ I 5 5 ≤ 300 := hz0.1 5 5
  refine cm_ld0 (k := 42) (n := 300) (v := (A 42) (I 5 5)) d_EX_putBody_8 (by decide) rfl rfl (by omega) (by omega) (by omega) rfl ?_
  refine jt_topi (fun v2 ev2 => ?_)
  have bv2 : -2147483648 ≤ v2 ∧ v2 ≤ 2147483647 := by rw [ev2]; exact hz0.2.1 42 (I 5 5)
  refine jt_iconst d_EX_putBody_9 ?_
  refine jt_iadd d_EX_putBody_10 ?_
  refine jt_topiw (fun v3 bv3 => ?_)
  refine jt_istore (L' := [(0, .ref (b + 5)), (1, .ref (b + 39)), (2, .ref (b + 22)), (3, .int (jI q)), (4, .int (jI v3))]) d_EX_putBody_11 (Nat.le_of_ble_eq_true rfl) rfl ?_
  refine jt_aload_n d_EX_putBody_13 rfl ?_
  refine cm_get (k := 5) (v := .ref (b + 8)) d_EX_putBody_14 EX_f24 (by decide) cc_2 rfl ?_
  refine jt_iconst d_EX_putBody_17 ?_
  refine cm_put (k := 8) (j := 3) (v := 0) d_EX_putBody_18 (EX_w38 _ rfl) (by decide) (cc_1 rfl) rfl rfl (Nat.le_of_ble_eq_true rfl) rfl ?_
  have p4 := cPo.I 8 3 0 hz0 rfl (show 0 ≤ 0 ∧ 0 ≤ 300 by omega)
  refine jt_iconst d_EX_putBody_21 ?_
  refine jt_istore (L' := [(0, .ref (b + 5)), (1, .ref (b + 39)), (2, .ref (b + 22)), (3, .int (jI q)), (4, .int (jI v3)), (5, .int (jI 0))]) d_EX_putBody_22 (Nat.le_of_ble_eq_true rfl) rfl ?_
  exact l24_EX_putBody_22v G d b q I A hI hA hK hq ha f0 sz v3 ((by omega)) 41 0 (cu I 8 3 0) A p4 (by omega) hK (by omega)
set_option maxRecDepth 100000 in
set_option maxHeartbeats 4000000 in
theorem l16_EX_lengthAfter_26v (G : jG) (d b : Nat) (q : Int) (I : Nat → Nat → Int) (A : Nat → Int → Int) (hI : cSI I) (hA : cSA A) (hK : cTok A) (hq : 0 ≤ q ∧ q ≤ 301) (f0 : jF) (sz : Nat)  : ∀ (n9 : Nat) (l : Int) (i : Int) (J : Nat → Nat → Int) (B : Nat → Int → Int), cPo [] [] I A J B → (0 ≤ i ∧ i ≤ 40) → (-700 - 300 * i ≤ l ∧ l ≤ 700 + 300 * i) → 40 - i < (n9 : Int) → jt (jm G Y_EX_lengthAfter (gR d) (cQ b f0 sz (fun (rv : Option Value) (I2 : Nat → Nat → Int) (A2 : Nat → Int → Int) => ∃ y : Int, rv = some (.int (jI y)) ∧ (-2147483648 ≤ y ∧ y ≤ 2147483647) ∧ cPo [] [] I A I2 A2))) 16 [(0, .ref (b + 5)), (1, .ref (b + 39)), (2, .ref (b + 26)), (3, .int (jI q)), (4, .int (jI l)), (5, .int (jI i))] [] (cmf b f0 J B) sz 0 0 := by
  intro n9
  induction n9 with
  | zero =>
    intro l i J B hJ i0 l0 hmeas
    have tk : gtok (B 27 i) (B 28 i) := (cTok_of hJ hK rfl) 26 rfl i
    unfold gtok at tk
    exfalso
    omega
  | succ n9 ih =>
    intro l i J B hJ i0 l0 hmeas
    have tk : gtok (B 27 i) (B 28 i) := (cTok_of hJ hK rfl) 26 rfl i
    unfold gtok at tk
    refine jt_iload d_EX_lengthAfter_16 rfl ?_
    refine jt_aload_n d_EX_lengthAfter_18 rfl ?_
    refine cm_get (k := 26) (v := .int (jI (J 26 3))) d_EX_lengthAfter_19 EX_f38 (by decide) (cc_1 rfl) rfl ?_
    have rb101 : 0 ≤ J 26 3 ∧ J 26 3 ≤ 40 := hJ.1 26 3
    refine jt_icmp_ge (t := 75) d_EX_lengthAfter_22 rfl (by unfold jRi; omega) (by unfold jRi; omega) (fun c102 => ?_) (fun c102 => ?_)
    · skip
      refine jt_iload d_EX_lengthAfter_75 rfl ?_
      exact cm_ret d_EX_lengthAfter_77 rfl rfl (⟨l, rfl, by omega, hJ⟩)
    · skip
      refine jt_aload_n d_EX_lengthAfter_25 rfl ?_
      refine cm_get (k := 26) (v := .ref (b + 28)) d_EX_lengthAfter_26 EX_f55 (by decide) (cc_1 rfl) rfl ?_
      refine jt_iload d_EX_lengthAfter_29 rfl ?_
      refine cm_ld0 (k := 28) (n := 40) (v := (B 28) i) d_EX_lengthAfter_31 (by decide) rfl rfl (by omega) (by omega) (by omega) rfl ?_
      refine jt_topi (fun v103 ev103 => ?_)
      have bv103 : -2147483648 ≤ v103 ∧ v103 ≤ 2147483647 := by rw [ev103]; exact hJ.2.1 28 i
      refine jt_istore (L' := [(0, .ref (b + 5)), (1, .ref (b + 39)), (2, .ref (b + 26)), (3, .int (jI q)), (4, .int (jI l)), (5, .int (jI i)), (6, .int (jI v103))]) d_EX_lengthAfter_32 (Nat.le_of_ble_eq_true rfl) rfl ?_
      refine jt_iload d_EX_lengthAfter_34 rfl ?_
      refine jt_aload_n d_EX_lengthAfter_36 rfl ?_
      refine cm_get (k := 26) (v := .ref (b + 27)) d_EX_lengthAfter_37 EX_f48 (by decide) (cc_1 rfl) rfl ?_
      refine jt_iload d_EX_lengthAfter_40 rfl ?_
      refine cm_ld0 (k := 27) (n := 40) (v := (B 27) i) d_EX_lengthAfter_42 (by decide) rfl rfl (by omega) (by omega) (by omega) rfl ?_
      refine jt_topi (fun v104 ev104 => ?_)
      have bv104 : -2147483648 ≤ v104 ∧ v104 ≤ 2147483647 := by rw [ev104]; exact hJ.2.1 27 i
      refine jt_iconst d_EX_lengthAfter_43 ?_
      refine jt_icmp_ne (t := 65) d_EX_lengthAfter_44 rfl (by unfold jRi; omega) (by unfold jRi; omega) (fun c105 => ?_) (fun c105 => ?_)
      · skip
        refine jt_iconst d_EX_lengthAfter_65 ?_
        refine jt_iadd d_EX_lengthAfter_66 ?_
        refine jt_topi (fun v106 ev106 => ?_)
        refine jt_istore (L' := [(0, .ref (b + 5)), (1, .ref (b + 39)), (2, .ref (b + 26)), (3, .int (jI q)), (4, .int (jI v106)), (5, .int (jI i)), (6, .int (jI v103))]) d_EX_lengthAfter_67 (Nat.le_of_ble_eq_true rfl) rfl ?_
        refine jt_iinc (L' := [(0, .ref (b + 5)), (1, .ref (b + 39)), (2, .ref (b + 26)), (3, .int (jI q)), (4, .int (jI v106)), (5, .int (jI (i + 1))), (6, .int (jI v103))]) d_EX_lengthAfter_69 rfl (Nat.le_of_ble_eq_true rfl) rfl ?_
        refine jt_goto (t := 16) d_EX_lengthAfter_72 rfl ?_
        refine jt_sub (L' := [(0, .ref (b + 5)), (1, .ref (b + 39)), (2, .ref (b + 26)), (3, .int (jI q)), (4, .int (jI v106)), (5, .int (jI (i + 1)))]) (fun _ h => List.mem_append_left [(6, Value.int (jI v103))] h) ?_
        exact ih v106 (i + 1) J B hJ (by omega) (by omega) (by omega)
      · skip
        refine jt_aload_n d_EX_lengthAfter_47 rfl ?_
        refine cm_get (k := 5) (v := .ref (b + 13)) d_EX_lengthAfter_48 EX_f31 (by decide) cc_2 rfl ?_
        refine jt_iload d_EX_lengthAfter_51 rfl ?_
        refine cm_ld0 (k := 13) (n := 3) (v := (B 13) v103) d_EX_lengthAfter_53 (by decide) rfl rfl (by omega) (by omega) (by omega) rfl ?_
        refine jt_topi (fun v107 ev107 => ?_)
        have bv107 : 0 ≤ v107 ∧ v107 ≤ 300 := by rw [ev107]; exact hJ.2.1 13 v103
        refine jt_aload_n d_EX_lengthAfter_54 rfl ?_
        refine cm_get (k := 5) (v := .ref (b + 12)) d_EX_lengthAfter_55 EX_f28 (by decide) cc_2 rfl ?_
        refine jt_iload d_EX_lengthAfter_58 rfl ?_
        refine cm_ld0 (k := 12) (n := 3) (v := (B 12) v103) d_EX_lengthAfter_60 (by decide) rfl rfl (by omega) (by omega) (by omega) rfl ?_
        refine jt_topi (fun v108 ev108 => ?_)
        have bv108 : 0 ≤ v108 ∧ v108 ≤ 300 := by rw [ev108]; exact hJ.2.1 12 v103
        refine jt_isub d_EX_lengthAfter_61 ?_
        refine jt_goto (t := 66) d_EX_lengthAfter_62 rfl ?_
        refine jt_iadd d_EX_lengthAfter_66 ?_
        refine jt_topi (fun v109 ev109 => ?_)
        refine jt_istore (L' := [(0, .ref (b + 5)), (1, .ref (b + 39)), (2, .ref (b + 26)), (3, .int (jI q)), (4, .int (jI v109)), (5, .int (jI i)), (6, .int (jI v103))]) d_EX_lengthAfter_67 (Nat.le_of_ble_eq_true rfl) rfl ?_
        refine jt_iinc (L' := [(0, .ref (b + 5)), (1, .ref (b + 39)), (2, .ref (b + 26)), (3, .int (jI q)), (4, .int (jI v109)), (5, .int (jI (i + 1))), (6, .int (jI v103))]) d_EX_lengthAfter_69 rfl (Nat.le_of_ble_eq_true rfl) rfl ?_
        refine jt_goto (t := 16) d_EX_lengthAfter_72 rfl ?_
        refine jt_sub (L' := [(0, .ref (b + 5)), (1, .ref (b + 39)), (2, .ref (b + 26)), (3, .int (jI q)), (4, .int (jI v109)), (5, .int (jI (i + 1)))]) (fun _ h => List.mem_append_left [(6, Value.int (jI v103))] h) ?_
        exact ih v109 (i + 1) J B hJ (by omega) (by omega) (by omega)
set_option maxRecDepth 100000 in
set_option maxHeartbeats 4000000 in
theorem v_EX_lengthAfter_26 (G : jG) (d b : Nat) (q : Int) (I : Nat → Nat → Int) (A : Nat → Int → Int) (hI : cSI I) (hA : cSA A) (hK : cTok A) (hq : 0 ≤ q ∧ q ≤ 301) : cct G Y_EX_lengthAfter d b [.ref (b + 5), .ref (b + 39), .ref (b + 26), .int (jI q)] I A (fun (rv : Option Value) (I2 : Nat → Nat → Int) (A2 : Nat → Int → Int) => ∃ y : Int, rv = some (.int (jI y)) ∧ (-2147483648 ≤ y ∧ y ≤ 2147483647) ∧ cPo [] [] I A I2 A2) := by
  refine cct_of (by decide) (Nat.le_of_ble_eq_true rfl) (fun f0 sz => ?_)
  show jt _ 0 [(0, .ref (b + 5)), (1, .ref (b + 39)), (2, .ref (b + 26)), (3, .int (jI q))] [] _ _ _ _
  have hz0 : cPo [] [] I A I A := cPo.refl hI hA
  refine jt_aload_n d_EX_lengthAfter_0 rfl ?_
  refine cm_get (k := 5) (v := .int (jI (I 5 5))) d_EX_lengthAfter_1 EX_f42 (by decide) cc_2 rfl ?_
  have rb1 : 0 ≤ I 5 5 ∧ I 5 5 ≤ 300 := hz0.1 5 5
  refine jt_aload_n d_EX_lengthAfter_4 rfl ?_
  refine cm_get (k := 39) (v := .int (jI (I 39 3))) d_EX_lengthAfter_5 EX_f38 (by decide) (cc_1 rfl) rfl ?_
  have rb2 : 0 ≤ I 39 3 ∧ I 39 3 ≤ 300 := hz0.1 39 3
  refine jt_iadd d_EX_lengthAfter_8 ?_
  refine jt_iload_n d_EX_lengthAfter_9 rfl ?_
  refine jt_isub d_EX_lengthAfter_10 ?_
  refine jt_topi (fun v3 ev3 => ?_)
  refine jt_istore (L' := [(0, .ref (b + 5)), (1, .ref (b + 39)), (2, .ref (b + 26)), (3, .int (jI q)), (4, .int (jI v3))]) d_EX_lengthAfter_11 (Nat.le_of_ble_eq_true rfl) rfl ?_
  refine jt_iconst d_EX_lengthAfter_13 ?_
  refine jt_istore (L' := [(0, .ref (b + 5)), (1, .ref (b + 39)), (2, .ref (b + 26)), (3, .int (jI q)), (4, .int (jI v3)), (5, .int (jI 0))]) d_EX_lengthAfter_14 (Nat.le_of_ble_eq_true rfl) rfl ?_
  exact l16_EX_lengthAfter_26v G d b q I A hI hA hK hq f0 sz  41 v3 0 I A hz0 (by omega) (by omega) (by omega)
set_option maxRecDepth 100000 in
set_option maxHeartbeats 4000000 in
theorem l24_EX_putBody_26v (G : jG) (d b : Nat) (q : Int) (I : Nat → Nat → Int) (A : Nat → Int → Int) (hI : cSI I) (hA : cSA A) (hK : cTok A) (hq : 0 ≤ q ∧ q ≤ 301) (ha : I 5 5 < 300) (f0 : jF) (sz : Nat) (e : Int) (e0 : -2147483648 ≤ e ∧ e ≤ 2147483647) : ∀ (n9 : Nat) (i : Int) (J : Nat → Nat → Int) (B : Nat → Int → Int), cPo [131, 627] [9, 10, 11, 40, 41, 42] I A J B → (0 ≤ i ∧ i ≤ 40) → (cTok B) → 40 - i < (n9 : Int) → jt (jm G Y_EX_putBody (gR (d + 2)) (cQ b f0 sz (fun (rv : Option Value) (I2 : Nat → Nat → Int) (A2 : Nat → Int → Int) => rv = none ∧ cPo [131, 627] [9, 10, 11, 40, 41, 42] I A I2 A2 ∧ cTok A2))) 24 [(0, .ref (b + 5)), (1, .ref (b + 39)), (2, .ref (b + 26)), (3, .int (jI q)), (4, .int (jI e)), (5, .int (jI i))] [] (cmf b f0 J B) sz 0 0 := by
  have r55 : 0 ≤ I 5 5 ∧ I 5 5 ≤ 300 := hI 5 5
  intro n9
  induction n9 with
  | zero =>
    intro i J B hJ i0 hKJ hmeas
    have tk : gtok (B 27 i) (B 28 i) := hKJ 26 rfl i
    have tk2 := tk
    unfold gtok at tk
    have f55 : J 5 5 = I 5 5 := hJ.2.2.1 5 5 rfl
    exfalso
    omega
  | succ n9 ih =>
    intro i J B hJ i0 hKJ hmeas
    have tk : gtok (B 27 i) (B 28 i) := hKJ 26 rfl i
    have tk2 := tk
    unfold gtok at tk
    have f55 : J 5 5 = I 5 5 := hJ.2.2.1 5 5 rfl
    refine jt_iload d_EX_putBody_24 rfl ?_
    refine jt_aload_n d_EX_putBody_26 rfl ?_
    refine cm_get (k := 26) (v := .int (jI (J 26 3))) d_EX_putBody_27 EX_f38 (by decide) (cc_1 rfl) rfl ?_
    have rb101 : 0 ≤ J 26 3 ∧ J 26 3 ≤ 40 := hJ.1 26 3
    refine jt_icmp_ge (t := 102) d_EX_putBody_30 rfl (by unfold jRi; omega) (by unfold jRi; omega) (fun c102 => ?_) (fun c102 => ?_)
    · skip
      refine jt_aload_n d_EX_putBody_102 rfl ?_
      refine cm_get (k := 5) (v := .ref (b + 8)) d_EX_putBody_103 EX_f24 (by decide) cc_2 rfl ?_
      refine jt_aload_n d_EX_putBody_106 rfl ?_
      refine jt_iload_n d_EX_putBody_107 rfl ?_
      refine jt_aload_n d_EX_putBody_108 rfl ?_
      refine cm_get (k := 39) (v := .int (jI (J 39 3))) d_EX_putBody_109 EX_f38 (by decide) (cc_1 rfl) rfl ?_
      have rb103 : 0 ≤ J 39 3 ∧ J 39 3 ≤ 300 := hJ.1 39 3
      refine cct_callV (Y := Y_TR_addAll) (ci := 0) (k := 8) (As := [.ref (b + 39), .int (jI q), .int (jI (J 39 3))]) (rest := []) d_EX_putBody_112 EX_c80 yk_TR_addAll yv_TR_addAll rfl (Nat.le_of_ble_eq_true rfl) (by decide) (cc_1 rfl) rfl rfl (Nat.le_of_ble_eq_true rfl) (v_TR_addAll_8_39 G _ b q (J 39 3) J B hJ.1 hJ.2.1 (by omega) (by omega)) (fun rvq104 Iq104 Aq104 hq104 => ?_)
      obtain ⟨rfl, hqq104, hxq104⟩ := hq104
      have hpq104 := cPo.trans hJ hqq104 rfl rfl
      have m39_3q104 : Iq104 39 3 = J 39 3 := hqq104.2.2.1 39 3 rfl
      have m5_5q104 : Iq104 5 5 = J 5 5 := hqq104.2.2.1 5 5 rfl
      show jt _ 115 [(0, .ref (b + 5)), (1, .ref (b + 39)), (2, .ref (b + 26)), (3, .int (jI q)), (4, .int (jI e)), (5, .int (jI i))] [] (cmf b f0 Iq104 Aq104) _ _ _
      refine jt_aload_n d_EX_putBody_115 rfl ?_
      refine jt_aload_n d_EX_putBody_116 rfl ?_
      refine cm_get (k := 5) (v := .int (jI (Iq104 5 5))) d_EX_putBody_117 EX_f42 (by decide) cc_2 rfl ?_
      have rb105 : 0 ≤ Iq104 5 5 ∧ Iq104 5 5 ≤ 300 := hpq104.1 5 5
      refine cm_put (k := 39) (j := 3) (v := (Iq104 5 5)) d_EX_putBody_120 (EX_w38 _ rfl) (by decide) (cc_1 rfl) rfl rfl (Nat.le_of_ble_eq_true rfl) rfl ?_
      have p106 := cPo.I 39 3 (Iq104 5 5) hpq104 rfl (show 0 ≤ Iq104 5 5 ∧ Iq104 5 5 ≤ 300 by omega)
      refine jt_aload_n d_EX_putBody_123 rfl ?_
      refine jt_aload_n d_EX_putBody_124 rfl ?_
      refine cm_get (k := 5) (v := .ref (b + 8)) d_EX_putBody_125 EX_f24 (by decide) cc_2 rfl ?_
      refine jt_iconst d_EX_putBody_128 ?_
      refine jt_aload_n d_EX_putBody_129 rfl ?_
      refine cm_get (k := 5) (v := .ref (b + 8)) d_EX_putBody_130 EX_f24 (by decide) cc_2 rfl ?_
      refine cm_get (k := 8) (v := .int (jI (Iq104 8 3))) d_EX_putBody_133 EX_f38 (by decide) (cc_1 rfl) rfl ?_
      have rb107 : 0 ≤ Iq104 8 3 ∧ Iq104 8 3 ≤ 300 := p106.1 8 3
      refine cct_callV (Y := Y_TR_addAll) (ci := 0) (k := 39) (As := [.ref (b + 8), .int (jI 0), .int (jI (Iq104 8 3))]) (rest := []) d_EX_putBody_136 EX_c80 yk_TR_addAll yv_TR_addAll rfl (Nat.le_of_ble_eq_true rfl) (by decide) (cc_1 rfl) rfl rfl (Nat.le_of_ble_eq_true rfl) (v_TR_addAll_39_8 G _ b 0 (Iq104 8 3) (cu Iq104 39 3 (Iq104 5 5)) Aq104 p106.1 p106.2.1 (by omega) (by omega)) (fun rvq108 Iq108 Aq108 hq108 => ?_)
      obtain ⟨rfl, hqq108, hxq108⟩ := hq108
      have hpq108 := cPo.trans p106 hqq108 rfl rfl
      have m5_5q108 : Iq108 5 5 = Iq104 5 5 := hqq108.2.2.1 5 5 rfl
      have m8_3q108 : Iq108 8 3 = Iq104 8 3 := hqq108.2.2.1 8 3 rfl
      show jt _ 139 [(0, .ref (b + 5)), (1, .ref (b + 39)), (2, .ref (b + 26)), (3, .int (jI q)), (4, .int (jI e)), (5, .int (jI i))] [] (cmf b f0 Iq108 Aq108) _ _ _
      exact cm_vret d_EX_putBody_139 rfl (⟨rfl, hpq108, (hxq108 (hxq104 hKJ))⟩)
    · skip
      refine jt_aload_n d_EX_putBody_33 rfl ?_
      refine cm_get (k := 26) (v := .ref (b + 28)) d_EX_putBody_34 EX_f55 (by decide) (cc_1 rfl) rfl ?_
      refine jt_iload d_EX_putBody_37 rfl ?_
      refine cm_ld0 (k := 28) (n := 40) (v := (B 28) i) d_EX_putBody_39 (by decide) rfl rfl (by omega) (by omega) (by omega) rfl ?_
      refine jt_topi (fun v109 ev109 => ?_)
      have bv109 : -2147483648 ≤ v109 ∧ v109 ≤ 2147483647 := by rw [ev109]; exact hJ.2.1 28 i
      refine jt_istore (L' := [(0, .ref (b + 5)), (1, .ref (b + 39)), (2, .ref (b + 26)), (3, .int (jI q)), (4, .int (jI e)), (5, .int (jI i)), (6, .int (jI v109))]) d_EX_putBody_40 (Nat.le_of_ble_eq_true rfl) rfl ?_
      refine jt_aload_n d_EX_putBody_42 rfl ?_
      refine cm_get (k := 26) (v := .ref (b + 27)) d_EX_putBody_43 EX_f48 (by decide) (cc_1 rfl) rfl ?_
      refine jt_iload d_EX_putBody_46 rfl ?_
      refine cm_ld0 (k := 27) (n := 40) (v := (B 27) i) d_EX_putBody_48 (by decide) rfl rfl (by omega) (by omega) (by omega) rfl ?_
      refine jt_topi (fun v110 ev110 => ?_)
      have bv110 : -2147483648 ≤ v110 ∧ v110 ≤ 2147483647 := by rw [ev110]; exact hJ.2.1 27 i
      refine jt_iconst d_EX_putBody_49 ?_
      refine jt_icmp_ne (t := 78) d_EX_putBody_50 rfl (by unfold jRi; omega) (by unfold jRi; omega) (fun c111 => ?_) (fun c111 => ?_)
      · skip
        refine jt_aload_n d_EX_putBody_78 rfl ?_
        refine cm_get (k := 5) (v := .ref (b + 8)) d_EX_putBody_79 EX_f24 (by decide) cc_2 rfl ?_
        refine jt_aload_n d_EX_putBody_82 rfl ?_
        refine cm_get (k := 26) (v := .ref (b + 27)) d_EX_putBody_83 EX_f48 (by decide) (cc_1 rfl) rfl ?_
        refine jt_iload d_EX_putBody_86 rfl ?_
        refine cm_ld0 (k := 27) (n := 40) (v := (B 27) i) d_EX_putBody_88 (by decide) rfl rfl (by omega) (by omega) (by omega) rfl ?_
        refine jt_topi (fun v112 ev112 => ?_)
        have bv112 : -2147483648 ≤ v112 ∧ v112 ≤ 2147483647 := by rw [ev112]; exact hJ.2.1 27 i
        refine jt_iload d_EX_putBody_89 rfl ?_
        refine jt_iload d_EX_putBody_91 rfl ?_
        refine cct_callV (Y := Y_TR_add) (ci := 0) (k := 8) (As := [.int (jI v112), .int (jI v109), .int (jI e)]) (rest := []) d_EX_putBody_93 EX_c84 yk_TR_add yv_TR_add rfl (Nat.le_of_ble_eq_true rfl) (by decide) (cc_1 rfl) rfl rfl (Nat.le_of_ble_eq_true rfl) (v_TR_add_8 G _ b v112 v109 e J B hJ.1 hJ.2.1 (by omega) (by omega) (by omega)) (fun rvq113 Iq113 Aq113 hq113 => ?_)
        obtain ⟨rfl, hqq113, hxq113⟩ := hq113
        have hpq113 := cPo.trans hJ hqq113 rfl rfl
        have m39_3q113 : Iq113 39 3 = J 39 3 := hqq113.2.2.1 39 3 rfl
        have m5_5q113 : Iq113 5 5 = J 5 5 := hqq113.2.2.1 5 5 rfl
        show jt _ 96 [(0, .ref (b + 5)), (1, .ref (b + 39)), (2, .ref (b + 26)), (3, .int (jI q)), (4, .int (jI e)), (5, .int (jI i)), (6, .int (jI v109))] [] (cmf b f0 Iq113 Aq113) _ _ _
        refine jt_iinc (L' := [(0, .ref (b + 5)), (1, .ref (b + 39)), (2, .ref (b + 26)), (3, .int (jI q)), (4, .int (jI e)), (5, .int (jI (i + 1))), (6, .int (jI v109))]) d_EX_putBody_96 rfl (Nat.le_of_ble_eq_true rfl) rfl ?_
        refine jt_goto (t := 24) d_EX_putBody_99 rfl ?_
        refine jt_sub (L' := [(0, .ref (b + 5)), (1, .ref (b + 39)), (2, .ref (b + 26)), (3, .int (jI q)), (4, .int (jI e)), (5, .int (jI (i + 1)))]) (fun _ h => List.mem_append_left [(6, Value.int (jI v109))] h) ?_
        exact ih (i + 1) Iq113 Aq113 hpq113 (by omega) (hxq113.1 hKJ (by rw [ev112, ev109]; exact tk2)) (by omega)
      · skip
        refine jt_aload_n d_EX_putBody_53 rfl ?_
        refine cm_get (k := 5) (v := .ref (b + 8)) d_EX_putBody_54 EX_f24 (by decide) cc_2 rfl ?_
        refine jt_aload_n d_EX_putBody_57 rfl ?_
        refine jt_aload_n d_EX_putBody_58 rfl ?_
        refine cm_get (k := 5) (v := .ref (b + 12)) d_EX_putBody_59 EX_f28 (by decide) cc_2 rfl ?_
        refine jt_iload d_EX_putBody_62 rfl ?_
        refine cm_ld0 (k := 12) (n := 3) (v := (B 12) v109) d_EX_putBody_64 (by decide) rfl rfl (by omega) (by omega) (by omega) rfl ?_
        refine jt_topi (fun v114 ev114 => ?_)
        have bv114 : 0 ≤ v114 ∧ v114 ≤ 300 := by rw [ev114]; exact hJ.2.1 12 v109
        refine jt_aload_n d_EX_putBody_65 rfl ?_
        refine cm_get (k := 5) (v := .ref (b + 13)) d_EX_putBody_66 EX_f31 (by decide) cc_2 rfl ?_
        refine jt_iload d_EX_putBody_69 rfl ?_
        refine cm_ld0 (k := 13) (n := 3) (v := (B 13) v109) d_EX_putBody_71 (by decide) rfl rfl (by omega) (by omega) (by omega) rfl ?_
        refine jt_topi (fun v115 ev115 => ?_)
        have bv115 : 0 ≤ v115 ∧ v115 ≤ 300 := by rw [ev115]; exact hJ.2.1 13 v109
        refine cct_callV (Y := Y_TR_addAll) (ci := 0) (k := 8) (As := [.ref (b + 39), .int (jI v114), .int (jI v115)]) (rest := []) d_EX_putBody_72 EX_c80 yk_TR_addAll yv_TR_addAll rfl (Nat.le_of_ble_eq_true rfl) (by decide) (cc_1 rfl) rfl rfl (Nat.le_of_ble_eq_true rfl) (v_TR_addAll_8_39 G _ b v114 v115 J B hJ.1 hJ.2.1 (by omega) (by omega)) (fun rvq116 Iq116 Aq116 hq116 => ?_)
        obtain ⟨rfl, hqq116, hxq116⟩ := hq116
        have hpq116 := cPo.trans hJ hqq116 rfl rfl
        have m39_3q116 : Iq116 39 3 = J 39 3 := hqq116.2.2.1 39 3 rfl
        have m5_5q116 : Iq116 5 5 = J 5 5 := hqq116.2.2.1 5 5 rfl
        show jt _ 75 [(0, .ref (b + 5)), (1, .ref (b + 39)), (2, .ref (b + 26)), (3, .int (jI q)), (4, .int (jI e)), (5, .int (jI i)), (6, .int (jI v109))] [] (cmf b f0 Iq116 Aq116) _ _ _
        refine jt_goto (t := 96) d_EX_putBody_75 rfl ?_
        refine jt_iinc (L' := [(0, .ref (b + 5)), (1, .ref (b + 39)), (2, .ref (b + 26)), (3, .int (jI q)), (4, .int (jI e)), (5, .int (jI (i + 1))), (6, .int (jI v109))]) d_EX_putBody_96 rfl (Nat.le_of_ble_eq_true rfl) rfl ?_
        refine jt_goto (t := 24) d_EX_putBody_99 rfl ?_
        refine jt_sub (L' := [(0, .ref (b + 5)), (1, .ref (b + 39)), (2, .ref (b + 26)), (3, .int (jI q)), (4, .int (jI e)), (5, .int (jI (i + 1)))]) (fun _ h => List.mem_append_left [(6, Value.int (jI v109))] h) ?_
        exact ih (i + 1) Iq116 Aq116 hpq116 (by omega) (hxq116 hKJ) (by omega)
set_option maxRecDepth 100000 in
set_option maxHeartbeats 4000000 in
theorem v_EX_putBody_26 (G : jG) (d b : Nat) (q : Int) (I : Nat → Nat → Int) (A : Nat → Int → Int) (hI : cSI I) (hA : cSA A) (hK : cTok A) (hq : 0 ≤ q ∧ q ≤ 301) (ha : I 5 5 < 300) : cct G Y_EX_putBody (d + 2) b [.ref (b + 5), .ref (b + 39), .ref (b + 26), .int (jI q)] I A (fun (rv : Option Value) (I2 : Nat → Nat → Int) (A2 : Nat → Int → Int) => rv = none ∧ cPo [131, 627] [9, 10, 11, 40, 41, 42] I A I2 A2 ∧ cTok A2) := by
  refine cct_of (by decide) (Nat.le_of_ble_eq_true rfl) (fun f0 sz => ?_)
  show jt _ 0 [(0, .ref (b + 5)), (1, .ref (b + 39)), (2, .ref (b + 26)), (3, .int (jI q))] [] _ _ _ _
  have r55 : 0 ≤ I 5 5 ∧ I 5 5 ≤ 300 := hI 5 5
  have hz0 : cPo [131, 627] [9, 10, 11, 40, 41, 42] I A I A := cPo.refl hI hA
  refine jt_aload_n d_EX_putBody_0 rfl ?_
  refine cm_get (k := 39) (v := .ref (b + 42)) d_EX_putBody_1 EX_f58 (by decide) (cc_1 rfl) rfl ?_
  refine jt_aload_n d_EX_putBody_4 rfl ?_
  refine cm_get (k := 5) (v := .int (jI (I 5 5))) d_EX_putBody_5 EX_f42 (by decide) cc_2 rfl ?_
  have rb1 : 0 ≤ I 5 5 ∧ I 5 5 ≤ 300 := hz0.1 5 5
  refine cm_ld0 (k := 42) (n := 300) (v := (A 42) (I 5 5)) d_EX_putBody_8 (by decide) rfl rfl (by omega) (by omega) (by omega) rfl ?_
  refine jt_topi (fun v2 ev2 => ?_)
  have bv2 : -2147483648 ≤ v2 ∧ v2 ≤ 2147483647 := by rw [ev2]; exact hz0.2.1 42 (I 5 5)
  refine jt_iconst d_EX_putBody_9 ?_
  refine jt_iadd d_EX_putBody_10 ?_
  refine jt_topiw (fun v3 bv3 => ?_)
  refine jt_istore (L' := [(0, .ref (b + 5)), (1, .ref (b + 39)), (2, .ref (b + 26)), (3, .int (jI q)), (4, .int (jI v3))]) d_EX_putBody_11 (Nat.le_of_ble_eq_true rfl) rfl ?_
  refine jt_aload_n d_EX_putBody_13 rfl ?_
  refine cm_get (k := 5) (v := .ref (b + 8)) d_EX_putBody_14 EX_f24 (by decide) cc_2 rfl ?_
  refine jt_iconst d_EX_putBody_17 ?_
  refine cm_put (k := 8) (j := 3) (v := 0) d_EX_putBody_18 (EX_w38 _ rfl) (by decide) (cc_1 rfl) rfl rfl (Nat.le_of_ble_eq_true rfl) rfl ?_
  have p4 := cPo.I 8 3 0 hz0 rfl (show 0 ≤ 0 ∧ 0 ≤ 300 by omega)
  refine jt_iconst d_EX_putBody_21 ?_
  refine jt_istore (L' := [(0, .ref (b + 5)), (1, .ref (b + 39)), (2, .ref (b + 26)), (3, .int (jI q)), (4, .int (jI v3)), (5, .int (jI 0))]) d_EX_putBody_22 (Nat.le_of_ble_eq_true rfl) rfl ?_
  exact l24_EX_putBody_26v G d b q I A hI hA hK hq ha f0 sz v3 ((by omega)) 41 0 (cu I 8 3 0) A p4 (by omega) hK (by omega)
set_option maxRecDepth 100000 in
set_option maxHeartbeats 4000000 in
theorem l16_EX_lengthAfter_30v (G : jG) (d b : Nat) (q : Int) (I : Nat → Nat → Int) (A : Nat → Int → Int) (hI : cSI I) (hA : cSA A) (hK : cTok A) (hq : 0 ≤ q ∧ q ≤ 301) (f0 : jF) (sz : Nat)  : ∀ (n9 : Nat) (l : Int) (i : Int) (J : Nat → Nat → Int) (B : Nat → Int → Int), cPo [] [] I A J B → (0 ≤ i ∧ i ≤ 40) → (-700 - 300 * i ≤ l ∧ l ≤ 700 + 300 * i) → 40 - i < (n9 : Int) → jt (jm G Y_EX_lengthAfter (gR d) (cQ b f0 sz (fun (rv : Option Value) (I2 : Nat → Nat → Int) (A2 : Nat → Int → Int) => ∃ y : Int, rv = some (.int (jI y)) ∧ (-2147483648 ≤ y ∧ y ≤ 2147483647) ∧ cPo [] [] I A I2 A2))) 16 [(0, .ref (b + 5)), (1, .ref (b + 39)), (2, .ref (b + 30)), (3, .int (jI q)), (4, .int (jI l)), (5, .int (jI i))] [] (cmf b f0 J B) sz 0 0 := by
  intro n9
  induction n9 with
  | zero =>
    intro l i J B hJ i0 l0 hmeas
    have tk : gtok (B 31 i) (B 32 i) := (cTok_of hJ hK rfl) 30 rfl i
    unfold gtok at tk
    exfalso
    omega
  | succ n9 ih =>
    intro l i J B hJ i0 l0 hmeas
    have tk : gtok (B 31 i) (B 32 i) := (cTok_of hJ hK rfl) 30 rfl i
    unfold gtok at tk
    refine jt_iload d_EX_lengthAfter_16 rfl ?_
    refine jt_aload_n d_EX_lengthAfter_18 rfl ?_
    refine cm_get (k := 30) (v := .int (jI (J 30 3))) d_EX_lengthAfter_19 EX_f38 (by decide) (cc_1 rfl) rfl ?_
    have rb101 : 0 ≤ J 30 3 ∧ J 30 3 ≤ 40 := hJ.1 30 3
    refine jt_icmp_ge (t := 75) d_EX_lengthAfter_22 rfl (by unfold jRi; omega) (by unfold jRi; omega) (fun c102 => ?_) (fun c102 => ?_)
    · skip
      refine jt_iload d_EX_lengthAfter_75 rfl ?_
      exact cm_ret d_EX_lengthAfter_77 rfl rfl (⟨l, rfl, by omega, hJ⟩)
    · skip
      refine jt_aload_n d_EX_lengthAfter_25 rfl ?_
      refine cm_get (k := 30) (v := .ref (b + 32)) d_EX_lengthAfter_26 EX_f55 (by decide) (cc_1 rfl) rfl ?_
      refine jt_iload d_EX_lengthAfter_29 rfl ?_
      refine cm_ld0 (k := 32) (n := 40) (v := (B 32) i) d_EX_lengthAfter_31 (by decide) rfl rfl (by omega) (by omega) (by omega) rfl ?_
      refine jt_topi (fun v103 ev103 => ?_)
      have bv103 : -2147483648 ≤ v103 ∧ v103 ≤ 2147483647 := by rw [ev103]; exact hJ.2.1 32 i
      refine jt_istore (L' := [(0, .ref (b + 5)), (1, .ref (b + 39)), (2, .ref (b + 30)), (3, .int (jI q)), (4, .int (jI l)), (5, .int (jI i)), (6, .int (jI v103))]) d_EX_lengthAfter_32 (Nat.le_of_ble_eq_true rfl) rfl ?_
      refine jt_iload d_EX_lengthAfter_34 rfl ?_
      refine jt_aload_n d_EX_lengthAfter_36 rfl ?_
      refine cm_get (k := 30) (v := .ref (b + 31)) d_EX_lengthAfter_37 EX_f48 (by decide) (cc_1 rfl) rfl ?_
      refine jt_iload d_EX_lengthAfter_40 rfl ?_
      refine cm_ld0 (k := 31) (n := 40) (v := (B 31) i) d_EX_lengthAfter_42 (by decide) rfl rfl (by omega) (by omega) (by omega) rfl ?_
      refine jt_topi (fun v104 ev104 => ?_)
      have bv104 : -2147483648 ≤ v104 ∧ v104 ≤ 2147483647 := by rw [ev104]; exact hJ.2.1 31 i
      refine jt_iconst d_EX_lengthAfter_43 ?_
      refine jt_icmp_ne (t := 65) d_EX_lengthAfter_44 rfl (by unfold jRi; omega) (by unfold jRi; omega) (fun c105 => ?_) (fun c105 => ?_)
      · skip
        refine jt_iconst d_EX_lengthAfter_65 ?_
        refine jt_iadd d_EX_lengthAfter_66 ?_
        refine jt_topi (fun v106 ev106 => ?_)
        refine jt_istore (L' := [(0, .ref (b + 5)), (1, .ref (b + 39)), (2, .ref (b + 30)), (3, .int (jI q)), (4, .int (jI v106)), (5, .int (jI i)), (6, .int (jI v103))]) d_EX_lengthAfter_67 (Nat.le_of_ble_eq_true rfl) rfl ?_
        refine jt_iinc (L' := [(0, .ref (b + 5)), (1, .ref (b + 39)), (2, .ref (b + 30)), (3, .int (jI q)), (4, .int (jI v106)), (5, .int (jI (i + 1))), (6, .int (jI v103))]) d_EX_lengthAfter_69 rfl (Nat.le_of_ble_eq_true rfl) rfl ?_
        refine jt_goto (t := 16) d_EX_lengthAfter_72 rfl ?_
        refine jt_sub (L' := [(0, .ref (b + 5)), (1, .ref (b + 39)), (2, .ref (b + 30)), (3, .int (jI q)), (4, .int (jI v106)), (5, .int (jI (i + 1)))]) (fun _ h => List.mem_append_left [(6, Value.int (jI v103))] h) ?_
        exact ih v106 (i + 1) J B hJ (by omega) (by omega) (by omega)
      · skip
        refine jt_aload_n d_EX_lengthAfter_47 rfl ?_
        refine cm_get (k := 5) (v := .ref (b + 13)) d_EX_lengthAfter_48 EX_f31 (by decide) cc_2 rfl ?_
        refine jt_iload d_EX_lengthAfter_51 rfl ?_
        refine cm_ld0 (k := 13) (n := 3) (v := (B 13) v103) d_EX_lengthAfter_53 (by decide) rfl rfl (by omega) (by omega) (by omega) rfl ?_
        refine jt_topi (fun v107 ev107 => ?_)
        have bv107 : 0 ≤ v107 ∧ v107 ≤ 300 := by rw [ev107]; exact hJ.2.1 13 v103
        refine jt_aload_n d_EX_lengthAfter_54 rfl ?_
        refine cm_get (k := 5) (v := .ref (b + 12)) d_EX_lengthAfter_55 EX_f28 (by decide) cc_2 rfl ?_
        refine jt_iload d_EX_lengthAfter_58 rfl ?_
        refine cm_ld0 (k := 12) (n := 3) (v := (B 12) v103) d_EX_lengthAfter_60 (by decide) rfl rfl (by omega) (by omega) (by omega) rfl ?_
        refine jt_topi (fun v108 ev108 => ?_)
        have bv108 : 0 ≤ v108 ∧ v108 ≤ 300 := by rw [ev108]; exact hJ.2.1 12 v103
        refine jt_isub d_EX_lengthAfter_61 ?_
        refine jt_goto (t := 66) d_EX_lengthAfter_62 rfl ?_
        refine jt_iadd d_EX_lengthAfter_66 ?_
        refine jt_topi (fun v109 ev109 => ?_)
        refine jt_istore (L' := [(0, .ref (b + 5)), (1, .ref (b + 39)), (2, .ref (b + 30)), (3, .int (jI q)), (4, .int (jI v109)), (5, .int (jI i)), (6, .int (jI v103))]) d_EX_lengthAfter_67 (Nat.le_of_ble_eq_true rfl) rfl ?_
        refine jt_iinc (L' := [(0, .ref (b + 5)), (1, .ref (b + 39)), (2, .ref (b + 30)), (3, .int (jI q)), (4, .int (jI v109)), (5, .int (jI (i + 1))), (6, .int (jI v103))]) d_EX_lengthAfter_69 rfl (Nat.le_of_ble_eq_true rfl) rfl ?_
        refine jt_goto (t := 16) d_EX_lengthAfter_72 rfl ?_
        refine jt_sub (L' := [(0, .ref (b + 5)), (1, .ref (b + 39)), (2, .ref (b + 30)), (3, .int (jI q)), (4, .int (jI v109)), (5, .int (jI (i + 1)))]) (fun _ h => List.mem_append_left [(6, Value.int (jI v103))] h) ?_
        exact ih v109 (i + 1) J B hJ (by omega) (by omega) (by omega)
set_option maxRecDepth 100000 in
set_option maxHeartbeats 4000000 in
theorem v_EX_lengthAfter_30 (G : jG) (d b : Nat) (q : Int) (I : Nat → Nat → Int) (A : Nat → Int → Int) (hI : cSI I) (hA : cSA A) (hK : cTok A) (hq : 0 ≤ q ∧ q ≤ 301) : cct G Y_EX_lengthAfter d b [.ref (b + 5), .ref (b + 39), .ref (b + 30), .int (jI q)] I A (fun (rv : Option Value) (I2 : Nat → Nat → Int) (A2 : Nat → Int → Int) => ∃ y : Int, rv = some (.int (jI y)) ∧ (-2147483648 ≤ y ∧ y ≤ 2147483647) ∧ cPo [] [] I A I2 A2) := by
  refine cct_of (by decide) (Nat.le_of_ble_eq_true rfl) (fun f0 sz => ?_)
  show jt _ 0 [(0, .ref (b + 5)), (1, .ref (b + 39)), (2, .ref (b + 30)), (3, .int (jI q))] [] _ _ _ _
  have hz0 : cPo [] [] I A I A := cPo.refl hI hA
  refine jt_aload_n d_EX_lengthAfter_0 rfl ?_
  refine cm_get (k := 5) (v := .int (jI (I 5 5))) d_EX_lengthAfter_1 EX_f42 (by decide) cc_2 rfl ?_
  have rb1 : 0 ≤ I 5 5 ∧ I 5 5 ≤ 300 := hz0.1 5 5
  refine jt_aload_n d_EX_lengthAfter_4 rfl ?_
  refine cm_get (k := 39) (v := .int (jI (I 39 3))) d_EX_lengthAfter_5 EX_f38 (by decide) (cc_1 rfl) rfl ?_
  have rb2 : 0 ≤ I 39 3 ∧ I 39 3 ≤ 300 := hz0.1 39 3
  refine jt_iadd d_EX_lengthAfter_8 ?_
  refine jt_iload_n d_EX_lengthAfter_9 rfl ?_
  refine jt_isub d_EX_lengthAfter_10 ?_
  refine jt_topi (fun v3 ev3 => ?_)
  refine jt_istore (L' := [(0, .ref (b + 5)), (1, .ref (b + 39)), (2, .ref (b + 30)), (3, .int (jI q)), (4, .int (jI v3))]) d_EX_lengthAfter_11 (Nat.le_of_ble_eq_true rfl) rfl ?_
  refine jt_iconst d_EX_lengthAfter_13 ?_
  refine jt_istore (L' := [(0, .ref (b + 5)), (1, .ref (b + 39)), (2, .ref (b + 30)), (3, .int (jI q)), (4, .int (jI v3)), (5, .int (jI 0))]) d_EX_lengthAfter_14 (Nat.le_of_ble_eq_true rfl) rfl ?_
  exact l16_EX_lengthAfter_30v G d b q I A hI hA hK hq f0 sz  41 v3 0 I A hz0 (by omega) (by omega) (by omega)
set_option maxRecDepth 100000 in
set_option maxHeartbeats 4000000 in
theorem l24_EX_putBody_30v (G : jG) (d b : Nat) (q : Int) (I : Nat → Nat → Int) (A : Nat → Int → Int) (hI : cSI I) (hA : cSA A) (hK : cTok A) (hq : 0 ≤ q ∧ q ≤ 301) (ha : I 5 5 < 300) (f0 : jF) (sz : Nat) (e : Int) (e0 : -2147483648 ≤ e ∧ e ≤ 2147483647) : ∀ (n9 : Nat) (i : Int) (J : Nat → Nat → Int) (B : Nat → Int → Int), cPo [131, 627] [9, 10, 11, 40, 41, 42] I A J B → (0 ≤ i ∧ i ≤ 40) → (cTok B) → 40 - i < (n9 : Int) → jt (jm G Y_EX_putBody (gR (d + 2)) (cQ b f0 sz (fun (rv : Option Value) (I2 : Nat → Nat → Int) (A2 : Nat → Int → Int) => rv = none ∧ cPo [131, 627] [9, 10, 11, 40, 41, 42] I A I2 A2 ∧ cTok A2))) 24 [(0, .ref (b + 5)), (1, .ref (b + 39)), (2, .ref (b + 30)), (3, .int (jI q)), (4, .int (jI e)), (5, .int (jI i))] [] (cmf b f0 J B) sz 0 0 := by
  have r55 : 0 ≤ I 5 5 ∧ I 5 5 ≤ 300 := hI 5 5
  intro n9
  induction n9 with
  | zero =>
    intro i J B hJ i0 hKJ hmeas
    have tk : gtok (B 31 i) (B 32 i) := hKJ 30 rfl i
    have tk2 := tk
    unfold gtok at tk
    have f55 : J 5 5 = I 5 5 := hJ.2.2.1 5 5 rfl
    exfalso
    omega
  | succ n9 ih =>
    intro i J B hJ i0 hKJ hmeas
    have tk : gtok (B 31 i) (B 32 i) := hKJ 30 rfl i
    have tk2 := tk
    unfold gtok at tk
    have f55 : J 5 5 = I 5 5 := hJ.2.2.1 5 5 rfl
    refine jt_iload d_EX_putBody_24 rfl ?_
    refine jt_aload_n d_EX_putBody_26 rfl ?_
    refine cm_get (k := 30) (v := .int (jI (J 30 3))) d_EX_putBody_27 EX_f38 (by decide) (cc_1 rfl) rfl ?_
    have rb101 : 0 ≤ J 30 3 ∧ J 30 3 ≤ 40 := hJ.1 30 3
    refine jt_icmp_ge (t := 102) d_EX_putBody_30 rfl (by unfold jRi; omega) (by unfold jRi; omega) (fun c102 => ?_) (fun c102 => ?_)
    · skip
      refine jt_aload_n d_EX_putBody_102 rfl ?_
      refine cm_get (k := 5) (v := .ref (b + 8)) d_EX_putBody_103 EX_f24 (by decide) cc_2 rfl ?_
      refine jt_aload_n d_EX_putBody_106 rfl ?_
      refine jt_iload_n d_EX_putBody_107 rfl ?_
      refine jt_aload_n d_EX_putBody_108 rfl ?_
      refine cm_get (k := 39) (v := .int (jI (J 39 3))) d_EX_putBody_109 EX_f38 (by decide) (cc_1 rfl) rfl ?_
      have rb103 : 0 ≤ J 39 3 ∧ J 39 3 ≤ 300 := hJ.1 39 3
      refine cct_callV (Y := Y_TR_addAll) (ci := 0) (k := 8) (As := [.ref (b + 39), .int (jI q), .int (jI (J 39 3))]) (rest := []) d_EX_putBody_112 EX_c80 yk_TR_addAll yv_TR_addAll rfl (Nat.le_of_ble_eq_true rfl) (by decide) (cc_1 rfl) rfl rfl (Nat.le_of_ble_eq_true rfl) (v_TR_addAll_8_39 G _ b q (J 39 3) J B hJ.1 hJ.2.1 (by omega) (by omega)) (fun rvq104 Iq104 Aq104 hq104 => ?_)
      obtain ⟨rfl, hqq104, hxq104⟩ := hq104
      have hpq104 := cPo.trans hJ hqq104 rfl rfl
      have m39_3q104 : Iq104 39 3 = J 39 3 := hqq104.2.2.1 39 3 rfl
      have m5_5q104 : Iq104 5 5 = J 5 5 := hqq104.2.2.1 5 5 rfl
      show jt _ 115 [(0, .ref (b + 5)), (1, .ref (b + 39)), (2, .ref (b + 30)), (3, .int (jI q)), (4, .int (jI e)), (5, .int (jI i))] [] (cmf b f0 Iq104 Aq104) _ _ _
      refine jt_aload_n d_EX_putBody_115 rfl ?_
      refine jt_aload_n d_EX_putBody_116 rfl ?_
      refine cm_get (k := 5) (v := .int (jI (Iq104 5 5))) d_EX_putBody_117 EX_f42 (by decide) cc_2 rfl ?_
      have rb105 : 0 ≤ Iq104 5 5 ∧ Iq104 5 5 ≤ 300 := hpq104.1 5 5
      refine cm_put (k := 39) (j := 3) (v := (Iq104 5 5)) d_EX_putBody_120 (EX_w38 _ rfl) (by decide) (cc_1 rfl) rfl rfl (Nat.le_of_ble_eq_true rfl) rfl ?_
      have p106 := cPo.I 39 3 (Iq104 5 5) hpq104 rfl (show 0 ≤ Iq104 5 5 ∧ Iq104 5 5 ≤ 300 by omega)
      refine jt_aload_n d_EX_putBody_123 rfl ?_
      refine jt_aload_n d_EX_putBody_124 rfl ?_
      refine cm_get (k := 5) (v := .ref (b + 8)) d_EX_putBody_125 EX_f24 (by decide) cc_2 rfl ?_
      refine jt_iconst d_EX_putBody_128 ?_
      refine jt_aload_n d_EX_putBody_129 rfl ?_
      refine cm_get (k := 5) (v := .ref (b + 8)) d_EX_putBody_130 EX_f24 (by decide) cc_2 rfl ?_
      refine cm_get (k := 8) (v := .int (jI (Iq104 8 3))) d_EX_putBody_133 EX_f38 (by decide) (cc_1 rfl) rfl ?_
      have rb107 : 0 ≤ Iq104 8 3 ∧ Iq104 8 3 ≤ 300 := p106.1 8 3
      refine cct_callV (Y := Y_TR_addAll) (ci := 0) (k := 39) (As := [.ref (b + 8), .int (jI 0), .int (jI (Iq104 8 3))]) (rest := []) d_EX_putBody_136 EX_c80 yk_TR_addAll yv_TR_addAll rfl (Nat.le_of_ble_eq_true rfl) (by decide) (cc_1 rfl) rfl rfl (Nat.le_of_ble_eq_true rfl) (v_TR_addAll_39_8 G _ b 0 (Iq104 8 3) (cu Iq104 39 3 (Iq104 5 5)) Aq104 p106.1 p106.2.1 (by omega) (by omega)) (fun rvq108 Iq108 Aq108 hq108 => ?_)
      obtain ⟨rfl, hqq108, hxq108⟩ := hq108
      have hpq108 := cPo.trans p106 hqq108 rfl rfl
      have m5_5q108 : Iq108 5 5 = Iq104 5 5 := hqq108.2.2.1 5 5 rfl
      have m8_3q108 : Iq108 8 3 = Iq104 8 3 := hqq108.2.2.1 8 3 rfl
      show jt _ 139 [(0, .ref (b + 5)), (1, .ref (b + 39)), (2, .ref (b + 30)), (3, .int (jI q)), (4, .int (jI e)), (5, .int (jI i))] [] (cmf b f0 Iq108 Aq108) _ _ _
      exact cm_vret d_EX_putBody_139 rfl (⟨rfl, hpq108, (hxq108 (hxq104 hKJ))⟩)
    · skip
      refine jt_aload_n d_EX_putBody_33 rfl ?_
      refine cm_get (k := 30) (v := .ref (b + 32)) d_EX_putBody_34 EX_f55 (by decide) (cc_1 rfl) rfl ?_
      refine jt_iload d_EX_putBody_37 rfl ?_
      refine cm_ld0 (k := 32) (n := 40) (v := (B 32) i) d_EX_putBody_39 (by decide) rfl rfl (by omega) (by omega) (by omega) rfl ?_
      refine jt_topi (fun v109 ev109 => ?_)
      have bv109 : -2147483648 ≤ v109 ∧ v109 ≤ 2147483647 := by rw [ev109]; exact hJ.2.1 32 i
      refine jt_istore (L' := [(0, .ref (b + 5)), (1, .ref (b + 39)), (2, .ref (b + 30)), (3, .int (jI q)), (4, .int (jI e)), (5, .int (jI i)), (6, .int (jI v109))]) d_EX_putBody_40 (Nat.le_of_ble_eq_true rfl) rfl ?_
      refine jt_aload_n d_EX_putBody_42 rfl ?_
      refine cm_get (k := 30) (v := .ref (b + 31)) d_EX_putBody_43 EX_f48 (by decide) (cc_1 rfl) rfl ?_
      refine jt_iload d_EX_putBody_46 rfl ?_
      refine cm_ld0 (k := 31) (n := 40) (v := (B 31) i) d_EX_putBody_48 (by decide) rfl rfl (by omega) (by omega) (by omega) rfl ?_
      refine jt_topi (fun v110 ev110 => ?_)
      have bv110 : -2147483648 ≤ v110 ∧ v110 ≤ 2147483647 := by rw [ev110]; exact hJ.2.1 31 i
      refine jt_iconst d_EX_putBody_49 ?_
      refine jt_icmp_ne (t := 78) d_EX_putBody_50 rfl (by unfold jRi; omega) (by unfold jRi; omega) (fun c111 => ?_) (fun c111 => ?_)
      · skip
        refine jt_aload_n d_EX_putBody_78 rfl ?_
        refine cm_get (k := 5) (v := .ref (b + 8)) d_EX_putBody_79 EX_f24 (by decide) cc_2 rfl ?_
        refine jt_aload_n d_EX_putBody_82 rfl ?_
        refine cm_get (k := 30) (v := .ref (b + 31)) d_EX_putBody_83 EX_f48 (by decide) (cc_1 rfl) rfl ?_
        refine jt_iload d_EX_putBody_86 rfl ?_
        refine cm_ld0 (k := 31) (n := 40) (v := (B 31) i) d_EX_putBody_88 (by decide) rfl rfl (by omega) (by omega) (by omega) rfl ?_
        refine jt_topi (fun v112 ev112 => ?_)
        have bv112 : -2147483648 ≤ v112 ∧ v112 ≤ 2147483647 := by rw [ev112]; exact hJ.2.1 31 i
        refine jt_iload d_EX_putBody_89 rfl ?_
        refine jt_iload d_EX_putBody_91 rfl ?_
        refine cct_callV (Y := Y_TR_add) (ci := 0) (k := 8) (As := [.int (jI v112), .int (jI v109), .int (jI e)]) (rest := []) d_EX_putBody_93 EX_c84 yk_TR_add yv_TR_add rfl (Nat.le_of_ble_eq_true rfl) (by decide) (cc_1 rfl) rfl rfl (Nat.le_of_ble_eq_true rfl) (v_TR_add_8 G _ b v112 v109 e J B hJ.1 hJ.2.1 (by omega) (by omega) (by omega)) (fun rvq113 Iq113 Aq113 hq113 => ?_)
        obtain ⟨rfl, hqq113, hxq113⟩ := hq113
        have hpq113 := cPo.trans hJ hqq113 rfl rfl
        have m39_3q113 : Iq113 39 3 = J 39 3 := hqq113.2.2.1 39 3 rfl
        have m5_5q113 : Iq113 5 5 = J 5 5 := hqq113.2.2.1 5 5 rfl
        show jt _ 96 [(0, .ref (b + 5)), (1, .ref (b + 39)), (2, .ref (b + 30)), (3, .int (jI q)), (4, .int (jI e)), (5, .int (jI i)), (6, .int (jI v109))] [] (cmf b f0 Iq113 Aq113) _ _ _
        refine jt_iinc (L' := [(0, .ref (b + 5)), (1, .ref (b + 39)), (2, .ref (b + 30)), (3, .int (jI q)), (4, .int (jI e)), (5, .int (jI (i + 1))), (6, .int (jI v109))]) d_EX_putBody_96 rfl (Nat.le_of_ble_eq_true rfl) rfl ?_
        refine jt_goto (t := 24) d_EX_putBody_99 rfl ?_
        refine jt_sub (L' := [(0, .ref (b + 5)), (1, .ref (b + 39)), (2, .ref (b + 30)), (3, .int (jI q)), (4, .int (jI e)), (5, .int (jI (i + 1)))]) (fun _ h => List.mem_append_left [(6, Value.int (jI v109))] h) ?_
        exact ih (i + 1) Iq113 Aq113 hpq113 (by omega) (hxq113.1 hKJ (by rw [ev112, ev109]; exact tk2)) (by omega)
      · skip
        refine jt_aload_n d_EX_putBody_53 rfl ?_
        refine cm_get (k := 5) (v := .ref (b + 8)) d_EX_putBody_54 EX_f24 (by decide) cc_2 rfl ?_
        refine jt_aload_n d_EX_putBody_57 rfl ?_
        refine jt_aload_n d_EX_putBody_58 rfl ?_
        refine cm_get (k := 5) (v := .ref (b + 12)) d_EX_putBody_59 EX_f28 (by decide) cc_2 rfl ?_
        refine jt_iload d_EX_putBody_62 rfl ?_
        refine cm_ld0 (k := 12) (n := 3) (v := (B 12) v109) d_EX_putBody_64 (by decide) rfl rfl (by omega) (by omega) (by omega) rfl ?_
        refine jt_topi (fun v114 ev114 => ?_)
        have bv114 : 0 ≤ v114 ∧ v114 ≤ 300 := by rw [ev114]; exact hJ.2.1 12 v109
        refine jt_aload_n d_EX_putBody_65 rfl ?_
        refine cm_get (k := 5) (v := .ref (b + 13)) d_EX_putBody_66 EX_f31 (by decide) cc_2 rfl ?_
        refine jt_iload d_EX_putBody_69 rfl ?_
        refine cm_ld0 (k := 13) (n := 3) (v := (B 13) v109) d_EX_putBody_71 (by decide) rfl rfl (by omega) (by omega) (by omega) rfl ?_
        refine jt_topi (fun v115 ev115 => ?_)
        have bv115 : 0 ≤ v115 ∧ v115 ≤ 300 := by rw [ev115]; exact hJ.2.1 13 v109
        refine cct_callV (Y := Y_TR_addAll) (ci := 0) (k := 8) (As := [.ref (b + 39), .int (jI v114), .int (jI v115)]) (rest := []) d_EX_putBody_72 EX_c80 yk_TR_addAll yv_TR_addAll rfl (Nat.le_of_ble_eq_true rfl) (by decide) (cc_1 rfl) rfl rfl (Nat.le_of_ble_eq_true rfl) (v_TR_addAll_8_39 G _ b v114 v115 J B hJ.1 hJ.2.1 (by omega) (by omega)) (fun rvq116 Iq116 Aq116 hq116 => ?_)
        obtain ⟨rfl, hqq116, hxq116⟩ := hq116
        have hpq116 := cPo.trans hJ hqq116 rfl rfl
        have m39_3q116 : Iq116 39 3 = J 39 3 := hqq116.2.2.1 39 3 rfl
        have m5_5q116 : Iq116 5 5 = J 5 5 := hqq116.2.2.1 5 5 rfl
        show jt _ 75 [(0, .ref (b + 5)), (1, .ref (b + 39)), (2, .ref (b + 30)), (3, .int (jI q)), (4, .int (jI e)), (5, .int (jI i)), (6, .int (jI v109))] [] (cmf b f0 Iq116 Aq116) _ _ _
        refine jt_goto (t := 96) d_EX_putBody_75 rfl ?_
        refine jt_iinc (L' := [(0, .ref (b + 5)), (1, .ref (b + 39)), (2, .ref (b + 30)), (3, .int (jI q)), (4, .int (jI e)), (5, .int (jI (i + 1))), (6, .int (jI v109))]) d_EX_putBody_96 rfl (Nat.le_of_ble_eq_true rfl) rfl ?_
        refine jt_goto (t := 24) d_EX_putBody_99 rfl ?_
        refine jt_sub (L' := [(0, .ref (b + 5)), (1, .ref (b + 39)), (2, .ref (b + 30)), (3, .int (jI q)), (4, .int (jI e)), (5, .int (jI (i + 1)))]) (fun _ h => List.mem_append_left [(6, Value.int (jI v109))] h) ?_
        exact ih (i + 1) Iq116 Aq116 hpq116 (by omega) (hxq116 hKJ) (by omega)
set_option maxRecDepth 100000 in
set_option maxHeartbeats 4000000 in
theorem v_EX_putBody_30 (G : jG) (d b : Nat) (q : Int) (I : Nat → Nat → Int) (A : Nat → Int → Int) (hI : cSI I) (hA : cSA A) (hK : cTok A) (hq : 0 ≤ q ∧ q ≤ 301) (ha : I 5 5 < 300) : cct G Y_EX_putBody (d + 2) b [.ref (b + 5), .ref (b + 39), .ref (b + 30), .int (jI q)] I A (fun (rv : Option Value) (I2 : Nat → Nat → Int) (A2 : Nat → Int → Int) => rv = none ∧ cPo [131, 627] [9, 10, 11, 40, 41, 42] I A I2 A2 ∧ cTok A2) := by
  refine cct_of (by decide) (Nat.le_of_ble_eq_true rfl) (fun f0 sz => ?_)
  show jt _ 0 [(0, .ref (b + 5)), (1, .ref (b + 39)), (2, .ref (b + 30)), (3, .int (jI q))] [] _ _ _ _
  have r55 : 0 ≤ I 5 5 ∧ I 5 5 ≤ 300 := hI 5 5
  have hz0 : cPo [131, 627] [9, 10, 11, 40, 41, 42] I A I A := cPo.refl hI hA
  refine jt_aload_n d_EX_putBody_0 rfl ?_
  refine cm_get (k := 39) (v := .ref (b + 42)) d_EX_putBody_1 EX_f58 (by decide) (cc_1 rfl) rfl ?_
  refine jt_aload_n d_EX_putBody_4 rfl ?_
  refine cm_get (k := 5) (v := .int (jI (I 5 5))) d_EX_putBody_5 EX_f42 (by decide) cc_2 rfl ?_
  have rb1 : 0 ≤ I 5 5 ∧ I 5 5 ≤ 300 := hz0.1 5 5
  refine cm_ld0 (k := 42) (n := 300) (v := (A 42) (I 5 5)) d_EX_putBody_8 (by decide) rfl rfl (by omega) (by omega) (by omega) rfl ?_
  refine jt_topi (fun v2 ev2 => ?_)
  have bv2 : -2147483648 ≤ v2 ∧ v2 ≤ 2147483647 := by rw [ev2]; exact hz0.2.1 42 (I 5 5)
  refine jt_iconst d_EX_putBody_9 ?_
  refine jt_iadd d_EX_putBody_10 ?_
  refine jt_topiw (fun v3 bv3 => ?_)
  refine jt_istore (L' := [(0, .ref (b + 5)), (1, .ref (b + 39)), (2, .ref (b + 30)), (3, .int (jI q)), (4, .int (jI v3))]) d_EX_putBody_11 (Nat.le_of_ble_eq_true rfl) rfl ?_
  refine jt_aload_n d_EX_putBody_13 rfl ?_
  refine cm_get (k := 5) (v := .ref (b + 8)) d_EX_putBody_14 EX_f24 (by decide) cc_2 rfl ?_
  refine jt_iconst d_EX_putBody_17 ?_
  refine cm_put (k := 8) (j := 3) (v := 0) d_EX_putBody_18 (EX_w38 _ rfl) (by decide) (cc_1 rfl) rfl rfl (Nat.le_of_ble_eq_true rfl) rfl ?_
  have p4 := cPo.I 8 3 0 hz0 rfl (show 0 ≤ 0 ∧ 0 ≤ 300 by omega)
  refine jt_iconst d_EX_putBody_21 ?_
  refine jt_istore (L' := [(0, .ref (b + 5)), (1, .ref (b + 39)), (2, .ref (b + 30)), (3, .int (jI q)), (4, .int (jI v3)), (5, .int (jI 0))]) d_EX_putBody_22 (Nat.le_of_ble_eq_true rfl) rfl ?_
  exact l24_EX_putBody_30v G d b q I A hI hA hK hq ha f0 sz v3 ((by omega)) 41 0 (cu I 8 3 0) A p4 (by omega) hK (by omega)
set_option maxRecDepth 100000 in
set_option maxHeartbeats 4000000 in
theorem l16_EX_lengthAfter_34v (G : jG) (d b : Nat) (q : Int) (I : Nat → Nat → Int) (A : Nat → Int → Int) (hI : cSI I) (hA : cSA A) (hK : cTok A) (hq : 0 ≤ q ∧ q ≤ 301) (f0 : jF) (sz : Nat)  : ∀ (n9 : Nat) (l : Int) (i : Int) (J : Nat → Nat → Int) (B : Nat → Int → Int), cPo [] [] I A J B → (0 ≤ i ∧ i ≤ 40) → (-700 - 300 * i ≤ l ∧ l ≤ 700 + 300 * i) → 40 - i < (n9 : Int) → jt (jm G Y_EX_lengthAfter (gR d) (cQ b f0 sz (fun (rv : Option Value) (I2 : Nat → Nat → Int) (A2 : Nat → Int → Int) => ∃ y : Int, rv = some (.int (jI y)) ∧ (-2147483648 ≤ y ∧ y ≤ 2147483647) ∧ cPo [] [] I A I2 A2))) 16 [(0, .ref (b + 5)), (1, .ref (b + 39)), (2, .ref (b + 34)), (3, .int (jI q)), (4, .int (jI l)), (5, .int (jI i))] [] (cmf b f0 J B) sz 0 0 := by
  intro n9
  induction n9 with
  | zero =>
    intro l i J B hJ i0 l0 hmeas
    have tk : gtok (B 35 i) (B 36 i) := (cTok_of hJ hK rfl) 34 rfl i
    unfold gtok at tk
    exfalso
    omega
  | succ n9 ih =>
    intro l i J B hJ i0 l0 hmeas
    have tk : gtok (B 35 i) (B 36 i) := (cTok_of hJ hK rfl) 34 rfl i
    unfold gtok at tk
    refine jt_iload d_EX_lengthAfter_16 rfl ?_
    refine jt_aload_n d_EX_lengthAfter_18 rfl ?_
    refine cm_get (k := 34) (v := .int (jI (J 34 3))) d_EX_lengthAfter_19 EX_f38 (by decide) (cc_1 rfl) rfl ?_
    have rb101 : 0 ≤ J 34 3 ∧ J 34 3 ≤ 40 := hJ.1 34 3
    refine jt_icmp_ge (t := 75) d_EX_lengthAfter_22 rfl (by unfold jRi; omega) (by unfold jRi; omega) (fun c102 => ?_) (fun c102 => ?_)
    · skip
      refine jt_iload d_EX_lengthAfter_75 rfl ?_
      exact cm_ret d_EX_lengthAfter_77 rfl rfl (⟨l, rfl, by omega, hJ⟩)
    · skip
      refine jt_aload_n d_EX_lengthAfter_25 rfl ?_
      refine cm_get (k := 34) (v := .ref (b + 36)) d_EX_lengthAfter_26 EX_f55 (by decide) (cc_1 rfl) rfl ?_
      refine jt_iload d_EX_lengthAfter_29 rfl ?_
      refine cm_ld0 (k := 36) (n := 40) (v := (B 36) i) d_EX_lengthAfter_31 (by decide) rfl rfl (by omega) (by omega) (by omega) rfl ?_
      refine jt_topi (fun v103 ev103 => ?_)
      have bv103 : -2147483648 ≤ v103 ∧ v103 ≤ 2147483647 := by rw [ev103]; exact hJ.2.1 36 i
      refine jt_istore (L' := [(0, .ref (b + 5)), (1, .ref (b + 39)), (2, .ref (b + 34)), (3, .int (jI q)), (4, .int (jI l)), (5, .int (jI i)), (6, .int (jI v103))]) d_EX_lengthAfter_32 (Nat.le_of_ble_eq_true rfl) rfl ?_
      refine jt_iload d_EX_lengthAfter_34 rfl ?_
      refine jt_aload_n d_EX_lengthAfter_36 rfl ?_
      refine cm_get (k := 34) (v := .ref (b + 35)) d_EX_lengthAfter_37 EX_f48 (by decide) (cc_1 rfl) rfl ?_
      refine jt_iload d_EX_lengthAfter_40 rfl ?_
      refine cm_ld0 (k := 35) (n := 40) (v := (B 35) i) d_EX_lengthAfter_42 (by decide) rfl rfl (by omega) (by omega) (by omega) rfl ?_
      refine jt_topi (fun v104 ev104 => ?_)
      have bv104 : -2147483648 ≤ v104 ∧ v104 ≤ 2147483647 := by rw [ev104]; exact hJ.2.1 35 i
      refine jt_iconst d_EX_lengthAfter_43 ?_
      refine jt_icmp_ne (t := 65) d_EX_lengthAfter_44 rfl (by unfold jRi; omega) (by unfold jRi; omega) (fun c105 => ?_) (fun c105 => ?_)
      · skip
        refine jt_iconst d_EX_lengthAfter_65 ?_
        refine jt_iadd d_EX_lengthAfter_66 ?_
        refine jt_topi (fun v106 ev106 => ?_)
        refine jt_istore (L' := [(0, .ref (b + 5)), (1, .ref (b + 39)), (2, .ref (b + 34)), (3, .int (jI q)), (4, .int (jI v106)), (5, .int (jI i)), (6, .int (jI v103))]) d_EX_lengthAfter_67 (Nat.le_of_ble_eq_true rfl) rfl ?_
        refine jt_iinc (L' := [(0, .ref (b + 5)), (1, .ref (b + 39)), (2, .ref (b + 34)), (3, .int (jI q)), (4, .int (jI v106)), (5, .int (jI (i + 1))), (6, .int (jI v103))]) d_EX_lengthAfter_69 rfl (Nat.le_of_ble_eq_true rfl) rfl ?_
        refine jt_goto (t := 16) d_EX_lengthAfter_72 rfl ?_
        refine jt_sub (L' := [(0, .ref (b + 5)), (1, .ref (b + 39)), (2, .ref (b + 34)), (3, .int (jI q)), (4, .int (jI v106)), (5, .int (jI (i + 1)))]) (fun _ h => List.mem_append_left [(6, Value.int (jI v103))] h) ?_
        exact ih v106 (i + 1) J B hJ (by omega) (by omega) (by omega)
      · skip
        refine jt_aload_n d_EX_lengthAfter_47 rfl ?_
        refine cm_get (k := 5) (v := .ref (b + 13)) d_EX_lengthAfter_48 EX_f31 (by decide) cc_2 rfl ?_
        refine jt_iload d_EX_lengthAfter_51 rfl ?_
        refine cm_ld0 (k := 13) (n := 3) (v := (B 13) v103) d_EX_lengthAfter_53 (by decide) rfl rfl (by omega) (by omega) (by omega) rfl ?_
        refine jt_topi (fun v107 ev107 => ?_)
        have bv107 : 0 ≤ v107 ∧ v107 ≤ 300 := by rw [ev107]; exact hJ.2.1 13 v103
        refine jt_aload_n d_EX_lengthAfter_54 rfl ?_
        refine cm_get (k := 5) (v := .ref (b + 12)) d_EX_lengthAfter_55 EX_f28 (by decide) cc_2 rfl ?_
        refine jt_iload d_EX_lengthAfter_58 rfl ?_
        refine cm_ld0 (k := 12) (n := 3) (v := (B 12) v103) d_EX_lengthAfter_60 (by decide) rfl rfl (by omega) (by omega) (by omega) rfl ?_
        refine jt_topi (fun v108 ev108 => ?_)
        have bv108 : 0 ≤ v108 ∧ v108 ≤ 300 := by rw [ev108]; exact hJ.2.1 12 v103
        refine jt_isub d_EX_lengthAfter_61 ?_
        refine jt_goto (t := 66) d_EX_lengthAfter_62 rfl ?_
        refine jt_iadd d_EX_lengthAfter_66 ?_
        refine jt_topi (fun v109 ev109 => ?_)
        refine jt_istore (L' := [(0, .ref (b + 5)), (1, .ref (b + 39)), (2, .ref (b + 34)), (3, .int (jI q)), (4, .int (jI v109)), (5, .int (jI i)), (6, .int (jI v103))]) d_EX_lengthAfter_67 (Nat.le_of_ble_eq_true rfl) rfl ?_
        refine jt_iinc (L' := [(0, .ref (b + 5)), (1, .ref (b + 39)), (2, .ref (b + 34)), (3, .int (jI q)), (4, .int (jI v109)), (5, .int (jI (i + 1))), (6, .int (jI v103))]) d_EX_lengthAfter_69 rfl (Nat.le_of_ble_eq_true rfl) rfl ?_
        refine jt_goto (t := 16) d_EX_lengthAfter_72 rfl ?_
        refine jt_sub (L' := [(0, .ref (b + 5)), (1, .ref (b + 39)), (2, .ref (b + 34)), (3, .int (jI q)), (4, .int (jI v109)), (5, .int (jI (i + 1)))]) (fun _ h => List.mem_append_left [(6, Value.int (jI v103))] h) ?_
        exact ih v109 (i + 1) J B hJ (by omega) (by omega) (by omega)
set_option maxRecDepth 100000 in
set_option maxHeartbeats 4000000 in
theorem v_EX_lengthAfter_34 (G : jG) (d b : Nat) (q : Int) (I : Nat → Nat → Int) (A : Nat → Int → Int) (hI : cSI I) (hA : cSA A) (hK : cTok A) (hq : 0 ≤ q ∧ q ≤ 301) : cct G Y_EX_lengthAfter d b [.ref (b + 5), .ref (b + 39), .ref (b + 34), .int (jI q)] I A (fun (rv : Option Value) (I2 : Nat → Nat → Int) (A2 : Nat → Int → Int) => ∃ y : Int, rv = some (.int (jI y)) ∧ (-2147483648 ≤ y ∧ y ≤ 2147483647) ∧ cPo [] [] I A I2 A2) := by
  refine cct_of (by decide) (Nat.le_of_ble_eq_true rfl) (fun f0 sz => ?_)
  show jt _ 0 [(0, .ref (b + 5)), (1, .ref (b + 39)), (2, .ref (b + 34)), (3, .int (jI q))] [] _ _ _ _
  have hz0 : cPo [] [] I A I A := cPo.refl hI hA
  refine jt_aload_n d_EX_lengthAfter_0 rfl ?_
  refine cm_get (k := 5) (v := .int (jI (I 5 5))) d_EX_lengthAfter_1 EX_f42 (by decide) cc_2 rfl ?_
  have rb1 : 0 ≤ I 5 5 ∧ I 5 5 ≤ 300 := hz0.1 5 5
  refine jt_aload_n d_EX_lengthAfter_4 rfl ?_
  refine cm_get (k := 39) (v := .int (jI (I 39 3))) d_EX_lengthAfter_5 EX_f38 (by decide) (cc_1 rfl) rfl ?_
  have rb2 : 0 ≤ I 39 3 ∧ I 39 3 ≤ 300 := hz0.1 39 3
  refine jt_iadd d_EX_lengthAfter_8 ?_
  refine jt_iload_n d_EX_lengthAfter_9 rfl ?_
  refine jt_isub d_EX_lengthAfter_10 ?_
  refine jt_topi (fun v3 ev3 => ?_)
  refine jt_istore (L' := [(0, .ref (b + 5)), (1, .ref (b + 39)), (2, .ref (b + 34)), (3, .int (jI q)), (4, .int (jI v3))]) d_EX_lengthAfter_11 (Nat.le_of_ble_eq_true rfl) rfl ?_
  refine jt_iconst d_EX_lengthAfter_13 ?_
  refine jt_istore (L' := [(0, .ref (b + 5)), (1, .ref (b + 39)), (2, .ref (b + 34)), (3, .int (jI q)), (4, .int (jI v3)), (5, .int (jI 0))]) d_EX_lengthAfter_14 (Nat.le_of_ble_eq_true rfl) rfl ?_
  exact l16_EX_lengthAfter_34v G d b q I A hI hA hK hq f0 sz  41 v3 0 I A hz0 (by omega) (by omega) (by omega)
set_option maxRecDepth 100000 in
set_option maxHeartbeats 4000000 in
theorem l24_EX_putBody_34v (G : jG) (d b : Nat) (q : Int) (I : Nat → Nat → Int) (A : Nat → Int → Int) (hI : cSI I) (hA : cSA A) (hK : cTok A) (hq : 0 ≤ q ∧ q ≤ 301) (ha : I 5 5 < 300) (f0 : jF) (sz : Nat) (e : Int) (e0 : -2147483648 ≤ e ∧ e ≤ 2147483647) : ∀ (n9 : Nat) (i : Int) (J : Nat → Nat → Int) (B : Nat → Int → Int), cPo [131, 627] [9, 10, 11, 40, 41, 42] I A J B → (0 ≤ i ∧ i ≤ 40) → (cTok B) → 40 - i < (n9 : Int) → jt (jm G Y_EX_putBody (gR (d + 2)) (cQ b f0 sz (fun (rv : Option Value) (I2 : Nat → Nat → Int) (A2 : Nat → Int → Int) => rv = none ∧ cPo [131, 627] [9, 10, 11, 40, 41, 42] I A I2 A2 ∧ cTok A2))) 24 [(0, .ref (b + 5)), (1, .ref (b + 39)), (2, .ref (b + 34)), (3, .int (jI q)), (4, .int (jI e)), (5, .int (jI i))] [] (cmf b f0 J B) sz 0 0 := by
  have r55 : 0 ≤ I 5 5 ∧ I 5 5 ≤ 300 := hI 5 5
  intro n9
  induction n9 with
  | zero =>
    intro i J B hJ i0 hKJ hmeas
    have tk : gtok (B 35 i) (B 36 i) := hKJ 34 rfl i
    have tk2 := tk
    unfold gtok at tk
    have f55 : J 5 5 = I 5 5 := hJ.2.2.1 5 5 rfl
    exfalso
    omega
  | succ n9 ih =>
    intro i J B hJ i0 hKJ hmeas
    have tk : gtok (B 35 i) (B 36 i) := hKJ 34 rfl i
    have tk2 := tk
    unfold gtok at tk
    have f55 : J 5 5 = I 5 5 := hJ.2.2.1 5 5 rfl
    refine jt_iload d_EX_putBody_24 rfl ?_
    refine jt_aload_n d_EX_putBody_26 rfl ?_
    refine cm_get (k := 34) (v := .int (jI (J 34 3))) d_EX_putBody_27 EX_f38 (by decide) (cc_1 rfl) rfl ?_
    have rb101 : 0 ≤ J 34 3 ∧ J 34 3 ≤ 40 := hJ.1 34 3
    refine jt_icmp_ge (t := 102) d_EX_putBody_30 rfl (by unfold jRi; omega) (by unfold jRi; omega) (fun c102 => ?_) (fun c102 => ?_)
    · skip
      refine jt_aload_n d_EX_putBody_102 rfl ?_
      refine cm_get (k := 5) (v := .ref (b + 8)) d_EX_putBody_103 EX_f24 (by decide) cc_2 rfl ?_
      refine jt_aload_n d_EX_putBody_106 rfl ?_
      refine jt_iload_n d_EX_putBody_107 rfl ?_
      refine jt_aload_n d_EX_putBody_108 rfl ?_
      refine cm_get (k := 39) (v := .int (jI (J 39 3))) d_EX_putBody_109 EX_f38 (by decide) (cc_1 rfl) rfl ?_
      have rb103 : 0 ≤ J 39 3 ∧ J 39 3 ≤ 300 := hJ.1 39 3
      refine cct_callV (Y := Y_TR_addAll) (ci := 0) (k := 8) (As := [.ref (b + 39), .int (jI q), .int (jI (J 39 3))]) (rest := []) d_EX_putBody_112 EX_c80 yk_TR_addAll yv_TR_addAll rfl (Nat.le_of_ble_eq_true rfl) (by decide) (cc_1 rfl) rfl rfl (Nat.le_of_ble_eq_true rfl) (v_TR_addAll_8_39 G _ b q (J 39 3) J B hJ.1 hJ.2.1 (by omega) (by omega)) (fun rvq104 Iq104 Aq104 hq104 => ?_)
      obtain ⟨rfl, hqq104, hxq104⟩ := hq104
      have hpq104 := cPo.trans hJ hqq104 rfl rfl
      have m39_3q104 : Iq104 39 3 = J 39 3 := hqq104.2.2.1 39 3 rfl
      have m5_5q104 : Iq104 5 5 = J 5 5 := hqq104.2.2.1 5 5 rfl
      show jt _ 115 [(0, .ref (b + 5)), (1, .ref (b + 39)), (2, .ref (b + 34)), (3, .int (jI q)), (4, .int (jI e)), (5, .int (jI i))] [] (cmf b f0 Iq104 Aq104) _ _ _
      refine jt_aload_n d_EX_putBody_115 rfl ?_
      refine jt_aload_n d_EX_putBody_116 rfl ?_
      refine cm_get (k := 5) (v := .int (jI (Iq104 5 5))) d_EX_putBody_117 EX_f42 (by decide) cc_2 rfl ?_
      have rb105 : 0 ≤ Iq104 5 5 ∧ Iq104 5 5 ≤ 300 := hpq104.1 5 5
      refine cm_put (k := 39) (j := 3) (v := (Iq104 5 5)) d_EX_putBody_120 (EX_w38 _ rfl) (by decide) (cc_1 rfl) rfl rfl (Nat.le_of_ble_eq_true rfl) rfl ?_
      have p106 := cPo.I 39 3 (Iq104 5 5) hpq104 rfl (show 0 ≤ Iq104 5 5 ∧ Iq104 5 5 ≤ 300 by omega)
      refine jt_aload_n d_EX_putBody_123 rfl ?_
      refine jt_aload_n d_EX_putBody_124 rfl ?_
      refine cm_get (k := 5) (v := .ref (b + 8)) d_EX_putBody_125 EX_f24 (by decide) cc_2 rfl ?_
      refine jt_iconst d_EX_putBody_128 ?_
      refine jt_aload_n d_EX_putBody_129 rfl ?_
      refine cm_get (k := 5) (v := .ref (b + 8)) d_EX_putBody_130 EX_f24 (by decide) cc_2 rfl ?_
      refine cm_get (k := 8) (v := .int (jI (Iq104 8 3))) d_EX_putBody_133 EX_f38 (by decide) (cc_1 rfl) rfl ?_
      have rb107 : 0 ≤ Iq104 8 3 ∧ Iq104 8 3 ≤ 300 := p106.1 8 3
      refine cct_callV (Y := Y_TR_addAll) (ci := 0) (k := 39) (As := [.ref (b + 8), .int (jI 0), .int (jI (Iq104 8 3))]) (rest := []) d_EX_putBody_136 EX_c80 yk_TR_addAll yv_TR_addAll rfl (Nat.le_of_ble_eq_true rfl) (by decide) (cc_1 rfl) rfl rfl (Nat.le_of_ble_eq_true rfl) (v_TR_addAll_39_8 G _ b 0 (Iq104 8 3) (cu Iq104 39 3 (Iq104 5 5)) Aq104 p106.1 p106.2.1 (by omega) (by omega)) (fun rvq108 Iq108 Aq108 hq108 => ?_)
      obtain ⟨rfl, hqq108, hxq108⟩ := hq108
      have hpq108 := cPo.trans p106 hqq108 rfl rfl
      have m5_5q108 : Iq108 5 5 = Iq104 5 5 := hqq108.2.2.1 5 5 rfl
      have m8_3q108 : Iq108 8 3 = Iq104 8 3 := hqq108.2.2.1 8 3 rfl
      show jt _ 139 [(0, .ref (b + 5)), (1, .ref (b + 39)), (2, .ref (b + 34)), (3, .int (jI q)), (4, .int (jI e)), (5, .int (jI i))] [] (cmf b f0 Iq108 Aq108) _ _ _
      exact cm_vret d_EX_putBody_139 rfl (⟨rfl, hpq108, (hxq108 (hxq104 hKJ))⟩)
    · skip
      refine jt_aload_n d_EX_putBody_33 rfl ?_
      refine cm_get (k := 34) (v := .ref (b + 36)) d_EX_putBody_34 EX_f55 (by decide) (cc_1 rfl) rfl ?_
      refine jt_iload d_EX_putBody_37 rfl ?_
      refine cm_ld0 (k := 36) (n := 40) (v := (B 36) i) d_EX_putBody_39 (by decide) rfl rfl (by omega) (by omega) (by omega) rfl ?_
      refine jt_topi (fun v109 ev109 => ?_)
      have bv109 : -2147483648 ≤ v109 ∧ v109 ≤ 2147483647 := by rw [ev109]; exact hJ.2.1 36 i
      refine jt_istore (L' := [(0, .ref (b + 5)), (1, .ref (b + 39)), (2, .ref (b + 34)), (3, .int (jI q)), (4, .int (jI e)), (5, .int (jI i)), (6, .int (jI v109))]) d_EX_putBody_40 (Nat.le_of_ble_eq_true rfl) rfl ?_
      refine jt_aload_n d_EX_putBody_42 rfl ?_
      refine cm_get (k := 34) (v := .ref (b + 35)) d_EX_putBody_43 EX_f48 (by decide) (cc_1 rfl) rfl ?_
      refine jt_iload d_EX_putBody_46 rfl ?_
      refine cm_ld0 (k := 35) (n := 40) (v := (B 35) i) d_EX_putBody_48 (by decide) rfl rfl (by omega) (by omega) (by omega) rfl ?_
      refine jt_topi (fun v110 ev110 => ?_)
      have bv110 : -2147483648 ≤ v110 ∧ v110 ≤ 2147483647 := by rw [ev110]; exact hJ.2.1 35 i
      refine jt_iconst d_EX_putBody_49 ?_
      refine jt_icmp_ne (t := 78) d_EX_putBody_50 rfl (by unfold jRi; omega) (by unfold jRi; omega) (fun c111 => ?_) (fun c111 => ?_)
      · skip
        refine jt_aload_n d_EX_putBody_78 rfl ?_
        refine cm_get (k := 5) (v := .ref (b + 8)) d_EX_putBody_79 EX_f24 (by decide) cc_2 rfl ?_
        refine jt_aload_n d_EX_putBody_82 rfl ?_
        refine cm_get (k := 34) (v := .ref (b + 35)) d_EX_putBody_83 EX_f48 (by decide) (cc_1 rfl) rfl ?_
        refine jt_iload d_EX_putBody_86 rfl ?_
        refine cm_ld0 (k := 35) (n := 40) (v := (B 35) i) d_EX_putBody_88 (by decide) rfl rfl (by omega) (by omega) (by omega) rfl ?_
        refine jt_topi (fun v112 ev112 => ?_)
        have bv112 : -2147483648 ≤ v112 ∧ v112 ≤ 2147483647 := by rw [ev112]; exact hJ.2.1 35 i
        refine jt_iload d_EX_putBody_89 rfl ?_
        refine jt_iload d_EX_putBody_91 rfl ?_
        refine cct_callV (Y := Y_TR_add) (ci := 0) (k := 8) (As := [.int (jI v112), .int (jI v109), .int (jI e)]) (rest := []) d_EX_putBody_93 EX_c84 yk_TR_add yv_TR_add rfl (Nat.le_of_ble_eq_true rfl) (by decide) (cc_1 rfl) rfl rfl (Nat.le_of_ble_eq_true rfl) (v_TR_add_8 G _ b v112 v109 e J B hJ.1 hJ.2.1 (by omega) (by omega) (by omega)) (fun rvq113 Iq113 Aq113 hq113 => ?_)
        obtain ⟨rfl, hqq113, hxq113⟩ := hq113
        have hpq113 := cPo.trans hJ hqq113 rfl rfl
        have m39_3q113 : Iq113 39 3 = J 39 3 := hqq113.2.2.1 39 3 rfl
        have m5_5q113 : Iq113 5 5 = J 5 5 := hqq113.2.2.1 5 5 rfl
        show jt _ 96 [(0, .ref (b + 5)), (1, .ref (b + 39)), (2, .ref (b + 34)), (3, .int (jI q)), (4, .int (jI e)), (5, .int (jI i)), (6, .int (jI v109))] [] (cmf b f0 Iq113 Aq113) _ _ _
        refine jt_iinc (L' := [(0, .ref (b + 5)), (1, .ref (b + 39)), (2, .ref (b + 34)), (3, .int (jI q)), (4, .int (jI e)), (5, .int (jI (i + 1))), (6, .int (jI v109))]) d_EX_putBody_96 rfl (Nat.le_of_ble_eq_true rfl) rfl ?_
        refine jt_goto (t := 24) d_EX_putBody_99 rfl ?_
        refine jt_sub (L' := [(0, .ref (b + 5)), (1, .ref (b + 39)), (2, .ref (b + 34)), (3, .int (jI q)), (4, .int (jI e)), (5, .int (jI (i + 1)))]) (fun _ h => List.mem_append_left [(6, Value.int (jI v109))] h) ?_
        exact ih (i + 1) Iq113 Aq113 hpq113 (by omega) (hxq113.1 hKJ (by rw [ev112, ev109]; exact tk2)) (by omega)
      · skip
        refine jt_aload_n d_EX_putBody_53 rfl ?_
        refine cm_get (k := 5) (v := .ref (b + 8)) d_EX_putBody_54 EX_f24 (by decide) cc_2 rfl ?_
        refine jt_aload_n d_EX_putBody_57 rfl ?_
        refine jt_aload_n d_EX_putBody_58 rfl ?_
        refine cm_get (k := 5) (v := .ref (b + 12)) d_EX_putBody_59 EX_f28 (by decide) cc_2 rfl ?_
        refine jt_iload d_EX_putBody_62 rfl ?_
        refine cm_ld0 (k := 12) (n := 3) (v := (B 12) v109) d_EX_putBody_64 (by decide) rfl rfl (by omega) (by omega) (by omega) rfl ?_
        refine jt_topi (fun v114 ev114 => ?_)
        have bv114 : 0 ≤ v114 ∧ v114 ≤ 300 := by rw [ev114]; exact hJ.2.1 12 v109
        refine jt_aload_n d_EX_putBody_65 rfl ?_
        refine cm_get (k := 5) (v := .ref (b + 13)) d_EX_putBody_66 EX_f31 (by decide) cc_2 rfl ?_
        refine jt_iload d_EX_putBody_69 rfl ?_
        refine cm_ld0 (k := 13) (n := 3) (v := (B 13) v109) d_EX_putBody_71 (by decide) rfl rfl (by omega) (by omega) (by omega) rfl ?_
        refine jt_topi (fun v115 ev115 => ?_)
        have bv115 : 0 ≤ v115 ∧ v115 ≤ 300 := by rw [ev115]; exact hJ.2.1 13 v109
        refine cct_callV (Y := Y_TR_addAll) (ci := 0) (k := 8) (As := [.ref (b + 39), .int (jI v114), .int (jI v115)]) (rest := []) d_EX_putBody_72 EX_c80 yk_TR_addAll yv_TR_addAll rfl (Nat.le_of_ble_eq_true rfl) (by decide) (cc_1 rfl) rfl rfl (Nat.le_of_ble_eq_true rfl) (v_TR_addAll_8_39 G _ b v114 v115 J B hJ.1 hJ.2.1 (by omega) (by omega)) (fun rvq116 Iq116 Aq116 hq116 => ?_)
        obtain ⟨rfl, hqq116, hxq116⟩ := hq116
        have hpq116 := cPo.trans hJ hqq116 rfl rfl
        have m39_3q116 : Iq116 39 3 = J 39 3 := hqq116.2.2.1 39 3 rfl
        have m5_5q116 : Iq116 5 5 = J 5 5 := hqq116.2.2.1 5 5 rfl
        show jt _ 75 [(0, .ref (b + 5)), (1, .ref (b + 39)), (2, .ref (b + 34)), (3, .int (jI q)), (4, .int (jI e)), (5, .int (jI i)), (6, .int (jI v109))] [] (cmf b f0 Iq116 Aq116) _ _ _
        refine jt_goto (t := 96) d_EX_putBody_75 rfl ?_
        refine jt_iinc (L' := [(0, .ref (b + 5)), (1, .ref (b + 39)), (2, .ref (b + 34)), (3, .int (jI q)), (4, .int (jI e)), (5, .int (jI (i + 1))), (6, .int (jI v109))]) d_EX_putBody_96 rfl (Nat.le_of_ble_eq_true rfl) rfl ?_
        refine jt_goto (t := 24) d_EX_putBody_99 rfl ?_
        refine jt_sub (L' := [(0, .ref (b + 5)), (1, .ref (b + 39)), (2, .ref (b + 34)), (3, .int (jI q)), (4, .int (jI e)), (5, .int (jI (i + 1)))]) (fun _ h => List.mem_append_left [(6, Value.int (jI v109))] h) ?_
        exact ih (i + 1) Iq116 Aq116 hpq116 (by omega) (hxq116 hKJ) (by omega)
set_option maxRecDepth 100000 in
set_option maxHeartbeats 4000000 in
theorem v_EX_putBody_34 (G : jG) (d b : Nat) (q : Int) (I : Nat → Nat → Int) (A : Nat → Int → Int) (hI : cSI I) (hA : cSA A) (hK : cTok A) (hq : 0 ≤ q ∧ q ≤ 301) (ha : I 5 5 < 300) : cct G Y_EX_putBody (d + 2) b [.ref (b + 5), .ref (b + 39), .ref (b + 34), .int (jI q)] I A (fun (rv : Option Value) (I2 : Nat → Nat → Int) (A2 : Nat → Int → Int) => rv = none ∧ cPo [131, 627] [9, 10, 11, 40, 41, 42] I A I2 A2 ∧ cTok A2) := by
  refine cct_of (by decide) (Nat.le_of_ble_eq_true rfl) (fun f0 sz => ?_)
  show jt _ 0 [(0, .ref (b + 5)), (1, .ref (b + 39)), (2, .ref (b + 34)), (3, .int (jI q))] [] _ _ _ _
  have r55 : 0 ≤ I 5 5 ∧ I 5 5 ≤ 300 := hI 5 5
  have hz0 : cPo [131, 627] [9, 10, 11, 40, 41, 42] I A I A := cPo.refl hI hA
  refine jt_aload_n d_EX_putBody_0 rfl ?_
  refine cm_get (k := 39) (v := .ref (b + 42)) d_EX_putBody_1 EX_f58 (by decide) (cc_1 rfl) rfl ?_
  refine jt_aload_n d_EX_putBody_4 rfl ?_
  refine cm_get (k := 5) (v := .int (jI (I 5 5))) d_EX_putBody_5 EX_f42 (by decide) cc_2 rfl ?_
  have rb1 : 0 ≤ I 5 5 ∧ I 5 5 ≤ 300 := hz0.1 5 5
  refine cm_ld0 (k := 42) (n := 300) (v := (A 42) (I 5 5)) d_EX_putBody_8 (by decide) rfl rfl (by omega) (by omega) (by omega) rfl ?_
  refine jt_topi (fun v2 ev2 => ?_)
  have bv2 : -2147483648 ≤ v2 ∧ v2 ≤ 2147483647 := by rw [ev2]; exact hz0.2.1 42 (I 5 5)
  refine jt_iconst d_EX_putBody_9 ?_
  refine jt_iadd d_EX_putBody_10 ?_
  refine jt_topiw (fun v3 bv3 => ?_)
  refine jt_istore (L' := [(0, .ref (b + 5)), (1, .ref (b + 39)), (2, .ref (b + 34)), (3, .int (jI q)), (4, .int (jI v3))]) d_EX_putBody_11 (Nat.le_of_ble_eq_true rfl) rfl ?_
  refine jt_aload_n d_EX_putBody_13 rfl ?_
  refine cm_get (k := 5) (v := .ref (b + 8)) d_EX_putBody_14 EX_f24 (by decide) cc_2 rfl ?_
  refine jt_iconst d_EX_putBody_17 ?_
  refine cm_put (k := 8) (j := 3) (v := 0) d_EX_putBody_18 (EX_w38 _ rfl) (by decide) (cc_1 rfl) rfl rfl (Nat.le_of_ble_eq_true rfl) rfl ?_
  have p4 := cPo.I 8 3 0 hz0 rfl (show 0 ≤ 0 ∧ 0 ≤ 300 by omega)
  refine jt_iconst d_EX_putBody_21 ?_
  refine jt_istore (L' := [(0, .ref (b + 5)), (1, .ref (b + 39)), (2, .ref (b + 34)), (3, .int (jI q)), (4, .int (jI v3)), (5, .int (jI 0))]) d_EX_putBody_22 (Nat.le_of_ble_eq_true rfl) rfl ?_
  exact l24_EX_putBody_34v G d b q I A hI hA hK hq ha f0 sz v3 ((by omega)) 41 0 (cu I 8 3 0) A p4 (by omega) hK (by omega)

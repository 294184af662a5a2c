set_option maxRecDepth 100000 in
set_option maxHeartbeats 4000000 in
theorem l4_FO_multiply_xv (G : jG) (d b : Nat) (me : Nat) (s : Int) (I : Nat → Nat → Int) (A : Nat → Int → Int) (hI : cSI I) (hA : cSA A) (k_me : me < 472) (k5me : ck me = 5) (hs : -16000 ≤ s ∧ s ≤ 16000) (f0 : jF) (sz : Nat)   : ∀ (n9 : Nat) (n : Int) (p : Int) (J : Nat → Nat → Int) (B : Nat → Int → Int), cPx [] [me + 1] I A J B → (0 ≤ n ∧ n ≤ 1) → (0 ≤ p ∧ p ≤ 13) → (inr (A (me + 1)) → ∀ z, 0 ≤ z → z < p → B (me + 1) z = A (me + 1) z * s / 16) → (∀ z, p ≤ z → B (me + 1) z = A (me + 1) z) → (n = 1 → inr (A (me + 1)) → ∀ z, 0 ≤ z → z < p → (A (me + 1) z * s) % 16 = 0 ∧ gin (A (me + 1) z * s / 16)) → (n = 0 → inr (A (me + 1)) → ¬ fM (A (me + 1)) s) → 13 - p < (n9 : Int) → jt (jm G Y_FO_multiply (gR (d + 1)) (cQ b f0 sz (fun (rv : Option Value) (I2 : Nat → Nat → Int) (A2 : Nat → Int → Int) => ∃ y : Int, rv = some (.int (jI y)) ∧ (0 ≤ y ∧ y ≤ 1) ∧ cPx [] [me + 1] I A I2 A2 ∧ (inr (A (me + 1)) → (∀ z, 0 ≤ z → z < 13 → A2 (me + 1) z = A (me + 1) z * s / 16) ∧ (y = 1 → fM (A (me + 1)) s) ∧ (y = 0 → ¬ fM (A (me + 1)) s))))) 4 [(0, .ref (b + me)), (1, .int (jI s)), (2, .int (jI n)), (3, .int (jI p))] [] (cmf b f0 J B) sz 0 0 := by
  have fpme := form_parts me k_me k5me
  have glme := eLong k_me k5me
  intro n9
  induction n9 with
  | zero =>
    intro n p J B hJ n0 p0 hv hr hn1 hn0 hmeas
    exfalso
    omega
  | succ n9 ih =>
    intro n p J B hJ n0 p0 hv hr hn1 hn0 hmeas
    refine jt_iload_n d_FO_multiply_4 rfl ?_
    refine jt_bipush d_FO_multiply_5 (by omega) ?_
    refine jt_icmp_ge (t := 70) d_FO_multiply_7 rfl (by unfold jRi; omega) (by unfold jRi; omega) (fun c101 => ?_) (fun c101 => ?_)
    · skip
      refine jt_iload_n d_FO_multiply_70 rfl ?_
      exact cm_ret d_FO_multiply_71 rfl (jnz (by omega)) (⟨n, rfl, by omega, hJ, fun d9 => ⟨fun z a c => hv d9 z a (by omega), fun z1 z a c => hn1 z1 d9 z a (by omega), fun z0 => hn0 z0 d9⟩⟩)
    · skip
      refine jt_aload_n d_FO_multiply_10 rfl ?_
      refine cm_get (k := me) (v := .ref (b + (me + 1))) d_FO_multiply_11 FO_f11 k_me (cc_5 k5me) rfl ?_
      refine jt_iload_n d_FO_multiply_14 rfl ?_
      refine cm_ld1 (k := me + 1) (n := 13) (v := (B ((me + 1))) p) d_FO_multiply_15 fpme.2.2 fpme.1 fpme.2.1 (by omega) (by omega) (by omega) rfl ?_
      refine jt_topl (fun v102 ev102 => ?_)
      have bv102 : -9223372036854775808 ≤ v102 ∧ v102 ≤ 9223372036854775807 := by have q9 := hJ.2.1 (me + 1) p; rw [glme.1, glme.2] at q9; rw [ev102]; exact q9
      rw [hr p (by omega)] at ev102
      refine jt_iload_n d_FO_multiply_16 rfl ?_
      refine jt_i2l d_FO_multiply_17 (by unfold jRi; omega) ?_
      refine jt_lmul d_FO_multiply_18 ?_
      refine jt_topln (fun v103 bv103 ev103 => ?_)
      refine jt_lstore (L' := [(0, .ref (b + me)), (1, .int (jI s)), (2, .int (jI n)), (3, .int (jI p)), (4, .long (jL v103))]) d_FO_multiply_19 (Nat.le_of_ble_eq_true rfl) rfl ?_
      rw [ev102] at ev103
      refine jt_aload_n d_FO_multiply_21 rfl ?_
      refine cm_get (k := me) (v := .ref (b + (me + 1))) d_FO_multiply_22 FO_f11 k_me (cc_5 k5me) rfl ?_
      refine jt_iload_n d_FO_multiply_25 rfl ?_
      refine jt_lload d_FO_multiply_26 rfl ?_
      refine jt_iconst d_FO_multiply_28 ?_
      refine jt_lshr4 d_FO_multiply_29 (by unfold jRl; omega) ?_
      refine jt_topl (fun v104 ev104 => ?_)
      refine cm_st1 (k := me + 1) (n := 13) (v := v104) d_FO_multiply_30 fpme.2.2 fpme.1 fpme.2.1 (by omega) (by omega) (by omega) ?_
      refine cm_nmA (fun B105 eB105 => ?_)
      have p106 : cPx [] [me + 1] I A (J) B105 := by rw [eB105]; exact cPx.A (me + 1) _ hJ (Or.inl ctn1s) (by rw [glme.1, glme.2]; exact gju (fun z9 => by have q9 := hJ.2.1 (me + 1) z9; rw [glme.1, glme.2] at q9; exact q9) (show -9223372036854775808 ≤ v104 ∧ v104 ≤ 9223372036854775807 by omega))
      refine jt_iload_n d_FO_multiply_31 rfl ?_
      refine jt_if_eq (t := 62) d_FO_multiply_32 rfl (by unfold jRi; omega) (fun c107 => ?_) (fun c107 => ?_)
      · skip
        refine jt_iconst d_FO_multiply_62 ?_
        refine jt_istore_n (L' := [(0, .ref (b + me)), (1, .int (jI s)), (2, .int (jI 0)), (3, .int (jI p)), (4, .long (jL v103))]) d_FO_multiply_63 (Nat.le_of_ble_eq_true rfl) rfl ?_
        refine jt_iinc (L' := [(0, .ref (b + me)), (1, .int (jI s)), (2, .int (jI 0)), (3, .int (jI (p + 1))), (4, .long (jL v103))]) d_FO_multiply_64 rfl (Nat.le_of_ble_eq_true rfl) rfl ?_
        refine jt_goto (t := 4) d_FO_multiply_67 rfl ?_
        refine jt_sub (L' := [(0, .ref (b + me)), (1, .int (jI s)), (2, .int (jI 0)), (3, .int (jI (p + 1)))]) (fun _ h => List.mem_append_left [(4, Value.long (jL v103))] h) ?_
        exact ih 0 (p + 1) J B105 p106 (by omega) (by omega) (fun d9 z a c => by rcases Classical.em (z = p) with e9 | e9; exact (by rw [e9, (fo_st eB105).1]; have d8 := d9 p (by omega) (by omega); have d7 := mulb hs.1 hs.2 d8.1 d8.2; rw [Int.mul_comm s (A (me + 1) p)] at d7; omega); exact (by rw [(fo_st eB105).2 z e9]; exact hv d9 z a (by omega))) (fun z c => by rw [(fo_st eB105).2 z (by omega)]; exact hr z (by omega)) (fun z => absurd z (by omega)) (fun _ d9 z9 => by first | exact hn0 (by omega) d9 z9 | (have z8 := z9 p (by omega) (by omega); have d8 := d9 p (by omega) (by omega); have d7 := mulb hs.1 hs.2 d8.1 d8.2; rw [Int.mul_comm s (A (me + 1) p)] at d7; omega)) (by omega)
      · skip
        refine jt_lload d_FO_multiply_35 rfl ?_
        refine jt_ldc2 (z := 15) d_FO_multiply_37 FO_k24 ?_
        refine jt_land4 d_FO_multiply_40 ?_
        refine jt_topl (fun v108 ev108 => ?_)
        refine jt_lconst (z := 0) d_FO_multiply_41 (by decide) ?_
        refine jt_lif_ne (t := 62) d_FO_multiply_42 d_FO_multiply_43 rfl (by unfold jRl; omega) (by unfold jRl; omega) (fun c109 => ?_) (fun c109 => ?_)
        · skip
          refine jt_iconst d_FO_multiply_62 ?_
          refine jt_istore_n (L' := [(0, .ref (b + me)), (1, .int (jI s)), (2, .int (jI 0)), (3, .int (jI p)), (4, .long (jL v103))]) d_FO_multiply_63 (Nat.le_of_ble_eq_true rfl) rfl ?_
          refine jt_iinc (L' := [(0, .ref (b + me)), (1, .int (jI s)), (2, .int (jI 0)), (3, .int (jI (p + 1))), (4, .long (jL v103))]) d_FO_multiply_64 rfl (Nat.le_of_ble_eq_true rfl) rfl ?_
          refine jt_goto (t := 4) d_FO_multiply_67 rfl ?_
          refine jt_sub (L' := [(0, .ref (b + me)), (1, .int (jI s)), (2, .int (jI 0)), (3, .int (jI (p + 1)))]) (fun _ h => List.mem_append_left [(4, Value.long (jL v103))] h) ?_
          exact ih 0 (p + 1) J B105 p106 (by omega) (by omega) (fun d9 z a c => by rcases Classical.em (z = p) with e9 | e9; exact (by rw [e9, (fo_st eB105).1]; have d8 := d9 p (by omega) (by omega); have d7 := mulb hs.1 hs.2 d8.1 d8.2; rw [Int.mul_comm s (A (me + 1) p)] at d7; omega); exact (by rw [(fo_st eB105).2 z e9]; exact hv d9 z a (by omega))) (fun z c => by rw [(fo_st eB105).2 z (by omega)]; exact hr z (by omega)) (fun z => absurd z (by omega)) (fun _ d9 z9 => by first | exact hn0 (by omega) d9 z9 | (have z8 := z9 p (by omega) (by omega); have d8 := d9 p (by omega) (by omega); have d7 := mulb hs.1 hs.2 d8.1 d8.2; rw [Int.mul_comm s (A (me + 1) p)] at d7; omega)) (by omega)
        · skip
          refine jt_aload_n d_FO_multiply_46 rfl ?_
          refine cm_get (k := me) (v := .ref (b + (me + 1))) d_FO_multiply_47 FO_f11 k_me (cc_5 k5me) rfl ?_
          refine jt_iload_n d_FO_multiply_50 rfl ?_
          refine cm_ld1 (k := me + 1) (n := 13) (v := (B105 ((me + 1))) p) d_FO_multiply_51 fpme.2.2 fpme.1 fpme.2.1 (by omega) (by omega) (by omega) rfl ?_
          refine jt_topl (fun v110 ev110 => ?_)
          have bv110 : -9223372036854775808 ≤ v110 ∧ v110 ≤ 9223372036854775807 := by have q9 := p106.2.1 (me + 1) p; rw [glme.1, glme.2] at q9; rw [ev110]; exact q9
          rw [(fo_st eB105).1] at ev110
          refine cct_callS (Y := Y_FO_isNumber) (As := [.long (jL v110)]) (rest := []) d_FO_multiply_52 FO_c20 yk_FO_isNumber ys_FO_isNumber (Nat.le_of_ble_eq_true rfl) rfl rfl (Nat.le_of_ble_eq_true rfl) (v_FO_isNumber_x G _ b v110 J B105 p106.1 p106.2.1 (by omega)) (fun rvq111 Iq111 Aq111 hq111 => ?_)
          obtain ⟨yq111, rfl, ryq111, hIq111, hAq111, hxq111⟩ := hq111
          rw [hIq111, hAq111]
          by_cases gbq111 : yq111 = 1
          · skip
            obtain rfl : yq111 = 1 := by omega
            have hwq111 := hxq111.1 rfl
            show jt _ 55 [(0, .ref (b + me)), (1, .int (jI s)), (2, .int (jI n)), (3, .int (jI p)), (4, .long (jL v103))] [.int (jI 1)] (cmf b f0 J B105) _ _ _
            refine jt_if_eq (t := 62) d_FO_multiply_55 rfl (by unfold jRi; omega) (fun c112 => ?_) (fun c112 => ?_)
            · skip
              exfalso
              omega
            · skip
              refine jt_iconst d_FO_multiply_58 ?_
              refine jt_goto (t := 63) d_FO_multiply_59 rfl ?_
              refine jt_istore_n (L' := [(0, .ref (b + me)), (1, .int (jI s)), (2, .int (jI 1)), (3, .int (jI p)), (4, .long (jL v103))]) d_FO_multiply_63 (Nat.le_of_ble_eq_true rfl) rfl ?_
              refine jt_iinc (L' := [(0, .ref (b + me)), (1, .int (jI s)), (2, .int (jI 1)), (3, .int (jI (p + 1))), (4, .long (jL v103))]) d_FO_multiply_64 rfl (Nat.le_of_ble_eq_true rfl) rfl ?_
              refine jt_goto (t := 4) d_FO_multiply_67 rfl ?_
              refine jt_sub (L' := [(0, .ref (b + me)), (1, .int (jI s)), (2, .int (jI 1)), (3, .int (jI (p + 1)))]) (fun _ h => List.mem_append_left [(4, Value.long (jL v103))] h) ?_
              exact ih 1 (p + 1) J B105 p106 (by omega) (by omega) (fun d9 z a c => by rcases Classical.em (z = p) with e9 | e9; exact (by rw [e9, (fo_st eB105).1]; have d8 := d9 p (by omega) (by omega); have d7 := mulb hs.1 hs.2 d8.1 d8.2; rw [Int.mul_comm s (A (me + 1) p)] at d7; omega); exact (by rw [(fo_st eB105).2 z e9]; exact hv d9 z a (by omega))) (fun z c => by rw [(fo_st eB105).2 z (by omega)]; exact hr z (by omega)) (fun _ d9 z a c => by rcases Classical.em (z = p) with e9 | e9; exact (by rw [e9]; have d8 := d9 p (by omega) (by omega); have d7 := mulb hs.1 hs.2 d8.1 d8.2; rw [Int.mul_comm s (A (me + 1) p)] at d7; omega); exact hn1 (by omega) d9 z a (by omega)) (fun z => absurd z (by omega)) (by omega)
          · skip
            obtain rfl : yq111 = 0 := by omega
            have hwq111 := hxq111.2 rfl
            show jt _ 55 [(0, .ref (b + me)), (1, .int (jI s)), (2, .int (jI n)), (3, .int (jI p)), (4, .long (jL v103))] [.int (jI 0)] (cmf b f0 J B105) _ _ _
            refine jt_if_eq (t := 62) d_FO_multiply_55 rfl (by unfold jRi; omega) (fun c113 => ?_) (fun c113 => ?_)
            · skip
              refine jt_iconst d_FO_multiply_62 ?_
              refine jt_istore_n (L' := [(0, .ref (b + me)), (1, .int (jI s)), (2, .int (jI 0)), (3, .int (jI p)), (4, .long (jL v103))]) d_FO_multiply_63 (Nat.le_of_ble_eq_true rfl) rfl ?_
              refine jt_iinc (L' := [(0, .ref (b + me)), (1, .int (jI s)), (2, .int (jI 0)), (3, .int (jI (p + 1))), (4, .long (jL v103))]) d_FO_multiply_64 rfl (Nat.le_of_ble_eq_true rfl) rfl ?_
              refine jt_goto (t := 4) d_FO_multiply_67 rfl ?_
              refine jt_sub (L' := [(0, .ref (b + me)), (1, .int (jI s)), (2, .int (jI 0)), (3, .int (jI (p + 1)))]) (fun _ h => List.mem_append_left [(4, Value.long (jL v103))] h) ?_
              exact ih 0 (p + 1) J B105 p106 (by omega) (by omega) (fun d9 z a c => by rcases Classical.em (z = p) with e9 | e9; exact (by rw [e9, (fo_st eB105).1]; have d8 := d9 p (by omega) (by omega); have d7 := mulb hs.1 hs.2 d8.1 d8.2; rw [Int.mul_comm s (A (me + 1) p)] at d7; omega); exact (by rw [(fo_st eB105).2 z e9]; exact hv d9 z a (by omega))) (fun z c => by rw [(fo_st eB105).2 z (by omega)]; exact hr z (by omega)) (fun z => absurd z (by omega)) (fun _ d9 z9 => by first | exact hn0 (by omega) d9 z9 | (have z8 := z9 p (by omega) (by omega); have d8 := d9 p (by omega) (by omega); have d7 := mulb hs.1 hs.2 d8.1 d8.2; rw [Int.mul_comm s (A (me + 1) p)] at d7; omega)) (by omega)
            · skip
              exfalso
              omega
set_option maxRecDepth 100000 in
set_option maxHeartbeats 4000000 in
theorem v_FO_multiply_x (G : jG) (d b : Nat) (me : Nat) (s : Int) (I : Nat → Nat → Int) (A : Nat → Int → Int) (hI : cSI I) (hA : cSA A) (k_me : me < 472) (k5me : ck me = 5) (hs : -16000 ≤ s ∧ s ≤ 16000) : cct G Y_FO_multiply (d + 1) b [.ref (b + me), .int (jI s)] I A (fun (rv : Option Value) (I2 : Nat → Nat → Int) (A2 : Nat → Int → Int) => ∃ y : Int, rv = some (.int (jI y)) ∧ (0 ≤ y ∧ y ≤ 1) ∧ cPx [] [me + 1] I A I2 A2 ∧ (inr (A (me + 1)) → (∀ z, 0 ≤ z → z < 13 → A2 (me + 1) z = A (me + 1) z * s / 16) ∧ (y = 1 → fM (A (me + 1)) s) ∧ (y = 0 → ¬ fM (A (me + 1)) s))) := by
  refine cct_of (by decide) (Nat.le_of_ble_eq_true rfl) (fun f0 sz => ?_)
  show jt _ 0 [(0, .ref (b + me)), (1, .int (jI s))] [] _ _ _ _
  have fpme := form_parts me k_me k5me
  have glme := eLong k_me k5me
  have hz0 : cPx [] [me + 1] I A I A := cPx.refl hI hA
  refine jt_iconst d_FO_multiply_0 ?_
  refine jt_istore_n (L' := [(0, .ref (b + me)), (1, .int (jI s)), (2, .int (jI 1))]) d_FO_multiply_1 (Nat.le_of_ble_eq_true rfl) rfl ?_
  refine jt_iconst d_FO_multiply_2 ?_
  refine jt_istore_n (L' := [(0, .ref (b + me)), (1, .int (jI s)), (2, .int (jI 1)), (3, .int (jI 0))]) d_FO_multiply_3 (Nat.le_of_ble_eq_true rfl) rfl ?_
  exact l4_FO_multiply_xv G d b me s I A hI hA k_me k5me hs f0 sz  14 1 0 I A hz0 (by omega) (by omega) (fun _ z a c => by omega) (fun z _ => rfl) (fun _ _ z a c => by omega) (fun z => absurd z (by omega)) (by omega)
set_option maxRecDepth 100000 in
set_option maxHeartbeats 4000000 in
theorem l6_FO_setBetween_xv (G : jG) (d b : Nat) (me : Nat) (s : Int) (u : Nat) (o : Nat) (I : Nat → Nat → Int) (A : Nat → Int → Int) (hI : cSI I) (hA : cSA A) (k_me : me < 472) (k5me : ck me = 5) (k_u : u < 472) (k5u : ck u = 5) (k_o : o < 472) (k5o : ck o = 5) (hs : -16000 ≤ s ∧ s ≤ 16000) (hne : me ≠ o) (hnu : me ≠ u) (f0 : jF) (sz : Nat)   : ∀ (n9 : Nat) (n : Int) (p : Int) (J : Nat → Nat → Int) (B : Nat → Int → Int), cPx [] [me + 1] I A J B → (0 ≤ n ∧ n ≤ 1) → (0 ≤ p ∧ p ≤ 13) → ((inr (A (u + 1)) ∧ inr (A (o + 1))) → ∀ z, 0 ≤ z → z < p → B (me + 1) z = A (u + 1) z + (A (o + 1) z - A (u + 1) z) * s / 16) → (n = 1 → (inr (A (u + 1)) ∧ inr (A (o + 1))) → ∀ z, 0 ≤ z → z < p → ((A (o + 1) z - A (u + 1) z) * s) % 16 = 0 ∧ gin (A (u + 1) z + (A (o + 1) z - A (u + 1) z) * s / 16)) → (n = 0 → (inr (A (u + 1)) ∧ inr (A (o + 1))) → ¬ fB s (A (u + 1)) (A (o + 1))) → 13 - p < (n9 : Int) → jt (jm G Y_FO_setBetween (gR (d + 1)) (cQ b f0 sz (fun (rv : Option Value) (I2 : Nat → Nat → Int) (A2 : Nat → Int → Int) => ∃ y : Int, rv = some (.int (jI y)) ∧ (0 ≤ y ∧ y ≤ 1) ∧ cPx [] [me + 1] I A I2 A2 ∧ ((inr (A (u + 1)) ∧ inr (A (o + 1))) → (∀ z, 0 ≤ z → z < 13 → A2 (me + 1) z = A (u + 1) z + (A (o + 1) z - A (u + 1) z) * s / 16) ∧ (y = 1 → fB s (A (u + 1)) (A (o + 1))) ∧ (y = 0 → ¬ fB s (A (u + 1)) (A (o + 1))))))) 6 [(0, .ref (b + me)), (1, .int (jI s)), (2, .ref (b + u)), (3, .ref (b + o)), (4, .int (jI n)), (5, .int (jI p))] [] (cmf b f0 J B) sz 0 0 := by
  have fpme := form_parts me k_me k5me
  have glme := eLong k_me k5me
  have fpu := form_parts u k_u k5u
  have glu := eLong k_u k5u
  have fpo := form_parts o k_o k5o
  have glo := eLong k_o k5o
  intro n9
  induction n9 with
  | zero =>
    intro n p J B hJ n0 p0 hv hn1 hn0 hmeas
    have fo : B (o + 1) = A (o + 1) := hJ.2.2.2 (o + 1) (ctn1 (by omega)) trivial
    have fu : B (u + 1) = A (u + 1) := hJ.2.2.2 (u + 1) (ctn1 (by omega)) trivial
    exfalso
    omega
  | succ n9 ih =>
    intro n p J B hJ n0 p0 hv hn1 hn0 hmeas
    have fo : B (o + 1) = A (o + 1) := hJ.2.2.2 (o + 1) (ctn1 (by omega)) trivial
    have fu : B (u + 1) = A (u + 1) := hJ.2.2.2 (u + 1) (ctn1 (by omega)) trivial
    refine jt_iload d_FO_setBetween_6 rfl ?_
    refine jt_bipush d_FO_setBetween_8 (by omega) ?_
    refine jt_icmp_ge (t := 98) d_FO_setBetween_10 rfl (by unfold jRi; omega) (by unfold jRi; omega) (fun c101 => ?_) (fun c101 => ?_)
    · skip
      refine jt_iload d_FO_setBetween_98 rfl ?_
      exact cm_ret d_FO_setBetween_100 rfl (jnz (by omega)) (⟨n, rfl, by omega, hJ, fun d9 => ⟨fun z a c => hv d9 z a (by omega), fun z1 z a c => hn1 z1 d9 z a (by omega), fun z0 => hn0 z0 d9⟩⟩)
    · skip
      refine jt_ldc2 (z := 16) d_FO_setBetween_13 FO_k26 ?_
      refine jt_aload_n d_FO_setBetween_16 rfl ?_
      refine cm_get (k := u) (v := .ref (b + (u + 1))) d_FO_setBetween_17 FO_f11 k_u (cc_5 k5u) rfl ?_
      refine jt_iload d_FO_setBetween_20 rfl ?_
      refine cm_ld1 (k := u + 1) (n := 13) (v := (B ((u + 1))) p) d_FO_setBetween_22 fpu.2.2 fpu.1 fpu.2.1 (by omega) (by omega) (by omega) rfl ?_
      refine jt_topl (fun v102 ev102 => ?_)
      have bv102 : -9223372036854775808 ≤ v102 ∧ v102 ≤ 9223372036854775807 := by have q9 := hJ.2.1 (u + 1) p; rw [glu.1, glu.2] at q9; rw [ev102]; exact q9
      rw [fu] at ev102
      refine jt_lmul d_FO_setBetween_23 ?_
      refine jt_topln (fun v103 bv103 ev103 => ?_)
      refine jt_iload_n d_FO_setBetween_24 rfl ?_
      refine jt_i2l d_FO_setBetween_25 (by unfold jRi; omega) ?_
      refine jt_aload_n d_FO_setBetween_26 rfl ?_
      refine cm_get (k := o) (v := .ref (b + (o + 1))) d_FO_setBetween_27 FO_f11 k_o (cc_5 k5o) rfl ?_
      refine jt_iload d_FO_setBetween_30 rfl ?_
      refine cm_ld1 (k := o + 1) (n := 13) (v := (B ((o + 1))) p) d_FO_setBetween_32 fpo.2.2 fpo.1 fpo.2.1 (by omega) (by omega) (by omega) rfl ?_
      refine jt_topl (fun v104 ev104 => ?_)
      have bv104 : -9223372036854775808 ≤ v104 ∧ v104 ≤ 9223372036854775807 := by have q9 := hJ.2.1 (o + 1) p; rw [glo.1, glo.2] at q9; rw [ev104]; exact q9
      rw [fo] at ev104
      refine jt_aload_n d_FO_setBetween_33 rfl ?_
      refine cm_get (k := u) (v := .ref (b + (u + 1))) d_FO_setBetween_34 FO_f11 k_u (cc_5 k5u) rfl ?_
      refine jt_iload d_FO_setBetween_37 rfl ?_
      refine cm_ld1 (k := u + 1) (n := 13) (v := (B ((u + 1))) p) d_FO_setBetween_39 fpu.2.2 fpu.1 fpu.2.1 (by omega) (by omega) (by omega) rfl ?_
      refine jt_topl (fun v105 ev105 => ?_)
      have bv105 : -9223372036854775808 ≤ v105 ∧ v105 ≤ 9223372036854775807 := by have q9 := hJ.2.1 (u + 1) p; rw [glu.1, glu.2] at q9; rw [ev105]; exact q9
      rw [fu] at ev105
      refine jt_lsub d_FO_setBetween_40 ?_
      refine jt_topln (fun v106 bv106 ev106 => ?_)
      refine jt_lmul d_FO_setBetween_41 ?_
      refine jt_topln (fun v107 bv107 ev107 => ?_)
      refine jt_ladd d_FO_setBetween_42 ?_
      refine jt_topln (fun v108 bv108 ev108 => ?_)
      refine jt_lstore (L' := [(0, .ref (b + me)), (1, .int (jI s)), (2, .ref (b + u)), (3, .ref (b + o)), (4, .int (jI n)), (5, .int (jI p)), (6, .long (jL v108))]) d_FO_setBetween_43 (Nat.le_of_ble_eq_true rfl) rfl ?_
      have dd : gin (A (u + 1) p) → gin (A (o + 1) p) → v108 = 16 * A (u + 1) p + (A (o + 1) p - A (u + 1) p) * s := by
        intro d1 d2
        have d3 : v106 = A (o + 1) p - A (u + 1) p := by omega
        rw [d3] at ev107
        have d4 := mulb (s := s) (x := A (o + 1) p - A (u + 1) p) (C := 137438953472) hs.1 hs.2 (by omega) (by omega)
        rw [Int.mul_comm (A (o + 1) p - A (u + 1) p) s]
        omega
      refine jt_aload_n d_FO_setBetween_45 rfl ?_
      refine cm_get (k := me) (v := .ref (b + (me + 1))) d_FO_setBetween_46 FO_f11 k_me (cc_5 k5me) rfl ?_
      refine jt_iload d_FO_setBetween_49 rfl ?_
      refine jt_lload d_FO_setBetween_51 rfl ?_
      refine jt_iconst d_FO_setBetween_53 ?_
      refine jt_lshr4 d_FO_setBetween_54 (by unfold jRl; omega) ?_
      refine jt_topl (fun v109 ev109 => ?_)
      refine cm_st1 (k := me + 1) (n := 13) (v := v109) d_FO_setBetween_55 fpme.2.2 fpme.1 fpme.2.1 (by omega) (by omega) (by omega) ?_
      refine cm_nmA (fun B110 eB110 => ?_)
      have p111 : cPx [] [me + 1] I A (J) B110 := by rw [eB110]; exact cPx.A (me + 1) _ hJ (Or.inl ctn1s) (by rw [glme.1, glme.2]; exact gju (fun z9 => by have q9 := hJ.2.1 (me + 1) z9; rw [glme.1, glme.2] at q9; exact q9) (show -9223372036854775808 ≤ v109 ∧ v109 ≤ 9223372036854775807 by omega))
      refine jt_iload d_FO_setBetween_56 rfl ?_
      refine jt_if_eq (t := 89) d_FO_setBetween_58 rfl (by unfold jRi; omega) (fun c112 => ?_) (fun c112 => ?_)
      · skip
        refine jt_iconst d_FO_setBetween_89 ?_
        refine jt_istore (L' := [(0, .ref (b + me)), (1, .int (jI s)), (2, .ref (b + u)), (3, .ref (b + o)), (4, .int (jI 0)), (5, .int (jI p)), (6, .long (jL v108))]) d_FO_setBetween_90 (Nat.le_of_ble_eq_true rfl) rfl ?_
        refine jt_iinc (L' := [(0, .ref (b + me)), (1, .int (jI s)), (2, .ref (b + u)), (3, .ref (b + o)), (4, .int (jI 0)), (5, .int (jI (p + 1))), (6, .long (jL v108))]) d_FO_setBetween_92 rfl (Nat.le_of_ble_eq_true rfl) rfl ?_
        refine jt_goto (t := 6) d_FO_setBetween_95 rfl ?_
        refine jt_sub (L' := [(0, .ref (b + me)), (1, .int (jI s)), (2, .ref (b + u)), (3, .ref (b + o)), (4, .int (jI 0)), (5, .int (jI (p + 1)))]) (fun _ h => List.mem_append_left [(6, Value.long (jL v108))] h) ?_
        exact ih 0 (p + 1) J B110 p111 (by omega) (by omega) (fun d9 z a c => by rcases Classical.em (z = p) with e9 | e9; exact (by rw [e9, (fo_st eB110).1]; have d8 := dd (d9.1 p (by omega) (by omega)) (d9.2 p (by omega) (by omega)); have d6 := d9.1 p (by omega) (by omega); omega); exact (by rw [(fo_st eB110).2 z e9]; exact hv d9 z a (by omega))) (fun z => absurd z (by omega)) (fun _ d9 z9 => by first | exact hn0 (by omega) d9 z9 | (have z8 := z9 p (by omega) (by omega); have d8 := dd (d9.1 p (by omega) (by omega)) (d9.2 p (by omega) (by omega)); have d6 := d9.1 p (by omega) (by omega); omega)) (by omega)
      · skip
        refine jt_lload d_FO_setBetween_61 rfl ?_
        refine jt_ldc2 (z := 15) d_FO_setBetween_63 FO_k24 ?_
        refine jt_land4 d_FO_setBetween_66 ?_
        refine jt_topl (fun v113 ev113 => ?_)
        refine jt_lconst (z := 0) d_FO_setBetween_67 (by decide) ?_
        refine jt_lif_ne (t := 89) d_FO_setBetween_68 d_FO_setBetween_69 rfl (by unfold jRl; omega) (by unfold jRl; omega) (fun c114 => ?_) (fun c114 => ?_)
        · skip
          refine jt_iconst d_FO_setBetween_89 ?_
          refine jt_istore (L' := [(0, .ref (b + me)), (1, .int (jI s)), (2, .ref (b + u)), (3, .ref (b + o)), (4, .int (jI 0)), (5, .int (jI p)), (6, .long (jL v108))]) d_FO_setBetween_90 (Nat.le_of_ble_eq_true rfl) rfl ?_
          refine jt_iinc (L' := [(0, .ref (b + me)), (1, .int (jI s)), (2, .ref (b + u)), (3, .ref (b + o)), (4, .int (jI 0)), (5, .int (jI (p + 1))), (6, .long (jL v108))]) d_FO_setBetween_92 rfl (Nat.le_of_ble_eq_true rfl) rfl ?_
          refine jt_goto (t := 6) d_FO_setBetween_95 rfl ?_
          refine jt_sub (L' := [(0, .ref (b + me)), (1, .int (jI s)), (2, .ref (b + u)), (3, .ref (b + o)), (4, .int (jI 0)), (5, .int (jI (p + 1)))]) (fun _ h => List.mem_append_left [(6, Value.long (jL v108))] h) ?_
          exact ih 0 (p + 1) J B110 p111 (by omega) (by omega) (fun d9 z a c => by rcases Classical.em (z = p) with e9 | e9; exact (by rw [e9, (fo_st eB110).1]; have d8 := dd (d9.1 p (by omega) (by omega)) (d9.2 p (by omega) (by omega)); have d6 := d9.1 p (by omega) (by omega); omega); exact (by rw [(fo_st eB110).2 z e9]; exact hv d9 z a (by omega))) (fun z => absurd z (by omega)) (fun _ d9 z9 => by first | exact hn0 (by omega) d9 z9 | (have z8 := z9 p (by omega) (by omega); have d8 := dd (d9.1 p (by omega) (by omega)) (d9.2 p (by omega) (by omega)); have d6 := d9.1 p (by omega) (by omega); omega)) (by omega)
        · skip
          refine jt_aload_n d_FO_setBetween_72 rfl ?_
          refine cm_get (k := me) (v := .ref (b + (me + 1))) d_FO_setBetween_73 FO_f11 k_me (cc_5 k5me) rfl ?_
          refine jt_iload d_FO_setBetween_76 rfl ?_
          refine cm_ld1 (k := me + 1) (n := 13) (v := (B110 ((me + 1))) p) d_FO_setBetween_78 fpme.2.2 fpme.1 fpme.2.1 (by omega) (by omega) (by omega) rfl ?_
          refine jt_topl (fun v115 ev115 => ?_)
          have bv115 : -9223372036854775808 ≤ v115 ∧ v115 ≤ 9223372036854775807 := by have q9 := p111.2.1 (me + 1) p; rw [glme.1, glme.2] at q9; rw [ev115]; exact q9
          rw [(fo_st eB110).1] at ev115
          refine cct_callS (Y := Y_FO_isNumber) (As := [.long (jL v115)]) (rest := []) d_FO_setBetween_79 FO_c20 yk_FO_isNumber ys_FO_isNumber (Nat.le_of_ble_eq_true rfl) rfl rfl (Nat.le_of_ble_eq_true rfl) (v_FO_isNumber_x G _ b v115 J B110 p111.1 p111.2.1 (by omega)) (fun rvq116 Iq116 Aq116 hq116 => ?_)
          obtain ⟨yq116, rfl, ryq116, hIq116, hAq116, hxq116⟩ := hq116
          rw [hIq116, hAq116]
          by_cases gbq116 : yq116 = 1
          · skip
            obtain rfl : yq116 = 1 := by omega
            have hwq116 := hxq116.1 rfl
            show jt _ 82 [(0, .ref (b + me)), (1, .int (jI s)), (2, .ref (b + u)), (3, .ref (b + o)), (4, .int (jI n)), (5, .int (jI p)), (6, .long (jL v108))] [.int (jI 1)] (cmf b f0 J B110) _ _ _
            refine jt_if_eq (t := 89) d_FO_setBetween_82 rfl (by unfold jRi; omega) (fun c117 => ?_) (fun c117 => ?_)
            · skip
              exfalso
              omega
            · skip
              refine jt_iconst d_FO_setBetween_85 ?_
              refine jt_goto (t := 90) d_FO_setBetween_86 rfl ?_
              refine jt_istore (L' := [(0, .ref (b + me)), (1, .int (jI s)), (2, .ref (b + u)), (3, .ref (b + o)), (4, .int (jI 1)), (5, .int (jI p)), (6, .long (jL v108))]) d_FO_setBetween_90 (Nat.le_of_ble_eq_true rfl) rfl ?_
              refine jt_iinc (L' := [(0, .ref (b + me)), (1, .int (jI s)), (2, .ref (b + u)), (3, .ref (b + o)), (4, .int (jI 1)), (5, .int (jI (p + 1))), (6, .long (jL v108))]) d_FO_setBetween_92 rfl (Nat.le_of_ble_eq_true rfl) rfl ?_
              refine jt_goto (t := 6) d_FO_setBetween_95 rfl ?_
              refine jt_sub (L' := [(0, .ref (b + me)), (1, .int (jI s)), (2, .ref (b + u)), (3, .ref (b + o)), (4, .int (jI 1)), (5, .int (jI (p + 1)))]) (fun _ h => List.mem_append_left [(6, Value.long (jL v108))] h) ?_
              exact ih 1 (p + 1) J B110 p111 (by omega) (by omega) (fun d9 z a c => by rcases Classical.em (z = p) with e9 | e9; exact (by rw [e9, (fo_st eB110).1]; have d8 := dd (d9.1 p (by omega) (by omega)) (d9.2 p (by omega) (by omega)); have d6 := d9.1 p (by omega) (by omega); omega); exact (by rw [(fo_st eB110).2 z e9]; exact hv d9 z a (by omega))) (fun _ d9 z a c => by rcases Classical.em (z = p) with e9 | e9; exact (by rw [e9]; have d8 := dd (d9.1 p (by omega) (by omega)) (d9.2 p (by omega) (by omega)); have d6 := d9.1 p (by omega) (by omega); omega); exact hn1 (by omega) d9 z a (by omega)) (fun z => absurd z (by omega)) (by omega)
          · skip
            obtain rfl : yq116 = 0 := by omega
            have hwq116 := hxq116.2 rfl
            show jt _ 82 [(0, .ref (b + me)), (1, .int (jI s)), (2, .ref (b + u)), (3, .ref (b + o)), (4, .int (jI n)), (5, .int (jI p)), (6, .long (jL v108))] [.int (jI 0)] (cmf b f0 J B110) _ _ _
            refine jt_if_eq (t := 89) d_FO_setBetween_82 rfl (by unfold jRi; omega) (fun c118 => ?_) (fun c118 => ?_)
            · skip
              refine jt_iconst d_FO_setBetween_89 ?_
              refine jt_istore (L' := [(0, .ref (b + me)), (1, .int (jI s)), (2, .ref (b + u)), (3, .ref (b + o)), (4, .int (jI 0)), (5, .int (jI p)), (6, .long (jL v108))]) d_FO_setBetween_90 (Nat.le_of_ble_eq_true rfl) rfl ?_
              refine jt_iinc (L' := [(0, .ref (b + me)), (1, .int (jI s)), (2, .ref (b + u)), (3, .ref (b + o)), (4, .int (jI 0)), (5, .int (jI (p + 1))), (6, .long (jL v108))]) d_FO_setBetween_92 rfl (Nat.le_of_ble_eq_true rfl) rfl ?_
              refine jt_goto (t := 6) d_FO_setBetween_95 rfl ?_
              refine jt_sub (L' := [(0, .ref (b + me)), (1, .int (jI s)), (2, .ref (b + u)), (3, .ref (b + o)), (4, .int (jI 0)), (5, .int (jI (p + 1)))]) (fun _ h => List.mem_append_left [(6, Value.long (jL v108))] h) ?_
              exact ih 0 (p + 1) J B110 p111 (by omega) (by omega) (fun d9 z a c => by rcases Classical.em (z = p) with e9 | e9; exact (by rw [e9, (fo_st eB110).1]; have d8 := dd (d9.1 p (by omega) (by omega)) (d9.2 p (by omega) (by omega)); have d6 := d9.1 p (by omega) (by omega); omega); exact (by rw [(fo_st eB110).2 z e9]; exact hv d9 z a (by omega))) (fun z => absurd z (by omega)) (fun _ d9 z9 => by first | exact hn0 (by omega) d9 z9 | (have z8 := z9 p (by omega) (by omega); have d8 := dd (d9.1 p (by omega) (by omega)) (d9.2 p (by omega) (by omega)); have d6 := d9.1 p (by omega) (by omega); omega)) (by omega)
            · skip
              exfalso
              omega
set_option maxRecDepth 100000 in
set_option maxHeartbeats 4000000 in
theorem v_FO_setBetween_x (G : jG) (d b : Nat) (me : Nat) (s : Int) (u : Nat) (o : Nat) (I : Nat → Nat → Int) (A : Nat → Int → Int) (hI : cSI I) (hA : cSA A) (k_me : me < 472) (k5me : ck me = 5) (k_u : u < 472) (k5u : ck u = 5) (k_o : o < 472) (k5o : ck o = 5) (hs : -16000 ≤ s ∧ s ≤ 16000) (hne : me ≠ o) (hnu : me ≠ u) : cct G Y_FO_setBetween (d + 1) b [.ref (b + me), .int (jI s), .ref (b + u), .ref (b + o)] I A (fun (rv : Option Value) (I2 : Nat → Nat → Int) (A2 : Nat → Int → Int) => ∃ y : Int, rv = some (.int (jI y)) ∧ (0 ≤ y ∧ y ≤ 1) ∧ cPx [] [me + 1] I A I2 A2 ∧ ((inr (A (u + 1)) ∧ inr (A (o + 1))) → (∀ z, 0 ≤ z → z < 13 → A2 (me + 1) z = A (u + 1) z + (A (o + 1) z - A (u + 1) z) * s / 16) ∧ (y = 1 → fB s (A (u + 1)) (A (o + 1))) ∧ (y = 0 → ¬ fB s (A (u + 1)) (A (o + 1))))) := by
  refine cct_of (by decide) (Nat.le_of_ble_eq_true rfl) (fun f0 sz => ?_)
  show jt _ 0 [(0, .ref (b + me)), (1, .int (jI s)), (2, .ref (b + u)), (3, .ref (b + o))] [] _ _ _ _
  have fpme := form_parts me k_me k5me
  have glme := eLong k_me k5me
  have fpu := form_parts u k_u k5u
  have glu := eLong k_u k5u
  have fpo := form_parts o k_o k5o
  have glo := eLong k_o k5o
  have hz0 : cPx [] [me + 1] I A I A := cPx.refl hI hA
  refine jt_iconst d_FO_setBetween_0 ?_
  refine jt_istore (L' := [(0, .ref (b + me)), (1, .int (jI s)), (2, .ref (b + u)), (3, .ref (b + o)), (4, .int (jI 1))]) d_FO_setBetween_1 (Nat.le_of_ble_eq_true rfl) rfl ?_
  refine jt_iconst d_FO_setBetween_3 ?_
  refine jt_istore (L' := [(0, .ref (b + me)), (1, .int (jI s)), (2, .ref (b + u)), (3, .ref (b + o)), (4, .int (jI 1)), (5, .int (jI 0))]) d_FO_setBetween_4 (Nat.le_of_ble_eq_true rfl) rfl ?_
  exact l6_FO_setBetween_xv G d b me s u o I A hI hA k_me k5me k_u k5u k_o k5o hs hne hnu f0 sz  14 1 0 I A hz0 (by omega) (by omega) (fun _ z a c => by omega) (fun _ _ z a c => by omega) (fun z => absurd z (by omega)) (by omega)

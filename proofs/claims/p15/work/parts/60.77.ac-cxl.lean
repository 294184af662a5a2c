set_option maxRecDepth 100000 in
set_option maxHeartbeats 4000000 in
theorem l4_PI_blackPoints_xv (G : jG) (d b : Nat)  (I : Nat → Nat → Int) (A : Nat → Int → Int) (hI : cSI I) (hA : cSA A) (f0 : jF) (sz : Nat)   : ∀ (n9 : Nat) (n : Int) (p : Int) (J : Nat → Nat → Int) (B : Nat → Int → Int), cPx [] [] I A J B → (0 ≤ p ∧ p ≤ 768) → (0 ≤ n ∧ n ≤ p) → (n = cnN (A 469) p.toNat) → (J = I) → (B = A) → 768 - p < (n9 : Int) → jt (jm G Y_PI_blackPoints (gR d) (cQ b f0 sz (fun (rv : Option Value) (I2 : Nat → Nat → Int) (A2 : Nat → Int → Int) => ∃ y : Int, rv = some (.int (jI y)) ∧ (-2147483648 ≤ y ∧ y ≤ 2147483647) ∧ I2 = I ∧ A2 = A ∧ y = cnN (A 469) 768))) 4 [(0, .ref (b + 468)), (1, .int (jI n)), (2, .int (jI p))] [] (cmf b f0 J B) sz 0 0 := by
  intro n9
  induction n9 with
  | zero =>
    intro n p J B hJ p0 n0 hn eJ eB hmeas
    exfalso
    omega
  | succ n9 ih =>
    intro n p J B hJ p0 n0 hn eJ eB hmeas
    refine jt_iload_n d_PI_blackPoints_4 rfl ?_
    refine jt_aload_n d_PI_blackPoints_5 rfl ?_
    refine cm_get (k := 468) (v := .ref (b + 469)) d_PI_blackPoints_6 PI_f9 (by decide) cc_7 rfl ?_
    refine cm_len (k := 469) (n := 768) d_PI_blackPoints_9 jTy_2 (by decide) (cc_10 rfl rfl) ?_
    refine jt_icmp_ge (t := 31) d_PI_blackPoints_10 rfl (by unfold jRi; omega) (by unfold jRi; omega) (fun c101 => ?_) (fun c101 => ?_)
    · skip
      refine jt_iload_n d_PI_blackPoints_31 rfl ?_
      exact cm_ret d_PI_blackPoints_32 rfl rfl (⟨n, rfl, by omega, eJ, eB, by rw [hn, show p.toNat = 768 by omega]⟩)
    · skip
      refine jt_aload_n d_PI_blackPoints_13 rfl ?_
      refine cm_get (k := 468) (v := .ref (b + 469)) d_PI_blackPoints_14 PI_f9 (by decide) cc_7 rfl ?_
      refine jt_iload_n d_PI_blackPoints_17 rfl ?_
      refine cm_ld2 (k := 469) (n := 768) (v := (B 469) p) d_PI_blackPoints_18 (by decide) rfl rfl (by omega) (by omega) (by omega) rfl ?_
      refine jt_topi (fun v102 ev102 => ?_)
      have bv102 : 0 ≤ v102 ∧ v102 ≤ 1 := by rw [ev102]; exact hJ.2.1 469 p
      rw [eB] at ev102
      refine jt_if_eq (t := 25) d_PI_blackPoints_19 rfl (by unfold jRi; omega) (fun c103 => ?_) (fun c103 => ?_)
      · skip
        refine jt_iinc (L' := [(0, .ref (b + 468)), (1, .int (jI n)), (2, .int (jI (p + 1)))]) d_PI_blackPoints_25 rfl (Nat.le_of_ble_eq_true rfl) rfl ?_
        refine jt_goto (t := 4) d_PI_blackPoints_28 rfl ?_
        exact ih n (p + 1) J B hJ (by omega) (by omega) (by rw [show (p + 1).toNat = p.toNat + 1 by omega, cnN_w (show A 469 ((p.toNat : Nat) : Int) = 0 by rw [show ((p.toNat : Nat) : Int) = p by omega]; omega)]; exact hn) eJ eB (by omega)
      · skip
        refine jt_iinc (L' := [(0, .ref (b + 468)), (1, .int (jI (n + 1))), (2, .int (jI p))]) d_PI_blackPoints_22 rfl (Nat.le_of_ble_eq_true rfl) rfl ?_
        refine jt_iinc (L' := [(0, .ref (b + 468)), (1, .int (jI (n + 1))), (2, .int (jI (p + 1)))]) d_PI_blackPoints_25 rfl (Nat.le_of_ble_eq_true rfl) rfl ?_
        refine jt_goto (t := 4) d_PI_blackPoints_28 rfl ?_
        exact ih (n + 1) (p + 1) J B hJ (by omega) (by omega) (by rw [show (p + 1).toNat = p.toNat + 1 by omega, cnN_b (show ¬ A 469 ((p.toNat : Nat) : Int) = 0 by rw [show ((p.toNat : Nat) : Int) = p by omega]; omega), ← hn]) eJ eB (by omega)
set_option maxRecDepth 100000 in
set_option maxHeartbeats 4000000 in
theorem v_PI_blackPoints_x (G : jG) (d b : Nat)  (I : Nat → Nat → Int) (A : Nat → Int → Int) (hI : cSI I) (hA : cSA A) : cct G Y_PI_blackPoints d b [.ref (b + 468)] I A (fun (rv : Option Value) (I2 : Nat → Nat → Int) (A2 : Nat → Int → Int) => ∃ y : Int, rv = some (.int (jI y)) ∧ (-2147483648 ≤ y ∧ y ≤ 2147483647) ∧ I2 = I ∧ A2 = A ∧ y = cnN (A 469) 768) := by
  refine cct_of (by decide) (Nat.le_of_ble_eq_true rfl) (fun f0 sz => ?_)
  show jt _ 0 [(0, .ref (b + 468))] [] _ _ _ _
  have hz0 : cPx [] [] I A I A := cPx.refl hI hA
  refine jt_iconst d_PI_blackPoints_0 ?_
  refine jt_istore_n (L' := [(0, .ref (b + 468)), (1, .int (jI 0))]) d_PI_blackPoints_1 (Nat.le_of_ble_eq_true rfl) rfl ?_
  refine jt_iconst d_PI_blackPoints_2 ?_
  refine jt_istore_n (L' := [(0, .ref (b + 468)), (1, .int (jI 0)), (2, .int (jI 0))]) d_PI_blackPoints_3 (Nat.le_of_ble_eq_true rfl) rfl ?_
  exact l4_PI_blackPoints_xv G d b  I A hI hA f0 sz  769 0 0 I A hz0 (by omega) (by omega) (by rfl) rfl rfl (by omega)
set_option maxRecDepth 100000 in
set_option maxHeartbeats 4000000 in
theorem l6_PI_edge_xv (G : jG) (d b : Nat) (c : Int) (g : Int) (I : Nat → Nat → Int) (A : Nat → Int → Int) (hI : cSI I) (hA : cSA A) (hc : 0 ≤ c ∧ c ≤ 1) (hg : 0 ≤ g ∧ g ≤ 1) (f0 : jF) (sz : Nat)   : ∀ (n9 : Nat) (n : Int) (p : Int) (J : Nat → Nat → Int) (B : Nat → Int → Int), cPx [] [] I A J B → (0 ≤ p ∧ p ≤ 768) → (-40 ≤ n ∧ n ≤ 768) → (n = edN c g (A 469) p.toNat) → (J = I) → (B = A) → 768 - p < (n9 : Int) → jt (jm G Y_PI_edge (gR d) (cQ b f0 sz (fun (rv : Option Value) (I2 : Nat → Nat → Int) (A2 : Nat → Int → Int) => ∃ y : Int, rv = some (.int (jI y)) ∧ (-2147483648 ≤ y ∧ y ≤ 2147483647) ∧ I2 = I ∧ A2 = A ∧ y = edN c g (A 469) 768))) 6 [(0, .ref (b + 468)), (1, .int (jI c)), (2, .int (jI g)), (3, .int (jI n)), (4, .int (jI p))] [] (cmf b f0 J B) sz 0 0 := by
  intro n9
  induction n9 with
  | zero =>
    intro n p J B hJ p0 n0 hn eJ eB hmeas
    have tn := fun (q0 : 0 ≤ p) => Int.tmod_nonneg 32 q0
    replace tn := tn p0.1
    exfalso
    omega
  | succ n9 ih =>
    intro n p J B hJ p0 n0 hn eJ eB hmeas
    have tn := fun (q0 : 0 ≤ p) => Int.tmod_nonneg 32 q0
    replace tn := tn p0.1
    refine jt_iload d_PI_edge_6 rfl ?_
    refine jt_aload_n d_PI_edge_8 rfl ?_
    refine cm_get (k := 468) (v := .ref (b + 469)) d_PI_edge_9 PI_f9 (by decide) cc_7 rfl ?_
    refine cm_len (k := 469) (n := 768) d_PI_edge_12 jTy_2 (by decide) (cc_10 rfl rfl) ?_
    refine jt_icmp_ge (t := 79) d_PI_edge_13 rfl (by unfold jRi; omega) (by unfold jRi; omega) (fun c101 => ?_) (fun c101 => ?_)
    · skip
      refine jt_iload_n d_PI_edge_79 rfl ?_
      exact cm_ret d_PI_edge_80 rfl rfl (⟨n, rfl, by omega, eJ, eB, by rw [hn, show p.toNat = 768 by omega]⟩)
    · skip
      refine jt_iload_n d_PI_edge_16 rfl ?_
      refine jt_if_eq (t := 28) d_PI_edge_17 rfl (by unfold jRi; omega) (fun c102 => ?_) (fun c102 => ?_)
      · skip
        refine jt_iload d_PI_edge_28 rfl ?_
        refine jt_bipush d_PI_edge_30 (by omega) ?_
        refine jt_idiv d_PI_edge_32 (by unfold jRi; omega) (by unfold jRi; omega) (by omega) ?_
        have td103 := gtd p 32 (by omega)
        refine jt_topi (fun v104 ev104 => ?_)
        refine jt_istore (L' := [(0, .ref (b + 468)), (1, .int (jI c)), (2, .int (jI g)), (3, .int (jI n)), (4, .int (jI p)), (5, .int (jI v104))]) d_PI_edge_33 (Nat.le_of_ble_eq_true rfl) rfl ?_
        have he9 : edH c ((p.toNat : Nat) : Int) = v104 := by rw [show ((p.toNat : Nat) : Int) = p by omega]; unfold edH; split <;> omega
        refine jt_aload_n d_PI_edge_35 rfl ?_
        refine cm_get (k := 468) (v := .ref (b + 469)) d_PI_edge_36 PI_f9 (by decide) cc_7 rfl ?_
        refine jt_iload d_PI_edge_39 rfl ?_
        refine cm_ld2 (k := 469) (n := 768) (v := (B 469) p) d_PI_edge_41 (by decide) rfl rfl (by omega) (by omega) (by omega) rfl ?_
        refine jt_topi (fun v105 ev105 => ?_)
        have bv105 : 0 ≤ v105 ∧ v105 ≤ 1 := by rw [ev105]; exact hJ.2.1 469 p
        rw [eB] at ev105
        refine jt_if_eq (t := 73) d_PI_edge_42 rfl (by unfold jRi; omega) (fun c106 => ?_) (fun c106 => ?_)
        · skip
          refine jt_iinc (L' := [(0, .ref (b + 468)), (1, .int (jI c)), (2, .int (jI g)), (3, .int (jI n)), (4, .int (jI (p + 1))), (5, .int (jI v104))]) d_PI_edge_73 rfl (Nat.le_of_ble_eq_true rfl) rfl ?_
          refine jt_goto (t := 6) d_PI_edge_76 rfl ?_
          have hn9 : n = edN c g (A 469) (p + 1).toNat := by
            rw [show (p + 1).toNat = p.toNat + 1 by omega]
            by_cases w9 : A 469 ((p.toNat : Nat) : Int) = 0
            · rw [edN_w w9]
              rw [show ((p.toNat : Nat) : Int) = p by omega] at w9
              first | exact hn | (exfalso; omega)
            · rw [edN_b w9, ← hn, he9]
              rw [show ((p.toNat : Nat) : Int) = p by omega] at w9
              split <;> omega
          have rn9 := edN_r c g (A 469) (p + 1).toNat
          refine jt_sub (L' := [(0, .ref (b + 468)), (1, .int (jI c)), (2, .int (jI g)), (3, .int (jI n)), (4, .int (jI (p + 1)))]) (fun _ h => List.mem_append_left [(5, Value.int (jI v104))] h) ?_
          exact ih n (p + 1) J B hJ (by omega) (by omega) hn9 eJ eB (by omega)
        · skip
          refine jt_iload_n d_PI_edge_45 rfl ?_
          refine jt_bipush d_PI_edge_46 (by omega) ?_
          refine jt_icmp_eq (t := 70) d_PI_edge_48 rfl (by unfold jRi; omega) (by unfold jRi; omega) (fun c107 => ?_) (fun c107 => ?_)
          · skip
            refine jt_iload d_PI_edge_70 rfl ?_
            refine jt_istore_n (L' := [(0, .ref (b + 468)), (1, .int (jI c)), (2, .int (jI g)), (3, .int (jI v104)), (4, .int (jI p)), (5, .int (jI v104))]) d_PI_edge_72 (Nat.le_of_ble_eq_true rfl) rfl ?_
            refine jt_iinc (L' := [(0, .ref (b + 468)), (1, .int (jI c)), (2, .int (jI g)), (3, .int (jI v104)), (4, .int (jI (p + 1))), (5, .int (jI v104))]) d_PI_edge_73 rfl (Nat.le_of_ble_eq_true rfl) rfl ?_
            refine jt_goto (t := 6) d_PI_edge_76 rfl ?_
            have hn9 : v104 = edN c g (A 469) (p + 1).toNat := by
              rw [show (p + 1).toNat = p.toNat + 1 by omega]
              by_cases w9 : A 469 ((p.toNat : Nat) : Int) = 0
              · rw [edN_w w9]
                rw [show ((p.toNat : Nat) : Int) = p by omega] at w9
                first | exact hn | (exfalso; omega)
              · rw [edN_b w9, ← hn, he9]
                rw [show ((p.toNat : Nat) : Int) = p by omega] at w9
                split <;> omega
            have rn9 := edN_r c g (A 469) (p + 1).toNat
            refine jt_sub (L' := [(0, .ref (b + 468)), (1, .int (jI c)), (2, .int (jI g)), (3, .int (jI v104)), (4, .int (jI (p + 1)))]) (fun _ h => List.mem_append_left [(5, Value.int (jI v104))] h) ?_
            exact ih v104 (p + 1) J B hJ (by omega) (by omega) hn9 eJ eB (by omega)
          · skip
            refine jt_iload_n d_PI_edge_51 rfl ?_
            refine jt_if_eq (t := 64) d_PI_edge_52 rfl (by unfold jRi; omega) (fun c108 => ?_) (fun c108 => ?_)
            · skip
              refine jt_iload d_PI_edge_64 rfl ?_
              refine jt_iload_n d_PI_edge_66 rfl ?_
              refine jt_icmp_ge (t := 73) d_PI_edge_67 rfl (by unfold jRi; omega) (by unfold jRi; omega) (fun c109 => ?_) (fun c109 => ?_)
              · skip
                refine jt_iinc (L' := [(0, .ref (b + 468)), (1, .int (jI c)), (2, .int (jI g)), (3, .int (jI n)), (4, .int (jI (p + 1))), (5, .int (jI v104))]) d_PI_edge_73 rfl (Nat.le_of_ble_eq_true rfl) rfl ?_
                refine jt_goto (t := 6) d_PI_edge_76 rfl ?_
                have hn9 : n = edN c g (A 469) (p + 1).toNat := by
                  rw [show (p + 1).toNat = p.toNat + 1 by omega]
                  by_cases w9 : A 469 ((p.toNat : Nat) : Int) = 0
                  · rw [edN_w w9]
                    rw [show ((p.toNat : Nat) : Int) = p by omega] at w9
                    first | exact hn | (exfalso; omega)
                  · rw [edN_b w9, ← hn, he9]
                    rw [show ((p.toNat : Nat) : Int) = p by omega] at w9
                    split <;> omega
                have rn9 := edN_r c g (A 469) (p + 1).toNat
                refine jt_sub (L' := [(0, .ref (b + 468)), (1, .int (jI c)), (2, .int (jI g)), (3, .int (jI n)), (4, .int (jI (p + 1)))]) (fun _ h => List.mem_append_left [(5, Value.int (jI v104))] h) ?_
                exact ih n (p + 1) J B hJ (by omega) (by omega) hn9 eJ eB (by omega)
              · skip
                refine jt_iload d_PI_edge_70 rfl ?_
                refine jt_istore_n (L' := [(0, .ref (b + 468)), (1, .int (jI c)), (2, .int (jI g)), (3, .int (jI v104)), (4, .int (jI p)), (5, .int (jI v104))]) d_PI_edge_72 (Nat.le_of_ble_eq_true rfl) rfl ?_
                refine jt_iinc (L' := [(0, .ref (b + 468)), (1, .int (jI c)), (2, .int (jI g)), (3, .int (jI v104)), (4, .int (jI (p + 1))), (5, .int (jI v104))]) d_PI_edge_73 rfl (Nat.le_of_ble_eq_true rfl) rfl ?_
                refine jt_goto (t := 6) d_PI_edge_76 rfl ?_
                have hn9 : v104 = edN c g (A 469) (p + 1).toNat := by
                  rw [show (p + 1).toNat = p.toNat + 1 by omega]
                  by_cases w9 : A 469 ((p.toNat : Nat) : Int) = 0
                  · rw [edN_w w9]
                    rw [show ((p.toNat : Nat) : Int) = p by omega] at w9
                    first | exact hn | (exfalso; omega)
                  · rw [edN_b w9, ← hn, he9]
                    rw [show ((p.toNat : Nat) : Int) = p by omega] at w9
                    split <;> omega
                have rn9 := edN_r c g (A 469) (p + 1).toNat
                refine jt_sub (L' := [(0, .ref (b + 468)), (1, .int (jI c)), (2, .int (jI g)), (3, .int (jI v104)), (4, .int (jI (p + 1)))]) (fun _ h => List.mem_append_left [(5, Value.int (jI v104))] h) ?_
                exact ih v104 (p + 1) J B hJ (by omega) (by omega) hn9 eJ eB (by omega)
            · skip
              refine jt_iload d_PI_edge_55 rfl ?_
              refine jt_iload_n d_PI_edge_57 rfl ?_
              refine jt_icmp_le (t := 73) d_PI_edge_58 rfl (by unfold jRi; omega) (by unfold jRi; omega) (fun c110 => ?_) (fun c110 => ?_)
              · skip
                refine jt_iinc (L' := [(0, .ref (b + 468)), (1, .int (jI c)), (2, .int (jI g)), (3, .int (jI n)), (4, .int (jI (p + 1))), (5, .int (jI v104))]) d_PI_edge_73 rfl (Nat.le_of_ble_eq_true rfl) rfl ?_
                refine jt_goto (t := 6) d_PI_edge_76 rfl ?_
                have hn9 : n = edN c g (A 469) (p + 1).toNat := by
                  rw [show (p + 1).toNat = p.toNat + 1 by omega]
                  by_cases w9 : A 469 ((p.toNat : Nat) : Int) = 0
                  · rw [edN_w w9]
                    rw [show ((p.toNat : Nat) : Int) = p by omega] at w9
                    first | exact hn | (exfalso; omega)
                  · rw [edN_b w9, ← hn, he9]
                    rw [show ((p.toNat : Nat) : Int) = p by omega] at w9
                    split <;> omega
                have rn9 := edN_r c g (A 469) (p + 1).toNat
                refine jt_sub (L' := [(0, .ref (b + 468)), (1, .int (jI c)), (2, .int (jI g)), (3, .int (jI n)), (4, .int (jI (p + 1)))]) (fun _ h => List.mem_append_left [(5, Value.int (jI v104))] h) ?_
                exact ih n (p + 1) J B hJ (by omega) (by omega) hn9 eJ eB (by omega)
              · skip
                refine jt_goto (t := 70) d_PI_edge_61 rfl ?_
                refine jt_iload d_PI_edge_70 rfl ?_
                refine jt_istore_n (L' := [(0, .ref (b + 468)), (1, .int (jI c)), (2, .int (jI g)), (3, .int (jI v104)), (4, .int (jI p)), (5, .int (jI v104))]) d_PI_edge_72 (Nat.le_of_ble_eq_true rfl) rfl ?_
                refine jt_iinc (L' := [(0, .ref (b + 468)), (1, .int (jI c)), (2, .int (jI g)), (3, .int (jI v104)), (4, .int (jI (p + 1))), (5, .int (jI v104))]) d_PI_edge_73 rfl (Nat.le_of_ble_eq_true rfl) rfl ?_
                refine jt_goto (t := 6) d_PI_edge_76 rfl ?_
                have hn9 : v104 = edN c g (A 469) (p + 1).toNat := by
                  rw [show (p + 1).toNat = p.toNat + 1 by omega]
                  by_cases w9 : A 469 ((p.toNat : Nat) : Int) = 0
                  · rw [edN_w w9]
                    rw [show ((p.toNat : Nat) : Int) = p by omega] at w9
                    first | exact hn | (exfalso; omega)
                  · rw [edN_b w9, ← hn, he9]
                    rw [show ((p.toNat : Nat) : Int) = p by omega] at w9
                    split <;> omega
                have rn9 := edN_r c g (A 469) (p + 1).toNat
                refine jt_sub (L' := [(0, .ref (b + 468)), (1, .int (jI c)), (2, .int (jI g)), (3, .int (jI v104)), (4, .int (jI (p + 1)))]) (fun _ h => List.mem_append_left [(5, Value.int (jI v104))] h) ?_
                exact ih v104 (p + 1) J B hJ (by omega) (by omega) hn9 eJ eB (by omega)
      · skip
        refine jt_iload d_PI_edge_20 rfl ?_
        refine jt_bipush d_PI_edge_22 (by omega) ?_
        refine jt_irem d_PI_edge_24 (by unfold jRi; omega) (by unfold jRi; omega) (by omega) ?_
        have td111 := gtd p 32 (by omega)
        refine jt_goto (t := 33) d_PI_edge_25 rfl ?_
        refine jt_topi (fun v112 ev112 => ?_)
        refine jt_istore (L' := [(0, .ref (b + 468)), (1, .int (jI c)), (2, .int (jI g)), (3, .int (jI n)), (4, .int (jI p)), (5, .int (jI v112))]) d_PI_edge_33 (Nat.le_of_ble_eq_true rfl) rfl ?_
        have he9 : edH c ((p.toNat : Nat) : Int) = v112 := by rw [show ((p.toNat : Nat) : Int) = p by omega]; unfold edH; split <;> omega
        refine jt_aload_n d_PI_edge_35 rfl ?_
        refine cm_get (k := 468) (v := .ref (b + 469)) d_PI_edge_36 PI_f9 (by decide) cc_7 rfl ?_
        refine jt_iload d_PI_edge_39 rfl ?_
        refine cm_ld2 (k := 469) (n := 768) (v := (B 469) p) d_PI_edge_41 (by decide) rfl rfl (by omega) (by omega) (by omega) rfl ?_
        refine jt_topi (fun v113 ev113 => ?_)
        have bv113 : 0 ≤ v113 ∧ v113 ≤ 1 := by rw [ev113]; exact hJ.2.1 469 p
        rw [eB] at ev113
        refine jt_if_eq (t := 73) d_PI_edge_42 rfl (by unfold jRi; omega) (fun c114 => ?_) (fun c114 => ?_)
        · skip
          refine jt_iinc (L' := [(0, .ref (b + 468)), (1, .int (jI c)), (2, .int (jI g)), (3, .int (jI n)), (4, .int (jI (p + 1))), (5, .int (jI v112))]) d_PI_edge_73 rfl (Nat.le_of_ble_eq_true rfl) rfl ?_
          refine jt_goto (t := 6) d_PI_edge_76 rfl ?_
          have hn9 : n = edN c g (A 469) (p + 1).toNat := by
            rw [show (p + 1).toNat = p.toNat + 1 by omega]
            by_cases w9 : A 469 ((p.toNat : Nat) : Int) = 0
            · rw [edN_w w9]
              rw [show ((p.toNat : Nat) : Int) = p by omega] at w9
              first | exact hn | (exfalso; omega)
            · rw [edN_b w9, ← hn, he9]
              rw [show ((p.toNat : Nat) : Int) = p by omega] at w9
              split <;> omega
          have rn9 := edN_r c g (A 469) (p + 1).toNat
          refine jt_sub (L' := [(0, .ref (b + 468)), (1, .int (jI c)), (2, .int (jI g)), (3, .int (jI n)), (4, .int (jI (p + 1)))]) (fun _ h => List.mem_append_left [(5, Value.int (jI v112))] h) ?_
          exact ih n (p + 1) J B hJ (by omega) (by omega) hn9 eJ eB (by omega)
        · skip
          refine jt_iload_n d_PI_edge_45 rfl ?_
          refine jt_bipush d_PI_edge_46 (by omega) ?_
          refine jt_icmp_eq (t := 70) d_PI_edge_48 rfl (by unfold jRi; omega) (by unfold jRi; omega) (fun c115 => ?_) (fun c115 => ?_)
          · skip
            refine jt_iload d_PI_edge_70 rfl ?_
            refine jt_istore_n (L' := [(0, .ref (b + 468)), (1, .int (jI c)), (2, .int (jI g)), (3, .int (jI v112)), (4, .int (jI p)), (5, .int (jI v112))]) d_PI_edge_72 (Nat.le_of_ble_eq_true rfl) rfl ?_
            refine jt_iinc (L' := [(0, .ref (b + 468)), (1, .int (jI c)), (2, .int (jI g)), (3, .int (jI v112)), (4, .int (jI (p + 1))), (5, .int (jI v112))]) d_PI_edge_73 rfl (Nat.le_of_ble_eq_true rfl) rfl ?_
            refine jt_goto (t := 6) d_PI_edge_76 rfl ?_
            have hn9 : v112 = edN c g (A 469) (p + 1).toNat := by
              rw [show (p + 1).toNat = p.toNat + 1 by omega]
              by_cases w9 : A 469 ((p.toNat : Nat) : Int) = 0
              · rw [edN_w w9]
                rw [show ((p.toNat : Nat) : Int) = p by omega] at w9
                first | exact hn | (exfalso; omega)
              · rw [edN_b w9, ← hn, he9]
                rw [show ((p.toNat : Nat) : Int) = p by omega] at w9
                split <;> omega
            have rn9 := edN_r c g (A 469) (p + 1).toNat
            refine jt_sub (L' := [(0, .ref (b + 468)), (1, .int (jI c)), (2, .int (jI g)), (3, .int (jI v112)), (4, .int (jI (p + 1)))]) (fun _ h => List.mem_append_left [(5, Value.int (jI v112))] h) ?_
            exact ih v112 (p + 1) J B hJ (by omega) (by omega) hn9 eJ eB (by omega)
          · skip
            refine jt_iload_n d_PI_edge_51 rfl ?_
            refine jt_if_eq (t := 64) d_PI_edge_52 rfl (by unfold jRi; omega) (fun c116 => ?_) (fun c116 => ?_)
            · skip
              refine jt_iload d_PI_edge_64 rfl ?_
              refine jt_iload_n d_PI_edge_66 rfl ?_
              refine jt_icmp_ge (t := 73) d_PI_edge_67 rfl (by unfold jRi; omega) (by unfold jRi; omega) (fun c117 => ?_) (fun c117 => ?_)
              · skip
                refine jt_iinc (L' := [(0, .ref (b + 468)), (1, .int (jI c)), (2, .int (jI g)), (3, .int (jI n)), (4, .int (jI (p + 1))), (5, .int (jI v112))]) d_PI_edge_73 rfl (Nat.le_of_ble_eq_true rfl) rfl ?_
                refine jt_goto (t := 6) d_PI_edge_76 rfl ?_
                have hn9 : n = edN c g (A 469) (p + 1).toNat := by
                  rw [show (p + 1).toNat = p.toNat + 1 by omega]
                  by_cases w9 : A 469 ((p.toNat : Nat) : Int) = 0
                  · rw [edN_w w9]
                    rw [show ((p.toNat : Nat) : Int) = p by omega] at w9
                    first | exact hn | (exfalso; omega)
                  · rw [edN_b w9, ← hn, he9]
                    rw [show ((p.toNat : Nat) : Int) = p by omega] at w9
                    split <;> omega
                have rn9 := edN_r c g (A 469) (p + 1).toNat
                refine jt_sub (L' := [(0, .ref (b + 468)), (1, .int (jI c)), (2, .int (jI g)), (3, .int (jI n)), (4, .int (jI (p + 1)))]) (fun _ h => List.mem_append_left [(5, Value.int (jI v112))] h) ?_
                exact ih n (p + 1) J B hJ (by omega) (by omega) hn9 eJ eB (by omega)
              · skip
                refine jt_iload d_PI_edge_70 rfl ?_
                refine jt_istore_n (L' := [(0, .ref (b + 468)), (1, .int (jI c)), (2, .int (jI g)), (3, .int (jI v112)), (4, .int (jI p)), (5, .int (jI v112))]) d_PI_edge_72 (Nat.le_of_ble_eq_true rfl) rfl ?_
                refine jt_iinc (L' := [(0, .ref (b + 468)), (1, .int (jI c)), (2, .int (jI g)), (3, .int (jI v112)), (4, .int (jI (p + 1))), (5, .int (jI v112))]) d_PI_edge_73 rfl (Nat.le_of_ble_eq_true rfl) rfl ?_
                refine jt_goto (t := 6) d_PI_edge_76 rfl ?_
                have hn9 : v112 = edN c g (A 469) (p + 1).toNat := by
                  rw [show (p + 1).toNat = p.toNat + 1 by omega]
                  by_cases w9 : A 469 ((p.toNat : Nat) : Int) = 0
                  · rw [edN_w w9]
                    rw [show ((p.toNat : Nat) : Int) = p by omega] at w9
                    first | exact hn | (exfalso; omega)
                  · rw [edN_b w9, ← hn, he9]
                    rw [show ((p.toNat : Nat) : Int) = p by omega] at w9
                    split <;> omega
                have rn9 := edN_r c g (A 469) (p + 1).toNat
                refine jt_sub (L' := [(0, .ref (b + 468)), (1, .int (jI c)), (2, .int (jI g)), (3, .int (jI v112)), (4, .int (jI (p + 1)))]) (fun _ h => List.mem_append_left [(5, Value.int (jI v112))] h) ?_
                exact ih v112 (p + 1) J B hJ (by omega) (by omega) hn9 eJ eB (by omega)
            · skip
              refine jt_iload d_PI_edge_55 rfl ?_
              refine jt_iload_n d_PI_edge_57 rfl ?_
              refine jt_icmp_le (t := 73) d_PI_edge_58 rfl (by unfold jRi; omega) (by unfold jRi; omega) (fun c118 => ?_) (fun c118 => ?_)
              · skip
                refine jt_iinc (L' := [(0, .ref (b + 468)), (1, .int (jI c)), (2, .int (jI g)), (3, .int (jI n)), (4, .int (jI (p + 1))), (5, .int (jI v112))]) d_PI_edge_73 rfl (Nat.le_of_ble_eq_true rfl) rfl ?_
                refine jt_goto (t := 6) d_PI_edge_76 rfl ?_
                have hn9 : n = edN c g (A 469) (p + 1).toNat := by
                  rw [show (p + 1).toNat = p.toNat + 1 by omega]
                  by_cases w9 : A 469 ((p.toNat : Nat) : Int) = 0
                  · rw [edN_w w9]
                    rw [show ((p.toNat : Nat) : Int) = p by omega] at w9
                    first | exact hn | (exfalso; omega)
                  · rw [edN_b w9, ← hn, he9]
                    rw [show ((p.toNat : Nat) : Int) = p by omega] at w9
                    split <;> omega
                have rn9 := edN_r c g (A 469) (p + 1).toNat
                refine jt_sub (L' := [(0, .ref (b + 468)), (1, .int (jI c)), (2, .int (jI g)), (3, .int (jI n)), (4, .int (jI (p + 1)))]) (fun _ h => List.mem_append_left [(5, Value.int (jI v112))] h) ?_
                exact ih n (p + 1) J B hJ (by omega) (by omega) hn9 eJ eB (by omega)
              · skip
                refine jt_goto (t := 70) d_PI_edge_61 rfl ?_
                refine jt_iload d_PI_edge_70 rfl ?_
                refine jt_istore_n (L' := [(0, .ref (b + 468)), (1, .int (jI c)), (2, .int (jI g)), (3, .int (jI v112)), (4, .int (jI p)), (5, .int (jI v112))]) d_PI_edge_72 (Nat.le_of_ble_eq_true rfl) rfl ?_
                refine jt_iinc (L' := [(0, .ref (b + 468)), (1, .int (jI c)), (2, .int (jI g)), (3, .int (jI v112)), (4, .int (jI (p + 1))), (5, .int (jI v112))]) d_PI_edge_73 rfl (Nat.le_of_ble_eq_true rfl) rfl ?_
                refine jt_goto (t := 6) d_PI_edge_76 rfl ?_
                have hn9 : v112 = edN c g (A 469) (p + 1).toNat := by
                  rw [show (p + 1).toNat = p.toNat + 1 by omega]
                  by_cases w9 : A 469 ((p.toNat : Nat) : Int) = 0
                  · rw [edN_w w9]
                    rw [show ((p.toNat : Nat) : Int) = p by omega] at w9
                    first | exact hn | (exfalso; omega)
                  · rw [edN_b w9, ← hn, he9]
                    rw [show ((p.toNat : Nat) : Int) = p by omega] at w9
                    split <;> omega
                have rn9 := edN_r c g (A 469) (p + 1).toNat
                refine jt_sub (L' := [(0, .ref (b + 468)), (1, .int (jI c)), (2, .int (jI g)), (3, .int (jI v112)), (4, .int (jI (p + 1)))]) (fun _ h => List.mem_append_left [(5, Value.int (jI v112))] h) ?_
                exact ih v112 (p + 1) J B hJ (by omega) (by omega) hn9 eJ eB (by omega)
set_option maxRecDepth 100000 in
set_option maxHeartbeats 4000000 in
theorem v_PI_edge_x (G : jG) (d b : Nat) (c : Int) (g : Int) (I : Nat → Nat → Int) (A : Nat → Int → Int) (hI : cSI I) (hA : cSA A) (hc : 0 ≤ c ∧ c ≤ 1) (hg : 0 ≤ g ∧ g ≤ 1) : cct G Y_PI_edge d b [.ref (b + 468), .int (jI c), .int (jI g)] I A (fun (rv : Option Value) (I2 : Nat → Nat → Int) (A2 : Nat → Int → Int) => ∃ y : Int, rv = some (.int (jI y)) ∧ (-2147483648 ≤ y ∧ y ≤ 2147483647) ∧ I2 = I ∧ A2 = A ∧ y = edN c g (A 469) 768) := by
  refine cct_of (by decide) (Nat.le_of_ble_eq_true rfl) (fun f0 sz => ?_)
  show jt _ 0 [(0, .ref (b + 468)), (1, .int (jI c)), (2, .int (jI g))] [] _ _ _ _
  have hz0 : cPx [] [] I A I A := cPx.refl hI hA
  refine jt_bipush d_PI_edge_0 (by omega) ?_
  refine jt_istore_n (L' := [(0, .ref (b + 468)), (1, .int (jI c)), (2, .int (jI g)), (3, .int (jI (-2)))]) d_PI_edge_2 (Nat.le_of_ble_eq_true rfl) rfl ?_
  refine jt_iconst d_PI_edge_3 ?_
  refine jt_istore (L' := [(0, .ref (b + 468)), (1, .int (jI c)), (2, .int (jI g)), (3, .int (jI (-2))), (4, .int (jI 0))]) d_PI_edge_4 (Nat.le_of_ble_eq_true rfl) rfl ?_
  exact l6_PI_edge_xv G d b c g I A hI hA hc hg f0 sz  769 (-2) 0 I A hz0 (by omega) (by omega) (by rfl) rfl rfl (by omega)
set_option maxRecDepth 100000 in
set_option maxHeartbeats 4000000 in
theorem v_EX_bodyLength_x (G : jG) (d b : Nat) (q : Int) (I : Nat → Nat → Int) (A : Nat → Int → Int) (hI : cSI I) (hA : cSA A) (hq : 0 ≤ q ∧ q ≤ 5) : cct G Y_EX_bodyLength d b [.ref (b + 5), .int (jI q)] I A (fun (rv : Option Value) (I2 : Nat → Nat → Int) (A2 : Nat → Int → Int) => ∃ y : Int, rv = some (.int (jI y)) ∧ (-2147483648 ≤ y ∧ y ≤ 2147483647) ∧ I2 = I ∧ A2 = A ∧ y = if A 7 q = -1 then -2 else I (14 + 4 * q.toNat) 3) := by
  refine cct_of (by decide) (Nat.le_of_ble_eq_true rfl) (fun f0 sz => ?_)
  show jt _ 0 [(0, .ref (b + 5)), (1, .int (jI q))] [] _ _ _ _
  have hz0 : cPx [] [] I A I A := cPx.refl hI hA
  refine jt_aload_n d_EX_bodyLength_0 rfl ?_
  refine cm_get (k := 5) (v := .ref (b + 7)) d_EX_bodyLength_1 EX_f17 (by decide) cc_2 rfl ?_
  refine jt_iload_n d_EX_bodyLength_4 rfl ?_
  refine cm_ld0 (k := 7) (n := 6) (v := (A 7) q) d_EX_bodyLength_5 (by decide) rfl rfl (by omega) (by omega) (by omega) rfl ?_
  refine jt_topi (fun v1 ev1 => ?_)
  have bv1 : -1 ≤ v1 ∧ v1 ≤ 3 := by rw [ev1]; exact hz0.2.1 7 q
  refine jt_iconst d_EX_bodyLength_6 ?_
  refine jt_icmp_ne (t := 15) d_EX_bodyLength_7 rfl (by unfold jRi; omega) (by unfold jRi; omega) (fun c2 => ?_) (fun c2 => ?_)
  · skip
    refine jt_aload_n d_EX_bodyLength_15 rfl ?_
    refine cm_get (k := 5) (v := .ref (b + 6)) d_EX_bodyLength_16 EX_f13 (by decide) cc_2 rfl ?_
    refine jt_iload_n d_EX_bodyLength_19 rfl ?_
    have h6 : q = 0 ∨ q = 1 ∨ q = 2 ∨ q = 3 ∨ q = 4 ∨ q = 5 := by omega
    rcases h6 with h6 | h6 | h6 | h6 | h6 | h6
    · skip
      subst h6
      refine cm_ldT (z := 0) d_EX_bodyLength_20 (by omega) (by omega) ?_
      show jt _ 21 [(0, .ref (b + 5)), (1, .int (jI 0))] [.ref (b + 14)] (cmf b f0 I A) _ _ _
      refine cm_get (k := 14) (v := .int (jI (I 14 3))) d_EX_bodyLength_21 EX_f38 (by decide) (cc_1 rfl) rfl ?_
      have rb3 : 0 ≤ I 14 3 ∧ I 14 3 ≤ 40 := hz0.1 14 3
      exact cm_ret d_EX_bodyLength_24 rfl rfl (⟨I 14 3, rfl, by omega, rfl, rfl, (if_neg (by omega)).symm⟩)
    · skip
      subst h6
      refine cm_ldT (z := 1) d_EX_bodyLength_20 (by omega) (by omega) ?_
      show jt _ 21 [(0, .ref (b + 5)), (1, .int (jI 1))] [.ref (b + 18)] (cmf b f0 I A) _ _ _
      refine cm_get (k := 18) (v := .int (jI (I 18 3))) d_EX_bodyLength_21 EX_f38 (by decide) (cc_1 rfl) rfl ?_
      have rb4 : 0 ≤ I 18 3 ∧ I 18 3 ≤ 40 := hz0.1 18 3
      exact cm_ret d_EX_bodyLength_24 rfl rfl (⟨I 18 3, rfl, by omega, rfl, rfl, (if_neg (by omega)).symm⟩)
    · skip
      subst h6
      refine cm_ldT (z := 2) d_EX_bodyLength_20 (by omega) (by omega) ?_
      show jt _ 21 [(0, .ref (b + 5)), (1, .int (jI 2))] [.ref (b + 22)] (cmf b f0 I A) _ _ _
      refine cm_get (k := 22) (v := .int (jI (I 22 3))) d_EX_bodyLength_21 EX_f38 (by decide) (cc_1 rfl) rfl ?_
      have rb5 : 0 ≤ I 22 3 ∧ I 22 3 ≤ 40 := hz0.1 22 3
      exact cm_ret d_EX_bodyLength_24 rfl rfl (⟨I 22 3, rfl, by omega, rfl, rfl, (if_neg (by omega)).symm⟩)
    · skip
      subst h6
      refine cm_ldT (z := 3) d_EX_bodyLength_20 (by omega) (by omega) ?_
      show jt _ 21 [(0, .ref (b + 5)), (1, .int (jI 3))] [.ref (b + 26)] (cmf b f0 I A) _ _ _
      refine cm_get (k := 26) (v := .int (jI (I 26 3))) d_EX_bodyLength_21 EX_f38 (by decide) (cc_1 rfl) rfl ?_
      have rb6 : 0 ≤ I 26 3 ∧ I 26 3 ≤ 40 := hz0.1 26 3
      exact cm_ret d_EX_bodyLength_24 rfl rfl (⟨I 26 3, rfl, by omega, rfl, rfl, (if_neg (by omega)).symm⟩)
    · skip
      subst h6
      refine cm_ldT (z := 4) d_EX_bodyLength_20 (by omega) (by omega) ?_
      show jt _ 21 [(0, .ref (b + 5)), (1, .int (jI 4))] [.ref (b + 30)] (cmf b f0 I A) _ _ _
      refine cm_get (k := 30) (v := .int (jI (I 30 3))) d_EX_bodyLength_21 EX_f38 (by decide) (cc_1 rfl) rfl ?_
      have rb7 : 0 ≤ I 30 3 ∧ I 30 3 ≤ 40 := hz0.1 30 3
      exact cm_ret d_EX_bodyLength_24 rfl rfl (⟨I 30 3, rfl, by omega, rfl, rfl, (if_neg (by omega)).symm⟩)
    · skip
      subst h6
      refine cm_ldT (z := 5) d_EX_bodyLength_20 (by omega) (by omega) ?_
      show jt _ 21 [(0, .ref (b + 5)), (1, .int (jI 5))] [.ref (b + 34)] (cmf b f0 I A) _ _ _
      refine cm_get (k := 34) (v := .int (jI (I 34 3))) d_EX_bodyLength_21 EX_f38 (by decide) (cc_1 rfl) rfl ?_
      have rb8 : 0 ≤ I 34 3 ∧ I 34 3 ≤ 40 := hz0.1 34 3
      exact cm_ret d_EX_bodyLength_24 rfl rfl (⟨I 34 3, rfl, by omega, rfl, rfl, (if_neg (by omega)).symm⟩)
  · skip
    refine jt_bipush d_EX_bodyLength_10 (by omega) ?_
    refine jt_goto (t := 24) d_EX_bodyLength_12 rfl ?_
    exact cm_ret d_EX_bodyLength_24 rfl rfl (⟨-2, rfl, by omega, rfl, rfl, (if_pos (by omega)).symm⟩)
set_option maxRecDepth 100000 in
set_option maxHeartbeats 4000000 in
theorem v_GC_count_x (G : jG) (d b : Nat) (q : Int) (I : Nat → Nat → Int) (A : Nat → Int → Int) (hI : cSI I) (hA : cSA A) (hq : -2147483648 ≤ q ∧ q ≤ 2147483647) : cct G Y_GC_count (d + 1) b [.ref (b + 0), .int (jI q)] I A (fun (rv : Option Value) (I2 : Nat → Nat → Int) (A2 : Nat → Int → Int) => ∃ y : Int, rv = some (.int (jI y)) ∧ (-2147483648 ≤ y ∧ y ≤ 2147483647) ∧ I2 = I ∧ A2 = A ∧ y = ctA q (I 1 3) (A 469) (I 0 7) (I 0 8) (I 5 6) (fun z => if A 7 z = -1 then -2 else I (14 + 4 * z.toNat) 3)) := by
  refine cct_of (by decide) (Nat.le_of_ble_eq_true rfl) (fun f0 sz => ?_)
  show jt _ 0 [(0, .ref (b + 0)), (1, .int (jI q))] [] _ _ _ _
  have hz0 : cPx [] [] I A I A := cPx.refl hI hA
  refine jt_iload_n d_GC_count_0 rfl ?_
  by_cases hsw : q < 0 ∨ 8 < q
  · skip
    refine jt_tableOut (t := 126) d_GC_count_1 (by unfold jRi; omega) hsw rfl ?_
    refine jt_iload_n d_GC_count_126 rfl ?_
    refine jt_bipush d_GC_count_127 (by omega) ?_
    refine jt_isub d_GC_count_129 ?_
    refine jt_topie (fun v1 bv1 ev1 => ?_)
    have nmv1 := jNi_m (q - 9)
    rw [← ev1] at nmv1
    refine jt_bipush d_GC_count_130 (by omega) ?_
    refine cct_callS (Y := Y_GC_isBelow) (As := [.int (jI v1), .int (jI 6)]) (rest := []) d_GC_count_132 GC_c72 yk_GC_isBelow ys_GC_isBelow (Nat.le_of_ble_eq_true rfl) rfl rfl (Nat.le_of_ble_eq_true rfl) (v_GC_isBelow_x G _ b v1 6 I A hz0.1 hz0.2.1 (by omega) (by omega)) (fun rvq2 Iq2 Aq2 hq2 => ?_)
    obtain ⟨yq2, rfl, ryq2, hIq2, hAq2, hxq2⟩ := hq2
    rw [hIq2, hAq2]
    by_cases gbq2 : yq2 = 1
    · skip
      obtain rfl : yq2 = 1 := by omega
      have hwq2 := hxq2.1 rfl
      show jt _ 135 [(0, .ref (b + 0)), (1, .int (jI q))] [.int (jI 1)] (cmf b f0 I A) _ _ _
      refine jt_if_eq (t := 152) d_GC_count_135 rfl (by unfold jRi; omega) (fun c3 => ?_) (fun c3 => ?_)
      · skip
        exfalso
        omega
      · skip
        refine jt_aload_n d_GC_count_138 rfl ?_
        refine cm_get (k := 0) (v := .ref (b + 5)) d_GC_count_139 GC_f21 (by decide) cc_0 rfl ?_
        refine jt_iload_n d_GC_count_142 rfl ?_
        refine jt_bipush d_GC_count_143 (by omega) ?_
        refine jt_isub d_GC_count_145 ?_
        refine jt_topie (fun v4 bv4 ev4 => ?_)
        have nmv4 := jNi_m (q - 9)
        rw [← ev4] at nmv4
        refine cct_callV (Y := Y_EX_bodyLength) (ci := 1) (k := 5) (As := [.int (jI v4)]) (rest := []) d_GC_count_146 GC_c204 yk_EX_bodyLength yv_EX_bodyLength rfl (Nat.le_of_ble_eq_true rfl) (by decide) cc_2 rfl rfl (Nat.le_of_ble_eq_true rfl) (v_EX_bodyLength_x G _ b v4 I A hz0.1 hz0.2.1 (by omega)) (fun rvq5 Iq5 Aq5 hq5 => ?_)
        obtain ⟨yq5, rfl, ryq5, hIq5, hAq5, hxq5⟩ := hq5
        rw [hIq5, hAq5]
        show jt _ 149 [(0, .ref (b + 0)), (1, .int (jI q))] [.int (jI yq5)] (cmf b f0 I A) _ _ _
        refine jt_goto (t := 153) d_GC_count_149 rfl ?_
        exact cm_ret d_GC_count_153 rfl rfl (⟨yq5, rfl, by omega, rfl, rfl, by unfold ctA; rw [if_neg (by omega), if_neg (by omega), if_neg (by omega), if_neg (by omega), if_neg (by omega), if_neg (by omega), if_neg (by omega), if_neg (by omega), if_neg (by omega), if_pos (by omega)]; have h9 := hxq5; rw [show v4 = q - 9 by omega] at h9; exact h9⟩)
    · skip
      obtain rfl : yq2 = 0 := by omega
      have hwq2 := hxq2.2 rfl
      show jt _ 135 [(0, .ref (b + 0)), (1, .int (jI q))] [.int (jI 0)] (cmf b f0 I A) _ _ _
      refine jt_if_eq (t := 152) d_GC_count_135 rfl (by unfold jRi; omega) (fun c6 => ?_) (fun c6 => ?_)
      · skip
        refine jt_iconst d_GC_count_152 ?_
        exact cm_ret d_GC_count_153 rfl rfl (⟨-1, rfl, by omega, rfl, rfl, by unfold ctA; rw [if_neg (by omega), if_neg (by omega), if_neg (by omega), if_neg (by omega), if_neg (by omega), if_neg (by omega), if_neg (by omega), if_neg (by omega), if_neg (by omega), if_neg (by omega)]⟩)
      · skip
        exfalso
        omega
  by_cases hs0 : q = 0
  · skip
    refine jt_tableIn (t := 52) d_GC_count_1 (by unfold jRi; omega) (by omega) (by omega) (by rw [hs0]; rfl) rfl ?_
    refine jt_aload_n d_GC_count_52 rfl ?_
    refine cm_get (k := 0) (v := .ref (b + 1)) d_GC_count_53 GC_f14 (by decide) cc_0 rfl ?_
    refine cm_get (k := 1) (v := .int (jI (I 1 3))) d_GC_count_56 GC_f65 (by decide) (cc_1 rfl) rfl ?_
    have rb7 : 0 ≤ I 1 3 ∧ I 1 3 ≤ 120 := hz0.1 1 3
    exact cm_ret d_GC_count_59 rfl rfl (⟨I 1 3, rfl, by omega, rfl, rfl, by unfold ctA; rw [if_pos (by omega)]⟩)
  by_cases hs1 : q = 1
  · skip
    refine jt_tableIn (t := 60) d_GC_count_1 (by unfold jRi; omega) (by omega) (by omega) (by rw [hs1]; rfl) rfl ?_
    refine jt_aload_n d_GC_count_60 rfl ?_
    refine cm_get (k := 0) (v := .ref (b + 468)) d_GC_count_61 GC_f49 (by decide) cc_0 rfl ?_
    refine cct_callV (Y := Y_PI_blackPoints) (ci := 6) (k := 468) (As := []) (rest := []) d_GC_count_64 GC_c194 yk_PI_blackPoints yv_PI_blackPoints rfl (Nat.le_of_ble_eq_true rfl) (by decide) cc_7 rfl rfl (Nat.le_of_ble_eq_true rfl) (v_PI_blackPoints_x G _ b I A hz0.1 hz0.2.1) (fun rvq8 Iq8 Aq8 hq8 => ?_)
    obtain ⟨yq8, rfl, ryq8, hIq8, hAq8, hxq8⟩ := hq8
    rw [hIq8, hAq8]
    show jt _ 67 [(0, .ref (b + 0)), (1, .int (jI q))] [.int (jI yq8)] (cmf b f0 I A) _ _ _
    exact cm_ret d_GC_count_67 rfl rfl (⟨yq8, rfl, by omega, rfl, rfl, by unfold ctA; rw [if_neg (by omega), if_pos (by omega)]; exact hxq8⟩)
  by_cases hs2 : q = 2
  · skip
    refine jt_tableIn (t := 68) d_GC_count_1 (by unfold jRi; omega) (by omega) (by omega) (by rw [hs2]; rfl) rfl ?_
    refine jt_aload_n d_GC_count_68 rfl ?_
    refine cm_get (k := 0) (v := .ref (b + 468)) d_GC_count_69 GC_f49 (by decide) cc_0 rfl ?_
    refine jt_iconst d_GC_count_72 ?_
    refine jt_iconst d_GC_count_73 ?_
    refine cct_callV (Y := Y_PI_edge) (ci := 6) (k := 468) (As := [.int (jI 1), .int (jI 0)]) (rest := []) d_GC_count_74 GC_c197 yk_PI_edge yv_PI_edge rfl (Nat.le_of_ble_eq_true rfl) (by decide) cc_7 rfl rfl (Nat.le_of_ble_eq_true rfl) (v_PI_edge_x G _ b 1 0 I A hz0.1 hz0.2.1 (by omega) (by omega)) (fun rvq9 Iq9 Aq9 hq9 => ?_)
    obtain ⟨yq9, rfl, ryq9, hIq9, hAq9, hxq9⟩ := hq9
    rw [hIq9, hAq9]
    show jt _ 77 [(0, .ref (b + 0)), (1, .int (jI q))] [.int (jI yq9)] (cmf b f0 I A) _ _ _
    exact cm_ret d_GC_count_77 rfl rfl (⟨yq9, rfl, by omega, rfl, rfl, by unfold ctA; rw [if_neg (by omega), if_neg (by omega), if_pos (by omega)]; exact hxq9⟩)
  by_cases hs3 : q = 3
  · skip
    refine jt_tableIn (t := 78) d_GC_count_1 (by unfold jRi; omega) (by omega) (by omega) (by rw [hs3]; rfl) rfl ?_
    refine jt_aload_n d_GC_count_78 rfl ?_
    refine cm_get (k := 0) (v := .ref (b + 468)) d_GC_count_79 GC_f49 (by decide) cc_0 rfl ?_
    refine jt_iconst d_GC_count_82 ?_
    refine jt_iconst d_GC_count_83 ?_
    refine cct_callV (Y := Y_PI_edge) (ci := 6) (k := 468) (As := [.int (jI 1), .int (jI 1)]) (rest := []) d_GC_count_84 GC_c197 yk_PI_edge yv_PI_edge rfl (Nat.le_of_ble_eq_true rfl) (by decide) cc_7 rfl rfl (Nat.le_of_ble_eq_true rfl) (v_PI_edge_x G _ b 1 1 I A hz0.1 hz0.2.1 (by omega) (by omega)) (fun rvq10 Iq10 Aq10 hq10 => ?_)
    obtain ⟨yq10, rfl, ryq10, hIq10, hAq10, hxq10⟩ := hq10
    rw [hIq10, hAq10]
    show jt _ 87 [(0, .ref (b + 0)), (1, .int (jI q))] [.int (jI yq10)] (cmf b f0 I A) _ _ _
    exact cm_ret d_GC_count_87 rfl rfl (⟨yq10, rfl, by omega, rfl, rfl, by unfold ctA; rw [if_neg (by omega), if_neg (by omega), if_neg (by omega), if_pos (by omega)]; exact hxq10⟩)
  by_cases hs4 : q = 4
  · skip
    refine jt_tableIn (t := 88) d_GC_count_1 (by unfold jRi; omega) (by omega) (by omega) (by rw [hs4]; rfl) rfl ?_
    refine jt_aload_n d_GC_count_88 rfl ?_
    refine cm_get (k := 0) (v := .ref (b + 468)) d_GC_count_89 GC_f49 (by decide) cc_0 rfl ?_
    refine jt_iconst d_GC_count_92 ?_
    refine jt_iconst d_GC_count_93 ?_
    refine cct_callV (Y := Y_PI_edge) (ci := 6) (k := 468) (As := [.int (jI 0), .int (jI 0)]) (rest := []) d_GC_count_94 GC_c197 yk_PI_edge yv_PI_edge rfl (Nat.le_of_ble_eq_true rfl) (by decide) cc_7 rfl rfl (Nat.le_of_ble_eq_true rfl) (v_PI_edge_x G _ b 0 0 I A hz0.1 hz0.2.1 (by omega) (by omega)) (fun rvq11 Iq11 Aq11 hq11 => ?_)
    obtain ⟨yq11, rfl, ryq11, hIq11, hAq11, hxq11⟩ := hq11
    rw [hIq11, hAq11]
    show jt _ 97 [(0, .ref (b + 0)), (1, .int (jI q))] [.int (jI yq11)] (cmf b f0 I A) _ _ _
    exact cm_ret d_GC_count_97 rfl rfl (⟨yq11, rfl, by omega, rfl, rfl, by unfold ctA; rw [if_neg (by omega), if_neg (by omega), if_neg (by omega), if_neg (by omega), if_pos (by omega)]; exact hxq11⟩)
  by_cases hs5 : q = 5
  · skip
    refine jt_tableIn (t := 98) d_GC_count_1 (by unfold jRi; omega) (by omega) (by omega) (by rw [hs5]; rfl) rfl ?_
    refine jt_aload_n d_GC_count_98 rfl ?_
    refine cm_get (k := 0) (v := .ref (b + 468)) d_GC_count_99 GC_f49 (by decide) cc_0 rfl ?_
    refine jt_iconst d_GC_count_102 ?_
    refine jt_iconst d_GC_count_103 ?_
    refine cct_callV (Y := Y_PI_edge) (ci := 6) (k := 468) (As := [.int (jI 0), .int (jI 1)]) (rest := []) d_GC_count_104 GC_c197 yk_PI_edge yv_PI_edge rfl (Nat.le_of_ble_eq_true rfl) (by decide) cc_7 rfl rfl (Nat.le_of_ble_eq_true rfl) (v_PI_edge_x G _ b 0 1 I A hz0.1 hz0.2.1 (by omega) (by omega)) (fun rvq12 Iq12 Aq12 hq12 => ?_)
    obtain ⟨yq12, rfl, ryq12, hIq12, hAq12, hxq12⟩ := hq12
    rw [hIq12, hAq12]
    show jt _ 107 [(0, .ref (b + 0)), (1, .int (jI q))] [.int (jI yq12)] (cmf b f0 I A) _ _ _
    exact cm_ret d_GC_count_107 rfl rfl (⟨yq12, rfl, by omega, rfl, rfl, by unfold ctA; rw [if_neg (by omega), if_neg (by omega), if_neg (by omega), if_neg (by omega), if_neg (by omega), if_pos (by omega)]; exact hxq12⟩)
  by_cases hs6 : q = 6
  · skip
    refine jt_tableIn (t := 108) d_GC_count_1 (by unfold jRi; omega) (by omega) (by omega) (by rw [hs6]; rfl) rfl ?_
    refine jt_aload_n d_GC_count_108 rfl ?_
    refine cm_get (k := 0) (v := .int (jI (I 0 7))) d_GC_count_109 GC_f134 (by decide) cc_0 rfl ?_
    have rb13 : 0 ≤ I 0 7 ∧ I 0 7 ≤ 2147483647 := hz0.1 0 7
    exact cm_ret d_GC_count_112 rfl rfl (⟨I 0 7, rfl, by omega, rfl, rfl, by unfold ctA; rw [if_neg (by omega), if_neg (by omega), if_neg (by omega), if_neg (by omega), if_neg (by omega), if_neg (by omega), if_pos (by omega)]⟩)
  by_cases hs7 : q = 7
  · skip
    refine jt_tableIn (t := 113) d_GC_count_1 (by unfold jRi; omega) (by omega) (by omega) (by rw [hs7]; rfl) rfl ?_
    refine jt_aload_n d_GC_count_113 rfl ?_
    refine cm_get (k := 0) (v := .int (jI (I 0 8))) d_GC_count_114 GC_f104 (by decide) cc_0 rfl ?_
    have rb14 : -2147483648 ≤ I 0 8 ∧ I 0 8 ≤ 2147483647 := hz0.1 0 8
    exact cm_ret d_GC_count_117 rfl rfl (⟨I 0 8, rfl, by omega, rfl, rfl, by unfold ctA; rw [if_neg (by omega), if_neg (by omega), if_neg (by omega), if_neg (by omega), if_neg (by omega), if_neg (by omega), if_neg (by omega), if_pos (by omega)]⟩)
  by_cases hs8 : q = 8
  · skip
    refine jt_tableIn (t := 118) d_GC_count_1 (by unfold jRi; omega) (by omega) (by omega) (by rw [hs8]; rfl) rfl ?_
    refine jt_aload_n d_GC_count_118 rfl ?_
    refine cm_get (k := 0) (v := .ref (b + 5)) d_GC_count_119 GC_f21 (by decide) cc_0 rfl ?_
    refine cm_get (k := 5) (v := .int (jI (I 5 6))) d_GC_count_122 GC_f201 (by decide) cc_2 rfl ?_
    have rb15 : 0 ≤ I 5 6 ∧ I 5 6 ≤ 101 := hz0.1 5 6
    exact cm_ret d_GC_count_125 rfl rfl (⟨I 5 6, rfl, by omega, rfl, rfl, by unfold ctA; rw [if_neg (by omega), if_neg (by omega), if_neg (by omega), if_neg (by omega), if_neg (by omega), if_neg (by omega), if_neg (by omega), if_neg (by omega), if_pos (by omega)]⟩)
  exfalso
  omega

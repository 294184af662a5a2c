set_option maxRecDepth 100000 in
set_option maxHeartbeats 4000000 in
theorem l42_FO_setReplaced_xv (G : jG) (d b : Nat) (me : Nat) (o : Nat) (I : Nat → Nat → Int) (A : Nat → Int → Int) (hI : cSI I) (hA : cSA A) (k_me : me < 472) (k5me : ck me = 5) (k_o : o < 472) (k5o : ck o = 5) (V9 : Int → Int → Int) (hV : cVf A V9) (hVr : ∀ v, 0 ≤ v → v < 12 → inr (V9 v)) (hF : inr (A (o + 1))) (hm : 70 ≤ me) (hne : me ≠ o) (f0 : jF) (sz : Nat)  (n : Int) (p : Int) (n0 : 0 ≤ n ∧ n ≤ 1) (p0 : 0 ≤ p ∧ p < 13) (hout : ∀ (x : Int) (y : Int) (v : Int) (J : Nat → Nat → Int) (B : Nat → Int → Int), cPx [] [me + 1] I A J B → (0 ≤ v ∧ v ≤ 12) → (-(4503599627370496 * (v)) ≤ x ∧ x ≤ 4503599627370496 * (v)) → (-(4503599627370496 + 72057594037927936 * (v)) ≤ y ∧ y ≤ 4503599627370496 + 72057594037927936 * (v)) → (x * 1048576 + y = sbP V9 (A (o + 1)) p v) → (∀ z, 0 ≤ z → z < p → B (me + 1) z = sbT V9 (A (o + 1)) z / 65536) → (n = 1 → ∀ z, 0 ≤ z → z < p → sbT V9 (A (o + 1)) z % 65536 = 0 ∧ gin (sbT V9 (A (o + 1)) z / 65536)) → (n = 0 → ¬ sbK V9 (A (o + 1))) → (v = 12) → jt (jm G Y_FO_setReplaced (gR (d + 1)) (cQ b f0 sz (fun (rv : Option Value) (I2 : Nat → Nat → Int) (A2 : Nat → Int → Int) => ∃ y : Int, rv = some (.int (jI y)) ∧ (0 ≤ y ∧ y ≤ 1) ∧ cPx [] [me + 1] I A I2 A2 ∧ (∀ z, 0 ≤ z → z < 13 → A2 (me + 1) z = sbT V9 (A (o + 1)) z / 65536) ∧ (y = 1 → sbK V9 (A (o + 1))) ∧ (y = 0 → ¬ sbK V9 (A (o + 1)))))) 114 [(0, .ref (b + me)), (1, .ref (b + o)), (2, .ref (b + 45)), (3, .int (jI n)), (4, .int (jI p)), (5, .long (jL x)), (7, .long (jL y)), (9, .int (jI v))] [] (cmf b f0 J B) sz 0 0) : ∀ (n9 : Nat) (x : Int) (y : Int) (v : Int) (J : Nat → Nat → Int) (B : Nat → Int → Int), cPx [] [me + 1] I A J B → (0 ≤ v ∧ v ≤ 12) → (-(4503599627370496 * (v)) ≤ x ∧ x ≤ 4503599627370496 * (v)) → (-(4503599627370496 + 72057594037927936 * (v)) ≤ y ∧ y ≤ 4503599627370496 + 72057594037927936 * (v)) → (x * 1048576 + y = sbP V9 (A (o + 1)) p v) → (∀ z, 0 ≤ z → z < p → B (me + 1) z = sbT V9 (A (o + 1)) z / 65536) → (n = 1 → ∀ z, 0 ≤ z → z < p → sbT V9 (A (o + 1)) z % 65536 = 0 ∧ gin (sbT V9 (A (o + 1)) z / 65536)) → (n = 0 → ¬ sbK V9 (A (o + 1))) → 12 - v < (n9 : Int) → jt (jm G Y_FO_setReplaced (gR (d + 1)) (cQ b f0 sz (fun (rv : Option Value) (I2 : Nat → Nat → Int) (A2 : Nat → Int → Int) => ∃ y : Int, rv = some (.int (jI y)) ∧ (0 ≤ y ∧ y ≤ 1) ∧ cPx [] [me + 1] I A I2 A2 ∧ (∀ z, 0 ≤ z → z < 13 → A2 (me + 1) z = sbT V9 (A (o + 1)) z / 65536) ∧ (y = 1 → sbK V9 (A (o + 1))) ∧ (y = 0 → ¬ sbK V9 (A (o + 1)))))) 42 [(0, .ref (b + me)), (1, .ref (b + o)), (2, .ref (b + 45)), (3, .int (jI n)), (4, .int (jI p)), (5, .long (jL x)), (7, .long (jL y)), (9, .int (jI v))] [] (cmf b f0 J B) sz 0 0 := by
  have fpme := form_parts me k_me k5me
  have glme := eLong k_me k5me
  have fpo := form_parts o k_o k5o
  have glo := eLong k_o k5o
  intro n9
  induction n9 with
  | zero =>
    intro x y v J B hJ v0 bx by9 hs hv hn1 hn0 hmeas
    have fo : B (o + 1) = A (o + 1) := hJ.2.2.2 (o + 1) (ctn1 (by omega)) trivial
    have fV : ∀ u : Int, 0 ≤ u → u < 12 → B (47 + 2 * u.toNat) = V9 u := fun u a c => (hJ.2.2.2 _ (ctn1 (by omega)) trivial).trans (hV u a c)
    have f12 := hF 12 (by decide) (by decide)
    exfalso
    omega
  | succ n9 ih =>
    intro x y v J B hJ v0 bx by9 hs hv hn1 hn0 hmeas
    have fo : B (o + 1) = A (o + 1) := hJ.2.2.2 (o + 1) (ctn1 (by omega)) trivial
    have fV : ∀ u : Int, 0 ≤ u → u < 12 → B (47 + 2 * u.toNat) = V9 u := fun u a c => (hJ.2.2.2 _ (ctn1 (by omega)) trivial).trans (hV u a c)
    have f12 := hF 12 (by decide) (by decide)
    refine jt_iload d_FO_setReplaced_42 rfl ?_
    refine jt_bipush d_FO_setReplaced_44 (by omega) ?_
    refine jt_icmp_ge (t := 114) d_FO_setReplaced_46 rfl (by unfold jRi; omega) (by unfold jRi; omega) (fun c101 => ?_) (fun c101 => ?_)
    · skip
      exact hout x y v J B hJ v0 bx by9 hs hv hn1 hn0 (by omega)
    · skip
      refine jt_aload_n d_FO_setReplaced_49 rfl ?_
      refine cm_get (k := o) (v := .ref (b + (o + 1))) d_FO_setReplaced_50 FO_f11 k_o (cc_5 k5o) rfl ?_
      refine jt_iload d_FO_setReplaced_53 rfl ?_
      refine cm_ld1 (k := o + 1) (n := 13) (v := (B ((o + 1))) v) d_FO_setReplaced_55 fpo.2.2 fpo.1 fpo.2.1 (by omega) (by omega) (by omega) rfl ?_
      refine jt_topl (fun v102 ev102 => ?_)
      have bv102 : -9223372036854775808 ≤ v102 ∧ v102 ≤ 9223372036854775807 := by have q9 := hJ.2.1 (o + 1) v; rw [glo.1, glo.2] at q9; rw [ev102]; exact q9
      rw [fo] at ev102
      refine jt_lstore (L' := [(0, .ref (b + me)), (1, .ref (b + o)), (2, .ref (b + 45)), (3, .int (jI n)), (4, .int (jI p)), (5, .long (jL x)), (7, .long (jL y)), (9, .int (jI v)), (10, .long (jL v102))]) d_FO_setReplaced_56 (Nat.le_of_ble_eq_true rfl) rfl ?_
      refine jt_lload d_FO_setReplaced_58 rfl ?_
      refine jt_lconst (z := 0) d_FO_setReplaced_60 (by decide) ?_
      refine jt_lif_eq (t := 108) d_FO_setReplaced_61 d_FO_setReplaced_62 rfl (by unfold jRl; omega) (by unfold jRl; omega) (fun c103 => ?_) (fun c103 => ?_)
      · skip
        refine jt_iinc (L' := [(0, .ref (b + me)), (1, .ref (b + o)), (2, .ref (b + 45)), (3, .int (jI n)), (4, .int (jI p)), (5, .long (jL x)), (7, .long (jL y)), (9, .int (jI (v + 1))), (10, .long (jL v102))]) d_FO_setReplaced_108 rfl (Nat.le_of_ble_eq_true rfl) rfl ?_
        refine jt_goto (t := 42) d_FO_setReplaced_111 rfl ?_
        refine jt_sub (L' := [(0, .ref (b + me)), (1, .ref (b + o)), (2, .ref (b + 45)), (3, .int (jI n)), (4, .int (jI p)), (5, .long (jL x)), (7, .long (jL y)), (9, .int (jI (v + 1)))]) (fun _ h => List.mem_append_left [(10, Value.long (jL v102))] h) ?_
        exact ih x y (v + 1) J B hJ (by omega) (by omega) (by omega) (by rw [sbP_s (by omega)]; have z9 : A (o + 1) v * V9 v p = 0 := (by rw [show A (o + 1) v = 0 by omega]; exact Int.zero_mul _); omega) hv hn1 hn0 (by omega)
      · skip
        refine jt_lload d_FO_setReplaced_65 rfl ?_
        refine jt_lload d_FO_setReplaced_67 rfl ?_
        refine jt_bipush d_FO_setReplaced_69 (by omega) ?_
        refine jt_lshr20 d_FO_setReplaced_71 (by unfold jRl; omega) ?_
        refine jt_topl (fun v104 ev104 => ?_)
        refine jt_aload_n d_FO_setReplaced_72 rfl ?_
        refine jt_iload d_FO_setReplaced_73 rfl ?_
        refine cm_ldF (k := 45) (n := 12) (z := v) d_FO_setReplaced_75 (by decide) rfl rfl (by omega) (by omega) (by omega) ?_
        have hfq105 := form_at 45 (by decide) rfl (v : Int).toNat (show (v : Int).toNat < 12 by omega)
        obtain ⟨q105, eqq105⟩ : ∃ q9 : Nat, q9 = 45 + 1 + 2 * (v : Int).toNat := ⟨_, rfl⟩
        rw [← eqq105] at hfq105 ⊢
        have fpq105 := form_parts q105 hfq105.2 hfq105.1
        have glq105 := eLong hfq105.2 hfq105.1
        refine cm_get (k := q105) (v := .ref (b + (q105 + 1))) d_FO_setReplaced_76 FO_f11 hfq105.2 (cc_5 hfq105.1) rfl ?_
        refine jt_iload d_FO_setReplaced_79 rfl ?_
        refine cm_ld1 (k := q105 + 1) (n := 13) (v := (B ((q105 + 1))) p) d_FO_setReplaced_81 fpq105.2.2 fpq105.1 fpq105.2.1 (by omega) (by omega) (by omega) rfl ?_
        refine jt_topl (fun v106 ev106 => ?_)
        have bv106 : -9223372036854775808 ≤ v106 ∧ v106 ≤ 9223372036854775807 := by have q9 := hJ.2.1 (q105 + 1) p; rw [glq105.1, glq105.2] at q9; rw [ev106]; exact q9
        rw [show q105 + 1 = 47 + 2 * (v : Int).toNat by omega, fV v (by omega) (by omega)] at ev106
        refine jt_lmul d_FO_setReplaced_82 ?_
        refine jt_topln (fun v107 bv107 ev107 => ?_)
        refine jt_ladd d_FO_setReplaced_83 ?_
        refine jt_topln (fun v108 bv108 ev108 => ?_)
        refine jt_lstore (L' := [(0, .ref (b + me)), (1, .ref (b + o)), (2, .ref (b + 45)), (3, .int (jI n)), (4, .int (jI p)), (5, .long (jL v108)), (7, .long (jL y)), (9, .int (jI v)), (10, .long (jL v102))]) d_FO_setReplaced_84 (Nat.le_of_ble_eq_true rfl) rfl ?_
        refine jt_lload d_FO_setReplaced_86 rfl ?_
        refine jt_lload d_FO_setReplaced_88 rfl ?_
        refine jt_ldc2 (z := 1048575) d_FO_setReplaced_90 FO_k30 ?_
        refine jt_land20 d_FO_setReplaced_93 ?_
        refine jt_topl (fun v109 ev109 => ?_)
        refine jt_aload_n d_FO_setReplaced_94 rfl ?_
        refine jt_iload d_FO_setReplaced_95 rfl ?_
        refine cm_ldF (k := 45) (n := 12) (z := v) d_FO_setReplaced_97 (by decide) rfl rfl (by omega) (by omega) (by omega) ?_
        have hfq110 := form_at 45 (by decide) rfl (v : Int).toNat (show (v : Int).toNat < 12 by omega)
        obtain ⟨q110, eqq110⟩ : ∃ q9 : Nat, q9 = 45 + 1 + 2 * (v : Int).toNat := ⟨_, rfl⟩
        rw [← eqq110] at hfq110 ⊢
        have fpq110 := form_parts q110 hfq110.2 hfq110.1
        have glq110 := eLong hfq110.2 hfq110.1
        refine cm_get (k := q110) (v := .ref (b + (q110 + 1))) d_FO_setReplaced_98 FO_f11 hfq110.2 (cc_5 hfq110.1) rfl ?_
        refine jt_iload d_FO_setReplaced_101 rfl ?_
        refine cm_ld1 (k := q110 + 1) (n := 13) (v := (B ((q110 + 1))) p) d_FO_setReplaced_103 fpq110.2.2 fpq110.1 fpq110.2.1 (by omega) (by omega) (by omega) rfl ?_
        refine jt_topl (fun v111 ev111 => ?_)
        have bv111 : -9223372036854775808 ≤ v111 ∧ v111 ≤ 9223372036854775807 := by have q9 := hJ.2.1 (q110 + 1) p; rw [glq110.1, glq110.2] at q9; rw [ev111]; exact q9
        rw [show q110 + 1 = 47 + 2 * (v : Int).toNat by omega, fV v (by omega) (by omega)] at ev111
        refine jt_lmul d_FO_setReplaced_104 ?_
        refine jt_topln (fun v112 bv112 ev112 => ?_)
        refine jt_ladd d_FO_setReplaced_105 ?_
        refine jt_topln (fun v113 bv113 ev113 => ?_)
        refine jt_lstore (L' := [(0, .ref (b + me)), (1, .ref (b + o)), (2, .ref (b + 45)), (3, .int (jI n)), (4, .int (jI p)), (5, .long (jL v108)), (7, .long (jL v113)), (9, .int (jI v)), (10, .long (jL v102))]) d_FO_setReplaced_106 (Nat.le_of_ble_eq_true rfl) rfl ?_
        rw [ev104] at ev107
        rw [ev109, show v111 = v106 by omega] at ev112
        obtain ⟨k1, k2, k3⟩ := sr_step (f := v102) (x := v106) (by have q9 := hF v (by omega) (by omega); rw [ev102]; exact q9) (by have q9 := hVr v (by omega) (by omega) p (by omega) (by omega); rw [ev106]; exact q9) (by omega) (by omega) bx by9 bv107 ev107 bv108 ev108 bv112 ev112 bv113 ev113
        refine jt_iinc (L' := [(0, .ref (b + me)), (1, .ref (b + o)), (2, .ref (b + 45)), (3, .int (jI n)), (4, .int (jI p)), (5, .long (jL v108)), (7, .long (jL v113)), (9, .int (jI (v + 1))), (10, .long (jL v102))]) d_FO_setReplaced_108 rfl (Nat.le_of_ble_eq_true rfl) rfl ?_
        refine jt_goto (t := 42) d_FO_setReplaced_111 rfl ?_
        refine jt_sub (L' := [(0, .ref (b + me)), (1, .ref (b + o)), (2, .ref (b + 45)), (3, .int (jI n)), (4, .int (jI p)), (5, .long (jL v108)), (7, .long (jL v113)), (9, .int (jI (v + 1)))]) (fun _ h => List.mem_append_left [(10, Value.long (jL v102))] h) ?_
        exact ih v108 v113 (v + 1) J B hJ (by omega) k2 k3 (by rw [sbP_s (by omega), ← ev102, ← ev106]; omega) hv hn1 hn0 (by omega)
set_option maxRecDepth 100000 in
set_option maxHeartbeats 4000000 in
theorem l5_FO_setReplaced_xv (G : jG) (d b : Nat) (me : Nat) (o : Nat) (I : Nat → Nat → Int) (A : Nat → Int → Int) (hI : cSI I) (hA : cSA A) (k_me : me < 472) (k5me : ck me = 5) (k_o : o < 472) (k5o : ck o = 5) (V9 : Int → Int → Int) (hV : cVf A V9) (hVr : ∀ v, 0 ≤ v → v < 12 → inr (V9 v)) (hF : inr (A (o + 1))) (hm : 70 ≤ me) (hne : me ≠ o) (f0 : jF) (sz : Nat)   : ∀ (n9 : Nat) (n : Int) (p : Int) (J : Nat → Nat → Int) (B : Nat → Int → Int), cPx [] [me + 1] I A J B → (0 ≤ n ∧ n ≤ 1) → (0 ≤ p ∧ p ≤ 13) → (∀ z, 0 ≤ z → z < p → B (me + 1) z = sbT V9 (A (o + 1)) z / 65536) → (n = 1 → ∀ z, 0 ≤ z → z < p → sbT V9 (A (o + 1)) z % 65536 = 0 ∧ gin (sbT V9 (A (o + 1)) z / 65536)) → (n = 0 → ¬ sbK V9 (A (o + 1))) → 13 - p < (n9 : Int) → jt (jm G Y_FO_setReplaced (gR (d + 1)) (cQ b f0 sz (fun (rv : Option Value) (I2 : Nat → Nat → Int) (A2 : Nat → Int → Int) => ∃ y : Int, rv = some (.int (jI y)) ∧ (0 ≤ y ∧ y ≤ 1) ∧ cPx [] [me + 1] I A I2 A2 ∧ (∀ z, 0 ≤ z → z < 13 → A2 (me + 1) z = sbT V9 (A (o + 1)) z / 65536) ∧ (y = 1 → sbK V9 (A (o + 1))) ∧ (y = 0 → ¬ sbK V9 (A (o + 1)))))) 5 [(0, .ref (b + me)), (1, .ref (b + o)), (2, .ref (b + 45)), (3, .int (jI n)), (4, .int (jI p))] [] (cmf b f0 J B) sz 0 0 := by
  have fpme := form_parts me k_me k5me
  have glme := eLong k_me k5me
  have fpo := form_parts o k_o k5o
  have glo := eLong k_o k5o
  intro n9
  induction n9 with
  | zero =>
    intro n p J B hJ n0 p0 hv hn1 hn0 hmeas
    have fo : B (o + 1) = A (o + 1) := hJ.2.2.2 (o + 1) (ctn1 (by omega)) trivial
    have fV : ∀ u : Int, 0 ≤ u → u < 12 → B (47 + 2 * u.toNat) = V9 u := fun u a c => (hJ.2.2.2 _ (ctn1 (by omega)) trivial).trans (hV u a c)
    have f12 := hF 12 (by decide) (by decide)
    exfalso
    omega
  | succ n9 ih =>
    intro n p J B hJ n0 p0 hv hn1 hn0 hmeas
    have fo : B (o + 1) = A (o + 1) := hJ.2.2.2 (o + 1) (ctn1 (by omega)) trivial
    have fV : ∀ u : Int, 0 ≤ u → u < 12 → B (47 + 2 * u.toNat) = V9 u := fun u a c => (hJ.2.2.2 _ (ctn1 (by omega)) trivial).trans (hV u a c)
    have f12 := hF 12 (by decide) (by decide)
    refine jt_iload d_FO_setReplaced_5 rfl ?_
    refine jt_bipush d_FO_setReplaced_7 (by omega) ?_
    refine jt_icmp_ge (t := 189) d_FO_setReplaced_9 rfl (by unfold jRi; omega) (by unfold jRi; omega) (fun c201 => ?_) (fun c201 => ?_)
    · skip
      refine jt_iload_n d_FO_setReplaced_189 rfl ?_
      exact cm_ret d_FO_setReplaced_190 rfl (jnz (by omega)) (⟨n, rfl, by omega, hJ, fun z a c => hv z a (by omega), fun z1 z a c => hn1 z1 z a (by omega), hn0⟩)
    · skip
      refine jt_lconst (z := 0) d_FO_setReplaced_12 (by decide) ?_
      refine jt_lstore (L' := [(0, .ref (b + me)), (1, .ref (b + o)), (2, .ref (b + 45)), (3, .int (jI n)), (4, .int (jI p)), (5, .long (jL 0))]) d_FO_setReplaced_13 (Nat.le_of_ble_eq_true rfl) rfl ?_
      refine jt_iload d_FO_setReplaced_15 rfl ?_
      refine jt_bipush d_FO_setReplaced_17 (by omega) ?_
      refine jt_icmp_ne (t := 36) d_FO_setReplaced_19 rfl (by unfold jRi; omega) (by unfold jRi; omega) (fun c202 => ?_) (fun c202 => ?_)
      · skip
        refine jt_lconst (z := 0) d_FO_setReplaced_36 (by decide) ?_
        refine jt_lstore (L' := [(0, .ref (b + me)), (1, .ref (b + o)), (2, .ref (b + 45)), (3, .int (jI n)), (4, .int (jI p)), (5, .long (jL 0)), (7, .long (jL 0))]) d_FO_setReplaced_37 (Nat.le_of_ble_eq_true rfl) rfl ?_
        refine jt_iconst d_FO_setReplaced_39 ?_
        refine jt_istore (L' := [(0, .ref (b + me)), (1, .ref (b + o)), (2, .ref (b + 45)), (3, .int (jI n)), (4, .int (jI p)), (5, .long (jL 0)), (7, .long (jL 0)), (9, .int (jI 0))]) d_FO_setReplaced_40 (Nat.le_of_ble_eq_true rfl) rfl ?_
        refine l42_FO_setReplaced_xv G d b me o I A hI hA k_me k5me k_o k5o V9 hV hVr hF hm hne f0 sz n p ((by omega)) ((by omega)) (fun xo203 yo203 vo203 Jo203 Bo203 hJo203 v0o203 bxo203 by9o203 hso203 hvo203 hn1o203 hn0o203 vzo203 => ?_) 13 0 0 0 J B hJ (by omega) (by omega) (by omega) (by rw [sbP_0]; first | (rw [if_pos (by omega)]; omega) | (rw [if_neg (by omega)]; omega)) hv hn1 hn0 (by omega)
        have tt : xo203 * 1048576 + yo203 = sbT V9 (A (o + 1)) p := by rw [hso203, vzo203]; rfl
        refine jt_lload d_FO_setReplaced_114 rfl ?_
        refine jt_lload d_FO_setReplaced_116 rfl ?_
        refine jt_bipush d_FO_setReplaced_118 (by omega) ?_
        refine jt_lshr20 d_FO_setReplaced_120 (by unfold jRl; omega) ?_
        refine jt_topl (fun v204 ev204 => ?_)
        refine jt_ladd d_FO_setReplaced_121 ?_
        refine jt_topln (fun v205 bv205 ev205 => ?_)
        refine jt_lstore (L' := [(0, .ref (b + me)), (1, .ref (b + o)), (2, .ref (b + 45)), (3, .int (jI n)), (4, .int (jI p)), (5, .long (jL v205)), (7, .long (jL yo203)), (9, .int (jI vo203))]) d_FO_setReplaced_122 (Nat.le_of_ble_eq_true rfl) rfl ?_
        refine jt_lload d_FO_setReplaced_124 rfl ?_
        refine jt_ldc2 (z := 1048575) d_FO_setReplaced_126 FO_k30 ?_
        refine jt_land20 d_FO_setReplaced_129 ?_
        refine jt_topl (fun v206 ev206 => ?_)
        refine jt_lstore (L' := [(0, .ref (b + me)), (1, .ref (b + o)), (2, .ref (b + 45)), (3, .int (jI n)), (4, .int (jI p)), (5, .long (jL v205)), (7, .long (jL v206)), (9, .int (jI vo203))]) d_FO_setReplaced_130 (Nat.le_of_ble_eq_true rfl) rfl ?_
        refine jt_aload_n d_FO_setReplaced_132 rfl ?_
        refine cm_get (k := me) (v := .ref (b + (me + 1))) d_FO_setReplaced_133 FO_f11 k_me (cc_5 k5me) rfl ?_
        refine jt_iload d_FO_setReplaced_136 rfl ?_
        refine jt_lload d_FO_setReplaced_138 rfl ?_
        refine jt_iconst d_FO_setReplaced_140 ?_
        refine jt_lshl4 d_FO_setReplaced_141 ?_
        refine jt_topln (fun v207 bv207 ev207 => ?_)
        refine jt_lload d_FO_setReplaced_142 rfl ?_
        refine jt_bipush d_FO_setReplaced_144 (by omega) ?_
        refine jt_lshr16 d_FO_setReplaced_146 (by unfold jRl; omega) ?_
        refine jt_topl (fun v208 ev208 => ?_)
        refine jt_ladd d_FO_setReplaced_147 ?_
        refine jt_topln (fun v209 bv209 ev209 => ?_)
        have st9 : v209 = sbT V9 (A (o + 1)) p / 65536 := by rw [← tt]; omega
        have sm9 : sbT V9 (A (o + 1)) p % 65536 = v206 % 65536 := by rw [← tt]; omega
        refine cm_st1 (k := me + 1) (n := 13) (v := v209) d_FO_setReplaced_148 fpme.2.2 fpme.1 fpme.2.1 (by omega) (by omega) (by omega) ?_
        refine cm_nmA (fun B210 eB210 => ?_)
        have p211 : cPx [] [me + 1] I A (Jo203) B210 := by rw [eB210]; exact cPx.A (me + 1) _ hJo203 (Or.inl ctn1s) (by rw [glme.1, glme.2]; exact gju (fun z9 => by have q9 := hJo203.2.1 (me + 1) z9; rw [glme.1, glme.2] at q9; exact q9) (show -9223372036854775808 ≤ v209 ∧ v209 ≤ 9223372036854775807 by omega))
        refine jt_iload_n d_FO_setReplaced_149 rfl ?_
        refine jt_if_eq (t := 181) d_FO_setReplaced_150 rfl (by unfold jRi; omega) (fun c212 => ?_) (fun c212 => ?_)
        · skip
          refine jt_iconst d_FO_setReplaced_181 ?_
          refine jt_istore_n (L' := [(0, .ref (b + me)), (1, .ref (b + o)), (2, .ref (b + 45)), (3, .int (jI 0)), (4, .int (jI p)), (5, .long (jL v205)), (7, .long (jL v206)), (9, .int (jI vo203))]) d_FO_setReplaced_182 (Nat.le_of_ble_eq_true rfl) rfl ?_
          refine jt_iinc (L' := [(0, .ref (b + me)), (1, .ref (b + o)), (2, .ref (b + 45)), (3, .int (jI 0)), (4, .int (jI (p + 1))), (5, .long (jL v205)), (7, .long (jL v206)), (9, .int (jI vo203))]) d_FO_setReplaced_183 rfl (Nat.le_of_ble_eq_true rfl) rfl ?_
          refine jt_goto (t := 5) d_FO_setReplaced_186 rfl ?_
          refine jt_sub (L' := [(0, .ref (b + me)), (1, .ref (b + o)), (2, .ref (b + 45)), (3, .int (jI 0)), (4, .int (jI (p + 1)))]) (fun _ h => List.mem_append_left [(5, Value.long (jL v205)), (7, Value.long (jL v206)), (9, Value.int (jI vo203))] h) ?_
          exact ih 0 (p + 1) Jo203 B210 p211 (by omega) (by omega) (fun z a c => by rcases Classical.em (z = p) with e9 | e9; exact (by rw [e9, (fo_st eB210).1]; exact st9); exact (by rw [(fo_st eB210).2 z e9]; exact hvo203 z a (by omega))) (fun z => absurd z (by omega)) (fun _ d9 => by first | exact hn0o203 (by omega) d9 | (have d8 := d9 p (by omega) (by omega); rw [sm9, ← st9] at d8; omega)) (by omega)
        · skip
          refine jt_lload d_FO_setReplaced_153 rfl ?_
          refine jt_ldc2 (z := 65535) d_FO_setReplaced_155 FO_k32 ?_
          refine jt_land16 d_FO_setReplaced_158 ?_
          refine jt_topl (fun v213 ev213 => ?_)
          refine jt_lconst (z := 0) d_FO_setReplaced_159 (by decide) ?_
          refine jt_lif_ne (t := 181) d_FO_setReplaced_160 d_FO_setReplaced_161 rfl (by unfold jRl; omega) (by unfold jRl; omega) (fun c214 => ?_) (fun c214 => ?_)
          · skip
            refine jt_iconst d_FO_setReplaced_181 ?_
            refine jt_istore_n (L' := [(0, .ref (b + me)), (1, .ref (b + o)), (2, .ref (b + 45)), (3, .int (jI 0)), (4, .int (jI p)), (5, .long (jL v205)), (7, .long (jL v206)), (9, .int (jI vo203))]) d_FO_setReplaced_182 (Nat.le_of_ble_eq_true rfl) rfl ?_
            refine jt_iinc (L' := [(0, .ref (b + me)), (1, .ref (b + o)), (2, .ref (b + 45)), (3, .int (jI 0)), (4, .int (jI (p + 1))), (5, .long (jL v205)), (7, .long (jL v206)), (9, .int (jI vo203))]) d_FO_setReplaced_183 rfl (Nat.le_of_ble_eq_true rfl) rfl ?_
            refine jt_goto (t := 5) d_FO_setReplaced_186 rfl ?_
            refine jt_sub (L' := [(0, .ref (b + me)), (1, .ref (b + o)), (2, .ref (b + 45)), (3, .int (jI 0)), (4, .int (jI (p + 1)))]) (fun _ h => List.mem_append_left [(5, Value.long (jL v205)), (7, Value.long (jL v206)), (9, Value.int (jI vo203))] h) ?_
            exact ih 0 (p + 1) Jo203 B210 p211 (by omega) (by omega) (fun z a c => by rcases Classical.em (z = p) with e9 | e9; exact (by rw [e9, (fo_st eB210).1]; exact st9); exact (by rw [(fo_st eB210).2 z e9]; exact hvo203 z a (by omega))) (fun z => absurd z (by omega)) (fun _ d9 => by first | exact hn0o203 (by omega) d9 | (have d8 := d9 p (by omega) (by omega); rw [sm9, ← st9] at d8; omega)) (by omega)
          · skip
            refine jt_aload_n d_FO_setReplaced_164 rfl ?_
            refine cm_get (k := me) (v := .ref (b + (me + 1))) d_FO_setReplaced_165 FO_f11 k_me (cc_5 k5me) rfl ?_
            refine jt_iload d_FO_setReplaced_168 rfl ?_
            refine cm_ld1 (k := me + 1) (n := 13) (v := (B210 ((me + 1))) p) d_FO_setReplaced_170 fpme.2.2 fpme.1 fpme.2.1 (by omega) (by omega) (by omega) rfl ?_
            refine jt_topl (fun v215 ev215 => ?_)
            have bv215 : -9223372036854775808 ≤ v215 ∧ v215 ≤ 9223372036854775807 := by have q9 := p211.2.1 (me + 1) p; rw [glme.1, glme.2] at q9; rw [ev215]; exact q9
            rw [(fo_st eB210).1] at ev215
            refine cct_callS (Y := Y_FO_isNumber) (As := [.long (jL v215)]) (rest := []) d_FO_setReplaced_171 FO_c20 yk_FO_isNumber ys_FO_isNumber (Nat.le_of_ble_eq_true rfl) rfl rfl (Nat.le_of_ble_eq_true rfl) (v_FO_isNumber_x G _ b v215 Jo203 B210 p211.1 p211.2.1 (by omega)) (fun rvq216 Iq216 Aq216 hq216 => ?_)
            obtain ⟨yq216, rfl, ryq216, hIq216, hAq216, hxq216⟩ := hq216
            rw [hIq216, hAq216]
            by_cases gbq216 : yq216 = 1
            · skip
              obtain rfl : yq216 = 1 := by omega
              have hwq216 := hxq216.1 rfl
              show jt _ 174 [(0, .ref (b + me)), (1, .ref (b + o)), (2, .ref (b + 45)), (3, .int (jI n)), (4, .int (jI p)), (5, .long (jL v205)), (7, .long (jL v206)), (9, .int (jI vo203))] [.int (jI 1)] (cmf b f0 Jo203 B210) _ _ _
              refine jt_if_eq (t := 181) d_FO_setReplaced_174 rfl (by unfold jRi; omega) (fun c217 => ?_) (fun c217 => ?_)
              · skip
                exfalso
                omega
              · skip
                refine jt_iconst d_FO_setReplaced_177 ?_
                refine jt_goto (t := 182) d_FO_setReplaced_178 rfl ?_
                refine jt_istore_n (L' := [(0, .ref (b + me)), (1, .ref (b + o)), (2, .ref (b + 45)), (3, .int (jI 1)), (4, .int (jI p)), (5, .long (jL v205)), (7, .long (jL v206)), (9, .int (jI vo203))]) d_FO_setReplaced_182 (Nat.le_of_ble_eq_true rfl) rfl ?_
                refine jt_iinc (L' := [(0, .ref (b + me)), (1, .ref (b + o)), (2, .ref (b + 45)), (3, .int (jI 1)), (4, .int (jI (p + 1))), (5, .long (jL v205)), (7, .long (jL v206)), (9, .int (jI vo203))]) d_FO_setReplaced_183 rfl (Nat.le_of_ble_eq_true rfl) rfl ?_
                refine jt_goto (t := 5) d_FO_setReplaced_186 rfl ?_
                refine jt_sub (L' := [(0, .ref (b + me)), (1, .ref (b + o)), (2, .ref (b + 45)), (3, .int (jI 1)), (4, .int (jI (p + 1)))]) (fun _ h => List.mem_append_left [(5, Value.long (jL v205)), (7, Value.long (jL v206)), (9, Value.int (jI vo203))] h) ?_
                exact ih 1 (p + 1) Jo203 B210 p211 (by omega) (by omega) (fun z a c => by rcases Classical.em (z = p) with e9 | e9; exact (by rw [e9, (fo_st eB210).1]; exact st9); exact (by rw [(fo_st eB210).2 z e9]; exact hvo203 z a (by omega))) (fun _ z a c => by rcases Classical.em (z = p) with e9 | e9; exact (by rw [e9]; exact ⟨by omega, by rw [← st9]; have h9 := hwq216; omega⟩); exact hn1o203 (by omega) z a (by omega)) (fun z => absurd z (by omega)) (by omega)
            · skip
              obtain rfl : yq216 = 0 := by omega
              have hwq216 := hxq216.2 rfl
              show jt _ 174 [(0, .ref (b + me)), (1, .ref (b + o)), (2, .ref (b + 45)), (3, .int (jI n)), (4, .int (jI p)), (5, .long (jL v205)), (7, .long (jL v206)), (9, .int (jI vo203))] [.int (jI 0)] (cmf b f0 Jo203 B210) _ _ _
              refine jt_if_eq (t := 181) d_FO_setReplaced_174 rfl (by unfold jRi; omega) (fun c218 => ?_) (fun c218 => ?_)
              · skip
                refine jt_iconst d_FO_setReplaced_181 ?_
                refine jt_istore_n (L' := [(0, .ref (b + me)), (1, .ref (b + o)), (2, .ref (b + 45)), (3, .int (jI 0)), (4, .int (jI p)), (5, .long (jL v205)), (7, .long (jL v206)), (9, .int (jI vo203))]) d_FO_setReplaced_182 (Nat.le_of_ble_eq_true rfl) rfl ?_
                refine jt_iinc (L' := [(0, .ref (b + me)), (1, .ref (b + o)), (2, .ref (b + 45)), (3, .int (jI 0)), (4, .int (jI (p + 1))), (5, .long (jL v205)), (7, .long (jL v206)), (9, .int (jI vo203))]) d_FO_setReplaced_183 rfl (Nat.le_of_ble_eq_true rfl) rfl ?_
                refine jt_goto (t := 5) d_FO_setReplaced_186 rfl ?_
                refine jt_sub (L' := [(0, .ref (b + me)), (1, .ref (b + o)), (2, .ref (b + 45)), (3, .int (jI 0)), (4, .int (jI (p + 1)))]) (fun _ h => List.mem_append_left [(5, Value.long (jL v205)), (7, Value.long (jL v206)), (9, Value.int (jI vo203))] h) ?_
                exact ih 0 (p + 1) Jo203 B210 p211 (by omega) (by omega) (fun z a c => by rcases Classical.em (z = p) with e9 | e9; exact (by rw [e9, (fo_st eB210).1]; exact st9); exact (by rw [(fo_st eB210).2 z e9]; exact hvo203 z a (by omega))) (fun z => absurd z (by omega)) (fun _ d9 => by first | exact hn0o203 (by omega) d9 | (have d8 := d9 p (by omega) (by omega); rw [sm9, ← st9] at d8; omega)) (by omega)
              · skip
                exfalso
                omega
      · skip
        refine jt_aload_n d_FO_setReplaced_22 rfl ?_
        refine cm_get (k := o) (v := .ref (b + (o + 1))) d_FO_setReplaced_23 FO_f11 k_o (cc_5 k5o) rfl ?_
        refine jt_bipush d_FO_setReplaced_26 (by omega) ?_
        refine cm_ld1 (k := o + 1) (n := 13) (v := (B ((o + 1))) 12) d_FO_setReplaced_28 fpo.2.2 fpo.1 fpo.2.1 (by omega) (by omega) (by omega) rfl ?_
        refine jt_topl (fun v219 ev219 => ?_)
        have bv219 : -9223372036854775808 ≤ v219 ∧ v219 ≤ 9223372036854775807 := by have q9 := hJ.2.1 (o + 1) 12; rw [glo.1, glo.2] at q9; rw [ev219]; exact q9
        rw [fo] at ev219
        refine jt_ldc2 (z := 65536) d_FO_setReplaced_29 FO_k28 ?_
        refine jt_lmul d_FO_setReplaced_32 ?_
        refine jt_topln (fun v220 bv220 ev220 => ?_)
        refine jt_goto (t := 37) d_FO_setReplaced_33 rfl ?_
        refine jt_lstore (L' := [(0, .ref (b + me)), (1, .ref (b + o)), (2, .ref (b + 45)), (3, .int (jI n)), (4, .int (jI p)), (5, .long (jL 0)), (7, .long (jL v220))]) d_FO_setReplaced_37 (Nat.le_of_ble_eq_true rfl) rfl ?_
        refine jt_iconst d_FO_setReplaced_39 ?_
        refine jt_istore (L' := [(0, .ref (b + me)), (1, .ref (b + o)), (2, .ref (b + 45)), (3, .int (jI n)), (4, .int (jI p)), (5, .long (jL 0)), (7, .long (jL v220)), (9, .int (jI 0))]) d_FO_setReplaced_40 (Nat.le_of_ble_eq_true rfl) rfl ?_
        refine l42_FO_setReplaced_xv G d b me o I A hI hA k_me k5me k_o k5o V9 hV hVr hF hm hne f0 sz n p ((by omega)) ((by omega)) (fun xo221 yo221 vo221 Jo221 Bo221 hJo221 v0o221 bxo221 by9o221 hso221 hvo221 hn1o221 hn0o221 vzo221 => ?_) 13 0 v220 0 J B hJ (by omega) (by omega) (by omega) (by rw [sbP_0]; first | (rw [if_pos (by omega)]; omega) | (rw [if_neg (by omega)]; omega)) hv hn1 hn0 (by omega)
        have tt : xo221 * 1048576 + yo221 = sbT V9 (A (o + 1)) p := by rw [hso221, vzo221]; rfl
        refine jt_lload d_FO_setReplaced_114 rfl ?_
        refine jt_lload d_FO_setReplaced_116 rfl ?_
        refine jt_bipush d_FO_setReplaced_118 (by omega) ?_
        refine jt_lshr20 d_FO_setReplaced_120 (by unfold jRl; omega) ?_
        refine jt_topl (fun v222 ev222 => ?_)
        refine jt_ladd d_FO_setReplaced_121 ?_
        refine jt_topln (fun v223 bv223 ev223 => ?_)
        refine jt_lstore (L' := [(0, .ref (b + me)), (1, .ref (b + o)), (2, .ref (b + 45)), (3, .int (jI n)), (4, .int (jI p)), (5, .long (jL v223)), (7, .long (jL yo221)), (9, .int (jI vo221))]) d_FO_setReplaced_122 (Nat.le_of_ble_eq_true rfl) rfl ?_
        refine jt_lload d_FO_setReplaced_124 rfl ?_
        refine jt_ldc2 (z := 1048575) d_FO_setReplaced_126 FO_k30 ?_
        refine jt_land20 d_FO_setReplaced_129 ?_
        refine jt_topl (fun v224 ev224 => ?_)
        refine jt_lstore (L' := [(0, .ref (b + me)), (1, .ref (b + o)), (2, .ref (b + 45)), (3, .int (jI n)), (4, .int (jI p)), (5, .long (jL v223)), (7, .long (jL v224)), (9, .int (jI vo221))]) d_FO_setReplaced_130 (Nat.le_of_ble_eq_true rfl) rfl ?_
        refine jt_aload_n d_FO_setReplaced_132 rfl ?_
        refine cm_get (k := me) (v := .ref (b + (me + 1))) d_FO_setReplaced_133 FO_f11 k_me (cc_5 k5me) rfl ?_
        refine jt_iload d_FO_setReplaced_136 rfl ?_
        refine jt_lload d_FO_setReplaced_138 rfl ?_
        refine jt_iconst d_FO_setReplaced_140 ?_
        refine jt_lshl4 d_FO_setReplaced_141 ?_
        refine jt_topln (fun v225 bv225 ev225 => ?_)
        refine jt_lload d_FO_setReplaced_142 rfl ?_
        refine jt_bipush d_FO_setReplaced_144 (by omega) ?_
        refine jt_lshr16 d_FO_setReplaced_146 (by unfold jRl; omega) ?_
        refine jt_topl (fun v226 ev226 => ?_)
        refine jt_ladd d_FO_setReplaced_147 ?_
        refine jt_topln (fun v227 bv227 ev227 => ?_)
        have st9 : v227 = sbT V9 (A (o + 1)) p / 65536 := by rw [← tt]; omega
        have sm9 : sbT V9 (A (o + 1)) p % 65536 = v224 % 65536 := by rw [← tt]; omega
        refine cm_st1 (k := me + 1) (n := 13) (v := v227) d_FO_setReplaced_148 fpme.2.2 fpme.1 fpme.2.1 (by omega) (by omega) (by omega) ?_
        refine cm_nmA (fun B228 eB228 => ?_)
        have p229 : cPx [] [me + 1] I A (Jo221) B228 := by rw [eB228]; exact cPx.A (me + 1) _ hJo221 (Or.inl ctn1s) (by rw [glme.1, glme.2]; exact gju (fun z9 => by have q9 := hJo221.2.1 (me + 1) z9; rw [glme.1, glme.2] at q9; exact q9) (show -9223372036854775808 ≤ v227 ∧ v227 ≤ 9223372036854775807 by omega))
        refine jt_iload_n d_FO_setReplaced_149 rfl ?_
        refine jt_if_eq (t := 181) d_FO_setReplaced_150 rfl (by unfold jRi; omega) (fun c230 => ?_) (fun c230 => ?_)
        · skip
          refine jt_iconst d_FO_setReplaced_181 ?_
          refine jt_istore_n (L' := [(0, .ref (b + me)), (1, .ref (b + o)), (2, .ref (b + 45)), (3, .int (jI 0)), (4, .int (jI p)), (5, .long (jL v223)), (7, .long (jL v224)), (9, .int (jI vo221))]) d_FO_setReplaced_182 (Nat.le_of_ble_eq_true rfl) rfl ?_
          refine jt_iinc (L' := [(0, .ref (b + me)), (1, .ref (b + o)), (2, .ref (b + 45)), (3, .int (jI 0)), (4, .int (jI (p + 1))), (5, .long (jL v223)), (7, .long (jL v224)), (9, .int (jI vo221))]) d_FO_setReplaced_183 rfl (Nat.le_of_ble_eq_true rfl) rfl ?_
          refine jt_goto (t := 5) d_FO_setReplaced_186 rfl ?_
          refine jt_sub (L' := [(0, .ref (b + me)), (1, .ref (b + o)), (2, .ref (b + 45)), (3, .int (jI 0)), (4, .int (jI (p + 1)))]) (fun _ h => List.mem_append_left [(5, Value.long (jL v223)), (7, Value.long (jL v224)), (9, Value.int (jI vo221))] h) ?_
          exact ih 0 (p + 1) Jo221 B228 p229 (by omega) (by omega) (fun z a c => by rcases Classical.em (z = p) with e9 | e9; exact (by rw [e9, (fo_st eB228).1]; exact st9); exact (by rw [(fo_st eB228).2 z e9]; exact hvo221 z a (by omega))) (fun z => absurd z (by omega)) (fun _ d9 => by first | exact hn0o221 (by omega) d9 | (have d8 := d9 p (by omega) (by omega); rw [sm9, ← st9] at d8; omega)) (by omega)
        · skip
          refine jt_lload d_FO_setReplaced_153 rfl ?_
          refine jt_ldc2 (z := 65535) d_FO_setReplaced_155 FO_k32 ?_
          refine jt_land16 d_FO_setReplaced_158 ?_
          refine jt_topl (fun v231 ev231 => ?_)
          refine jt_lconst (z := 0) d_FO_setReplaced_159 (by decide) ?_
          refine jt_lif_ne (t := 181) d_FO_setReplaced_160 d_FO_setReplaced_161 rfl (by unfold jRl; omega) (by unfold jRl; omega) (fun c232 => ?_) (fun c232 => ?_)
          · skip
            refine jt_iconst d_FO_setReplaced_181 ?_
            refine jt_istore_n (L' := [(0, .ref (b + me)), (1, .ref (b + o)), (2, .ref (b + 45)), (3, .int (jI 0)), (4, .int (jI p)), (5, .long (jL v223)), (7, .long (jL v224)), (9, .int (jI vo221))]) d_FO_setReplaced_182 (Nat.le_of_ble_eq_true rfl) rfl ?_
            refine jt_iinc (L' := [(0, .ref (b + me)), (1, .ref (b + o)), (2, .ref (b + 45)), (3, .int (jI 0)), (4, .int (jI (p + 1))), (5, .long (jL v223)), (7, .long (jL v224)), (9, .int (jI vo221))]) d_FO_setReplaced_183 rfl (Nat.le_of_ble_eq_true rfl) rfl ?_
            refine jt_goto (t := 5) d_FO_setReplaced_186 rfl ?_
            refine jt_sub (L' := [(0, .ref (b + me)), (1, .ref (b + o)), (2, .ref (b + 45)), (3, .int (jI 0)), (4, .int (jI (p + 1)))]) (fun _ h => List.mem_append_left [(5, Value.long (jL v223)), (7, Value.long (jL v224)), (9, Value.int (jI vo221))] h) ?_
            exact ih 0 (p + 1) Jo221 B228 p229 (by omega) (by omega) (fun z a c => by rcases Classical.em (z = p) with e9 | e9; exact (by rw [e9, (fo_st eB228).1]; exact st9); exact (by rw [(fo_st eB228).2 z e9]; exact hvo221 z a (by omega))) (fun z => absurd z (by omega)) (fun _ d9 => by first | exact hn0o221 (by omega) d9 | (have d8 := d9 p (by omega) (by omega); rw [sm9, ← st9] at d8; omega)) (by omega)
          · skip
            refine jt_aload_n d_FO_setReplaced_164 rfl ?_
            refine cm_get (k := me) (v := .ref (b + (me + 1))) d_FO_setReplaced_165 FO_f11 k_me (cc_5 k5me) rfl ?_
            refine jt_iload d_FO_setReplaced_168 rfl ?_
            refine cm_ld1 (k := me + 1) (n := 13) (v := (B228 ((me + 1))) p) d_FO_setReplaced_170 fpme.2.2 fpme.1 fpme.2.1 (by omega) (by omega) (by omega) rfl ?_
            refine jt_topl (fun v233 ev233 => ?_)
            have bv233 : -9223372036854775808 ≤ v233 ∧ v233 ≤ 9223372036854775807 := by have q9 := p229.2.1 (me + 1) p; rw [glme.1, glme.2] at q9; rw [ev233]; exact q9
            rw [(fo_st eB228).1] at ev233
            refine cct_callS (Y := Y_FO_isNumber) (As := [.long (jL v233)]) (rest := []) d_FO_setReplaced_171 FO_c20 yk_FO_isNumber ys_FO_isNumber (Nat.le_of_ble_eq_true rfl) rfl rfl (Nat.le_of_ble_eq_true rfl) (v_FO_isNumber_x G _ b v233 Jo221 B228 p229.1 p229.2.1 (by omega)) (fun rvq234 Iq234 Aq234 hq234 => ?_)
            obtain ⟨yq234, rfl, ryq234, hIq234, hAq234, hxq234⟩ := hq234
            rw [hIq234, hAq234]
            by_cases gbq234 : yq234 = 1
            · skip
              obtain rfl : yq234 = 1 := by omega
              have hwq234 := hxq234.1 rfl
              show jt _ 174 [(0, .ref (b + me)), (1, .ref (b + o)), (2, .ref (b + 45)), (3, .int (jI n)), (4, .int (jI p)), (5, .long (jL v223)), (7, .long (jL v224)), (9, .int (jI vo221))] [.int (jI 1)] (cmf b f0 Jo221 B228) _ _ _
              refine jt_if_eq (t := 181) d_FO_setReplaced_174 rfl (by unfold jRi; omega) (fun c235 => ?_) (fun c235 => ?_)
              · skip
                exfalso
                omega
              · skip
                refine jt_iconst d_FO_setReplaced_177 ?_
                refine jt_goto (t := 182) d_FO_setReplaced_178 rfl ?_
                refine jt_istore_n (L' := [(0, .ref (b + me)), (1, .ref (b + o)), (2, .ref (b + 45)), (3, .int (jI 1)), (4, .int (jI p)), (5, .long (jL v223)), (7, .long (jL v224)), (9, .int (jI vo221))]) d_FO_setReplaced_182 (Nat.le_of_ble_eq_true rfl) rfl ?_
                refine jt_iinc (L' := [(0, .ref (b + me)), (1, .ref (b + o)), (2, .ref (b + 45)), (3, .int (jI 1)), (4, .int (jI (p + 1))), (5, .long (jL v223)), (7, .long (jL v224)), (9, .int (jI vo221))]) d_FO_setReplaced_183 rfl (Nat.le_of_ble_eq_true rfl) rfl ?_
                refine jt_goto (t := 5) d_FO_setReplaced_186 rfl ?_
                refine jt_sub (L' := [(0, .ref (b + me)), (1, .ref (b + o)), (2, .ref (b + 45)), (3, .int (jI 1)), (4, .int (jI (p + 1)))]) (fun _ h => List.mem_append_left [(5, Value.long (jL v223)), (7, Value.long (jL v224)), (9, Value.int (jI vo221))] h) ?_
                exact ih 1 (p + 1) Jo221 B228 p229 (by omega) (by omega) (fun z a c => by rcases Classical.em (z = p) with e9 | e9; exact (by rw [e9, (fo_st eB228).1]; exact st9); exact (by rw [(fo_st eB228).2 z e9]; exact hvo221 z a (by omega))) (fun _ z a c => by rcases Classical.em (z = p) with e9 | e9; exact (by rw [e9]; exact ⟨by omega, by rw [← st9]; have h9 := hwq234; omega⟩); exact hn1o221 (by omega) z a (by omega)) (fun z => absurd z (by omega)) (by omega)
            · skip
              obtain rfl : yq234 = 0 := by omega
              have hwq234 := hxq234.2 rfl
              show jt _ 174 [(0, .ref (b + me)), (1, .ref (b + o)), (2, .ref (b + 45)), (3, .int (jI n)), (4, .int (jI p)), (5, .long (jL v223)), (7, .long (jL v224)), (9, .int (jI vo221))] [.int (jI 0)] (cmf b f0 Jo221 B228) _ _ _
              refine jt_if_eq (t := 181) d_FO_setReplaced_174 rfl (by unfold jRi; omega) (fun c236 => ?_) (fun c236 => ?_)
              · skip
                refine jt_iconst d_FO_setReplaced_181 ?_
                refine jt_istore_n (L' := [(0, .ref (b + me)), (1, .ref (b + o)), (2, .ref (b + 45)), (3, .int (jI 0)), (4, .int (jI p)), (5, .long (jL v223)), (7, .long (jL v224)), (9, .int (jI vo221))]) d_FO_setReplaced_182 (Nat.le_of_ble_eq_true rfl) rfl ?_
                refine jt_iinc (L' := [(0, .ref (b + me)), (1, .ref (b + o)), (2, .ref (b + 45)), (3, .int (jI 0)), (4, .int (jI (p + 1))), (5, .long (jL v223)), (7, .long (jL v224)), (9, .int (jI vo221))]) d_FO_setReplaced_183 rfl (Nat.le_of_ble_eq_true rfl) rfl ?_
                refine jt_goto (t := 5) d_FO_setReplaced_186 rfl ?_
                refine jt_sub (L' := [(0, .ref (b + me)), (1, .ref (b + o)), (2, .ref (b + 45)), (3, .int (jI 0)), (4, .int (jI (p + 1)))]) (fun _ h => List.mem_append_left [(5, Value.long (jL v223)), (7, Value.long (jL v224)), (9, Value.int (jI vo221))] h) ?_
                exact ih 0 (p + 1) Jo221 B228 p229 (by omega) (by omega) (fun z a c => by rcases Classical.em (z = p) with e9 | e9; exact (by rw [e9, (fo_st eB228).1]; exact st9); exact (by rw [(fo_st eB228).2 z e9]; exact hvo221 z a (by omega))) (fun z => absurd z (by omega)) (fun _ d9 => by first | exact hn0o221 (by omega) d9 | (have d8 := d9 p (by omega) (by omega); rw [sm9, ← st9] at d8; omega)) (by omega)
              · skip
                exfalso
                omega
set_option maxRecDepth 100000 in
set_option maxHeartbeats 4000000 in
theorem v_FO_setReplaced_x (G : jG) (d b : Nat) (me : Nat) (o : Nat) (I : Nat → Nat → Int) (A : Nat → Int → Int) (hI : cSI I) (hA : cSA A) (k_me : me < 472) (k5me : ck me = 5) (k_o : o < 472) (k5o : ck o = 5) (V9 : Int → Int → Int) (hV : cVf A V9) (hVr : ∀ v, 0 ≤ v → v < 12 → inr (V9 v)) (hF : inr (A (o + 1))) (hm : 70 ≤ me) (hne : me ≠ o) : cct G Y_FO_setReplaced (d + 1) b [.ref (b + me), .ref (b + o), .ref (b + 45)] I A (fun (rv : Option Value) (I2 : Nat → Nat → Int) (A2 : Nat → Int → Int) => ∃ y : Int, rv = some (.int (jI y)) ∧ (0 ≤ y ∧ y ≤ 1) ∧ cPx [] [me + 1] I A I2 A2 ∧ (∀ z, 0 ≤ z → z < 13 → A2 (me + 1) z = sbT V9 (A (o + 1)) z / 65536) ∧ (y = 1 → sbK V9 (A (o + 1))) ∧ (y = 0 → ¬ sbK V9 (A (o + 1)))) := by
  refine cct_of (by decide) (Nat.le_of_ble_eq_true rfl) (fun f0 sz => ?_)
  show jt _ 0 [(0, .ref (b + me)), (1, .ref (b + o)), (2, .ref (b + 45))] [] _ _ _ _
  have fpme := form_parts me k_me k5me
  have glme := eLong k_me k5me
  have fpo := form_parts o k_o k5o
  have glo := eLong k_o k5o
  have hz0 : cPx [] [me + 1] I A I A := cPx.refl hI hA
  refine jt_iconst d_FO_setReplaced_0 ?_
  refine jt_istore_n (L' := [(0, .ref (b + me)), (1, .ref (b + o)), (2, .ref (b + 45)), (3, .int (jI 1))]) d_FO_setReplaced_1 (Nat.le_of_ble_eq_true rfl) rfl ?_
  refine jt_iconst d_FO_setReplaced_2 ?_
  refine jt_istore (L' := [(0, .ref (b + me)), (1, .ref (b + o)), (2, .ref (b + 45)), (3, .int (jI 1)), (4, .int (jI 0))]) d_FO_setReplaced_3 (Nat.le_of_ble_eq_true rfl) rfl ?_
  exact l5_FO_setReplaced_xv G d b me o I A hI hA k_me k5me k_o k5o V9 hV hVr hF hm hne f0 sz  14 1 0 I A hz0 (by omega) (by omega) (fun z a c => by omega) (fun _ z a c => by omega) (fun z => absurd z (by omega)) (by omega)
set_option maxRecDepth 100000 in
set_option maxHeartbeats 4000000 in
theorem l22_FO_setSolved_xv (G : jG) (d b : Nat) (me : Nat) (o : Nat) (v : Int) (I : Nat → Nat → Int) (A : Nat → Int → Int) (hI : cSI I) (hA : cSA A) (k_me : me < 472) (k5me : ck me = 5) (k_o : o < 472) (k5o : ck o = 5) (v0 : 0 ≤ v ∧ v < 12) (hw : wid (A (o + 1))) (hnz : A (o + 1) v ≠ 0) (hne : me ≠ o) (f0 : jF) (sz : Nat)  (q : Int) (hd : q = -(A (o + 1) v)) (q0 : ¬ q = 0) (q1 : -9223372036854775808 ≤ q ∧ q ≤ 9223372036854775807) : ∀ (n9 : Nat) (n : Int) (p : Int) (J : Nat → Nat → Int) (B : Nat → Int → Int), cPx [] [me + 1] I A J B → (0 ≤ n ∧ n ≤ 1) → (0 ≤ p ∧ p ≤ 13) → (n = 1 → ∀ z, 0 ≤ z → z < p → (z = v → B (me + 1) z = 0) ∧ (z ≠ v → B (me + 1) z * A (o + 1) v = -(A (o + 1) z * 65536)) ∧ gin (B (me + 1) z)) → (n = 0 → ¬ ∃ S : Int → Int, SL (A (o + 1)) v S ∧ inr S) → 13 - p < (n9 : Int) → jt (jm G Y_FO_setSolved (gR (d + 1)) (cQ b f0 sz (fun (rv : Option Value) (I2 : Nat → Nat → Int) (A2 : Nat → Int → Int) => ∃ y : Int, rv = some (.int (jI y)) ∧ (0 ≤ y ∧ y ≤ 1) ∧ cPx [] [me + 1] I A I2 A2 ∧ (y = 1 → SL (A (o + 1)) v (A2 (me + 1)) ∧ inr (A2 (me + 1))) ∧ (y = 0 → ¬ ∃ S : Int → Int, SL (A (o + 1)) v S ∧ inr S)))) 22 [(0, .ref (b + me)), (1, .ref (b + o)), (2, .int (jI v)), (3, .long (jL q)), (5, .int (jI n)), (6, .int (jI p))] [] (cmf b f0 J B) sz 0 0 := by
  have fpme := form_parts me k_me k5me
  have glme := eLong k_me k5me
  have fpo := form_parts o k_o k5o
  have glo := eLong k_o k5o
  have wv := hw v (by omega) (by omega)
  intro n9
  induction n9 with
  | zero =>
    intro n p J B hJ n0 p0 hn1 hn0 hmeas
    have fo : B (o + 1) = A (o + 1) := hJ.2.2.2 (o + 1) (ctn1 (by omega)) trivial
    have wp : 0 ≤ p → p < 13 → -137438953472 ≤ A (o + 1) p ∧ A (o + 1) p ≤ 137438953472 := hw p
    exfalso
    omega
  | succ n9 ih =>
    intro n p J B hJ n0 p0 hn1 hn0 hmeas
    have fo : B (o + 1) = A (o + 1) := hJ.2.2.2 (o + 1) (ctn1 (by omega)) trivial
    have wp : 0 ≤ p → p < 13 → -137438953472 ≤ A (o + 1) p ∧ A (o + 1) p ≤ 137438953472 := hw p
    refine jt_iload d_FO_setSolved_22 rfl ?_
    refine jt_bipush d_FO_setSolved_24 (by omega) ?_
    refine jt_icmp_ge (t := 103) d_FO_setSolved_26 rfl (by unfold jRi; omega) (by unfold jRi; omega) (fun c101 => ?_) (fun c101 => ?_)
    · skip
      refine jt_iload d_FO_setSolved_103 rfl ?_
      exact cm_ret d_FO_setSolved_105 rfl (jnz (by omega)) (⟨n, rfl, by omega, hJ, fun z1 => ⟨⟨((hn1 z1 v (by omega) (by omega)).1 rfl), fun i a c ne => (hn1 z1 i a (by omega)).2.1 ne⟩, fun i a c => (hn1 z1 i a (by omega)).2.2⟩, hn0⟩)
    · skip
      refine jt_iload d_FO_setSolved_29 rfl ?_
      refine jt_iload_n d_FO_setSolved_31 rfl ?_
      refine jt_icmp_ne (t := 39) d_FO_setSolved_32 rfl (by unfold jRi; omega) (by unfold jRi; omega) (fun c102 => ?_) (fun c102 => ?_)
      · skip
        refine jt_aload_n d_FO_setSolved_39 rfl ?_
        refine cm_get (k := o) (v := .ref (b + (o + 1))) d_FO_setSolved_40 FO_f11 k_o (cc_5 k5o) rfl ?_
        refine jt_iload d_FO_setSolved_43 rfl ?_
        refine cm_ld1 (k := o + 1) (n := 13) (v := (B ((o + 1))) p) d_FO_setSolved_45 fpo.2.2 fpo.1 fpo.2.1 (by omega) (by omega) (by omega) rfl ?_
        refine jt_topl (fun v103 ev103 => ?_)
        have bv103 : -9223372036854775808 ≤ v103 ∧ v103 ≤ 9223372036854775807 := by have q9 := hJ.2.1 (o + 1) p; rw [glo.1, glo.2] at q9; rw [ev103]; exact q9
        rw [fo] at ev103
        refine jt_ldc2 (z := 65536) d_FO_setSolved_46 FO_k28 ?_
        refine jt_lmul d_FO_setSolved_49 ?_
        refine jt_topln (fun v104 bv104 ev104 => ?_)
        refine jt_lstore (L' := [(0, .ref (b + me)), (1, .ref (b + o)), (2, .int (jI v)), (3, .long (jL q)), (5, .int (jI n)), (6, .int (jI p)), (7, .long (jL v104))]) d_FO_setSolved_50 (Nat.le_of_ble_eq_true rfl) rfl ?_
        refine jt_aload_n d_FO_setSolved_52 rfl ?_
        refine cm_get (k := me) (v := .ref (b + (me + 1))) d_FO_setSolved_53 FO_f11 k_me (cc_5 k5me) rfl ?_
        refine jt_iload d_FO_setSolved_56 rfl ?_
        refine jt_lload d_FO_setSolved_58 rfl ?_
        refine jt_lload_n d_FO_setSolved_60 rfl ?_
        refine jt_ldiv d_FO_setSolved_61 (by unfold jRl; omega) (by unfold jRl; omega) (by omega) ?_
        refine jt_topln (fun v105 bv105 ev105 => ?_)
        have tb := ss_b v104 q
        have ty : v105 = Int.tdiv v104 q := by omega
        refine cm_st1 (k := me + 1) (n := 13) (v := v105) d_FO_setSolved_62 fpme.2.2 fpme.1 fpme.2.1 (by omega) (by omega) (by omega) ?_
        refine cm_nmA (fun B106 eB106 => ?_)
        have p107 : cPx [] [me + 1] I A (J) B106 := by rw [eB106]; exact cPx.A (me + 1) _ hJ (Or.inl ctn1s) (by rw [glme.1, glme.2]; exact gju (fun z9 => by have q9 := hJ.2.1 (me + 1) z9; rw [glme.1, glme.2] at q9; exact q9) (show -9223372036854775808 ≤ v105 ∧ v105 ≤ 9223372036854775807 by omega))
        refine jt_iload d_FO_setSolved_63 rfl ?_
        refine jt_if_eq (t := 94) d_FO_setSolved_65 rfl (by unfold jRi; omega) (fun c108 => ?_) (fun c108 => ?_)
        · skip
          refine jt_iconst d_FO_setSolved_94 ?_
          refine jt_istore (L' := [(0, .ref (b + me)), (1, .ref (b + o)), (2, .int (jI v)), (3, .long (jL q)), (5, .int (jI 0)), (6, .int (jI p)), (7, .long (jL v104))]) d_FO_setSolved_95 (Nat.le_of_ble_eq_true rfl) rfl ?_
          refine jt_iinc (L' := [(0, .ref (b + me)), (1, .ref (b + o)), (2, .int (jI v)), (3, .long (jL q)), (5, .int (jI 0)), (6, .int (jI (p + 1))), (7, .long (jL v104))]) d_FO_setSolved_97 rfl (Nat.le_of_ble_eq_true rfl) rfl ?_
          refine jt_goto (t := 22) d_FO_setSolved_100 rfl ?_
          refine jt_sub (L' := [(0, .ref (b + me)), (1, .ref (b + o)), (2, .int (jI v)), (3, .long (jL q)), (5, .int (jI 0)), (6, .int (jI (p + 1)))]) (fun _ h => List.mem_append_left [(7, Value.long (jL v104))] h) ?_
          exact ih 0 (p + 1) J B106 p107 (by omega) (by omega) (fun z => absurd z (by omega)) (fun _ d9 => by first | exact hn0 (by omega) d9 | (obtain ⟨S9, hS9, hi9⟩ := d9; have g9 := hi9 p (by omega) (by omega); have r9 : Int.tmod v104 q = 0 ∧ Int.tdiv v104 q = S9 p := (by rcases Classical.em (p = v) with e9 | e9; exact ss_r q0 (by have h7 := hS9.1; rw [e9, h7, Int.zero_mul] <;> omega); exact ss_r q0 (by have h8 := hS9.2 p (by omega) (by omega) e9; rw [hd, Int.mul_neg]; omega)); rw [← ty] at r9; omega)) (by omega)
        · skip
          refine jt_lload d_FO_setSolved_68 rfl ?_
          refine jt_lload_n d_FO_setSolved_70 rfl ?_
          refine jt_lrem d_FO_setSolved_71 (by unfold jRl; omega) (by unfold jRl; omega) (by omega) ?_
          refine jt_topln (fun v109 bv109 ev109 => ?_)
          have tm := ss_m v104 q
          have tr : v109 = Int.tmod v104 q := by omega
          refine jt_lconst (z := 0) d_FO_setSolved_72 (by decide) ?_
          refine jt_lif_ne (t := 94) d_FO_setSolved_73 d_FO_setSolved_74 rfl (by unfold jRl; omega) (by unfold jRl; omega) (fun c110 => ?_) (fun c110 => ?_)
          · skip
            refine jt_iconst d_FO_setSolved_94 ?_
            refine jt_istore (L' := [(0, .ref (b + me)), (1, .ref (b + o)), (2, .int (jI v)), (3, .long (jL q)), (5, .int (jI 0)), (6, .int (jI p)), (7, .long (jL v104))]) d_FO_setSolved_95 (Nat.le_of_ble_eq_true rfl) rfl ?_
            refine jt_iinc (L' := [(0, .ref (b + me)), (1, .ref (b + o)), (2, .int (jI v)), (3, .long (jL q)), (5, .int (jI 0)), (6, .int (jI (p + 1))), (7, .long (jL v104))]) d_FO_setSolved_97 rfl (Nat.le_of_ble_eq_true rfl) rfl ?_
            refine jt_goto (t := 22) d_FO_setSolved_100 rfl ?_
            refine jt_sub (L' := [(0, .ref (b + me)), (1, .ref (b + o)), (2, .int (jI v)), (3, .long (jL q)), (5, .int (jI 0)), (6, .int (jI (p + 1)))]) (fun _ h => List.mem_append_left [(7, Value.long (jL v104))] h) ?_
            exact ih 0 (p + 1) J B106 p107 (by omega) (by omega) (fun z => absurd z (by omega)) (fun _ d9 => by first | exact hn0 (by omega) d9 | (obtain ⟨S9, hS9, hi9⟩ := d9; have g9 := hi9 p (by omega) (by omega); have r9 : Int.tmod v104 q = 0 ∧ Int.tdiv v104 q = S9 p := (by rcases Classical.em (p = v) with e9 | e9; exact ss_r q0 (by have h7 := hS9.1; rw [e9, h7, Int.zero_mul] <;> omega); exact ss_r q0 (by have h8 := hS9.2 p (by omega) (by omega) e9; rw [hd, Int.mul_neg]; omega)); rw [← ty] at r9; omega)) (by omega)
          · skip
            refine jt_aload_n d_FO_setSolved_77 rfl ?_
            refine cm_get (k := me) (v := .ref (b + (me + 1))) d_FO_setSolved_78 FO_f11 k_me (cc_5 k5me) rfl ?_
            refine jt_iload d_FO_setSolved_81 rfl ?_
            refine cm_ld1 (k := me + 1) (n := 13) (v := (B106 ((me + 1))) p) d_FO_setSolved_83 fpme.2.2 fpme.1 fpme.2.1 (by omega) (by omega) (by omega) rfl ?_
            refine jt_topl (fun v111 ev111 => ?_)
            have bv111 : -9223372036854775808 ≤ v111 ∧ v111 ≤ 9223372036854775807 := by have q9 := p107.2.1 (me + 1) p; rw [glme.1, glme.2] at q9; rw [ev111]; exact q9
            rw [(fo_st eB106).1] at ev111
            refine cct_callS (Y := Y_FO_isNumber) (As := [.long (jL v111)]) (rest := []) d_FO_setSolved_84 FO_c20 yk_FO_isNumber ys_FO_isNumber (Nat.le_of_ble_eq_true rfl) rfl rfl (Nat.le_of_ble_eq_true rfl) (v_FO_isNumber_x G _ b v111 J B106 p107.1 p107.2.1 (by omega)) (fun rvq112 Iq112 Aq112 hq112 => ?_)
            obtain ⟨yq112, rfl, ryq112, hIq112, hAq112, hxq112⟩ := hq112
            rw [hIq112, hAq112]
            by_cases gbq112 : yq112 = 1
            · skip
              obtain rfl : yq112 = 1 := by omega
              have hwq112 := hxq112.1 rfl
              show jt _ 87 [(0, .ref (b + me)), (1, .ref (b + o)), (2, .int (jI v)), (3, .long (jL q)), (5, .int (jI n)), (6, .int (jI p)), (7, .long (jL v104))] [.int (jI 1)] (cmf b f0 J B106) _ _ _
              refine jt_if_eq (t := 94) d_FO_setSolved_87 rfl (by unfold jRi; omega) (fun c113 => ?_) (fun c113 => ?_)
              · skip
                exfalso
                omega
              · skip
                refine jt_iconst d_FO_setSolved_90 ?_
                refine jt_goto (t := 95) d_FO_setSolved_91 rfl ?_
                refine jt_istore (L' := [(0, .ref (b + me)), (1, .ref (b + o)), (2, .int (jI v)), (3, .long (jL q)), (5, .int (jI 1)), (6, .int (jI p)), (7, .long (jL v104))]) d_FO_setSolved_95 (Nat.le_of_ble_eq_true rfl) rfl ?_
                refine jt_iinc (L' := [(0, .ref (b + me)), (1, .ref (b + o)), (2, .int (jI v)), (3, .long (jL q)), (5, .int (jI 1)), (6, .int (jI (p + 1))), (7, .long (jL v104))]) d_FO_setSolved_97 rfl (Nat.le_of_ble_eq_true rfl) rfl ?_
                refine jt_goto (t := 22) d_FO_setSolved_100 rfl ?_
                refine jt_sub (L' := [(0, .ref (b + me)), (1, .ref (b + o)), (2, .int (jI v)), (3, .long (jL q)), (5, .int (jI 1)), (6, .int (jI (p + 1)))]) (fun _ h => List.mem_append_left [(7, Value.long (jL v104))] h) ?_
                exact ih 1 (p + 1) J B106 p107 (by omega) (by omega) (fun _ z a c => by rcases Classical.em (z = p) with e9 | e9; exact (by rw [e9, (fo_st eB106).1]; refine ⟨fun y9 => ?_, fun y9 => ?_, (by have h9 := hwq112; omega)⟩; exact (by first | (rw [ty]; exact Int.zero_tdiv q) | (exfalso; omega)); exact (by first | (exfalso; omega) | (have tq := ss_q (q := v104) (d := q) (by omega); rw [← ty, hd] at tq; rw [Int.mul_neg] at tq; omega))); exact (by rw [(fo_st eB106).2 z e9]; exact hn1 (by omega) z a (by omega))) (fun z => absurd z (by omega)) (by omega)
            · skip
              obtain rfl : yq112 = 0 := by omega
              have hwq112 := hxq112.2 rfl
              show jt _ 87 [(0, .ref (b + me)), (1, .ref (b + o)), (2, .int (jI v)), (3, .long (jL q)), (5, .int (jI n)), (6, .int (jI p)), (7, .long (jL v104))] [.int (jI 0)] (cmf b f0 J B106) _ _ _
              refine jt_if_eq (t := 94) d_FO_setSolved_87 rfl (by unfold jRi; omega) (fun c114 => ?_) (fun c114 => ?_)
              · skip
                refine jt_iconst d_FO_setSolved_94 ?_
                refine jt_istore (L' := [(0, .ref (b + me)), (1, .ref (b + o)), (2, .int (jI v)), (3, .long (jL q)), (5, .int (jI 0)), (6, .int (jI p)), (7, .long (jL v104))]) d_FO_setSolved_95 (Nat.le_of_ble_eq_true rfl) rfl ?_
                refine jt_iinc (L' := [(0, .ref (b + me)), (1, .ref (b + o)), (2, .int (jI v)), (3, .long (jL q)), (5, .int (jI 0)), (6, .int (jI (p + 1))), (7, .long (jL v104))]) d_FO_setSolved_97 rfl (Nat.le_of_ble_eq_true rfl) rfl ?_
                refine jt_goto (t := 22) d_FO_setSolved_100 rfl ?_
                refine jt_sub (L' := [(0, .ref (b + me)), (1, .ref (b + o)), (2, .int (jI v)), (3, .long (jL q)), (5, .int (jI 0)), (6, .int (jI (p + 1)))]) (fun _ h => List.mem_append_left [(7, Value.long (jL v104))] h) ?_
                exact ih 0 (p + 1) J B106 p107 (by omega) (by omega) (fun z => absurd z (by omega)) (fun _ d9 => by first | exact hn0 (by omega) d9 | (obtain ⟨S9, hS9, hi9⟩ := d9; have g9 := hi9 p (by omega) (by omega); have r9 : Int.tmod v104 q = 0 ∧ Int.tdiv v104 q = S9 p := (by rcases Classical.em (p = v) with e9 | e9; exact ss_r q0 (by have h7 := hS9.1; rw [e9, h7, Int.zero_mul] <;> omega); exact ss_r q0 (by have h8 := hS9.2 p (by omega) (by omega) e9; rw [hd, Int.mul_neg]; omega)); rw [← ty] at r9; omega)) (by omega)
              · skip
                exfalso
                omega
      · skip
        refine jt_lconst (z := 0) d_FO_setSolved_35 (by decide) ?_
        refine jt_goto (t := 50) d_FO_setSolved_36 rfl ?_
        refine jt_lstore (L' := [(0, .ref (b + me)), (1, .ref (b + o)), (2, .int (jI v)), (3, .long (jL q)), (5, .int (jI n)), (6, .int (jI p)), (7, .long (jL 0))]) d_FO_setSolved_50 (Nat.le_of_ble_eq_true rfl) rfl ?_
        refine jt_aload_n d_FO_setSolved_52 rfl ?_
        refine cm_get (k := me) (v := .ref (b + (me + 1))) d_FO_setSolved_53 FO_f11 k_me (cc_5 k5me) rfl ?_
        refine jt_iload d_FO_setSolved_56 rfl ?_
        refine jt_lload d_FO_setSolved_58 rfl ?_
        refine jt_lload_n d_FO_setSolved_60 rfl ?_
        refine jt_ldiv d_FO_setSolved_61 (by unfold jRl; omega) (by unfold jRl; omega) (by omega) ?_
        refine jt_topln (fun v115 bv115 ev115 => ?_)
        have tb := ss_b 0 q
        have ty : v115 = Int.tdiv 0 q := by omega
        refine cm_st1 (k := me + 1) (n := 13) (v := v115) d_FO_setSolved_62 fpme.2.2 fpme.1 fpme.2.1 (by omega) (by omega) (by omega) ?_
        refine cm_nmA (fun B116 eB116 => ?_)
        have p117 : cPx [] [me + 1] I A (J) B116 := by rw [eB116]; exact cPx.A (me + 1) _ hJ (Or.inl ctn1s) (by rw [glme.1, glme.2]; exact gju (fun z9 => by have q9 := hJ.2.1 (me + 1) z9; rw [glme.1, glme.2] at q9; exact q9) (show -9223372036854775808 ≤ v115 ∧ v115 ≤ 9223372036854775807 by omega))
        refine jt_iload d_FO_setSolved_63 rfl ?_
        refine jt_if_eq (t := 94) d_FO_setSolved_65 rfl (by unfold jRi; omega) (fun c118 => ?_) (fun c118 => ?_)
        · skip
          refine jt_iconst d_FO_setSolved_94 ?_
          refine jt_istore (L' := [(0, .ref (b + me)), (1, .ref (b + o)), (2, .int (jI v)), (3, .long (jL q)), (5, .int (jI 0)), (6, .int (jI p)), (7, .long (jL 0))]) d_FO_setSolved_95 (Nat.le_of_ble_eq_true rfl) rfl ?_
          refine jt_iinc (L' := [(0, .ref (b + me)), (1, .ref (b + o)), (2, .int (jI v)), (3, .long (jL q)), (5, .int (jI 0)), (6, .int (jI (p + 1))), (7, .long (jL 0))]) d_FO_setSolved_97 rfl (Nat.le_of_ble_eq_true rfl) rfl ?_
          refine jt_goto (t := 22) d_FO_setSolved_100 rfl ?_
          refine jt_sub (L' := [(0, .ref (b + me)), (1, .ref (b + o)), (2, .int (jI v)), (3, .long (jL q)), (5, .int (jI 0)), (6, .int (jI (p + 1)))]) (fun _ h => List.mem_append_left [(7, Value.long (jL 0))] h) ?_
          exact ih 0 (p + 1) J B116 p117 (by omega) (by omega) (fun z => absurd z (by omega)) (fun _ d9 => by first | exact hn0 (by omega) d9 | (obtain ⟨S9, hS9, hi9⟩ := d9; have g9 := hi9 p (by omega) (by omega); have r9 : Int.tmod 0 q = 0 ∧ Int.tdiv 0 q = S9 p := (by rcases Classical.em (p = v) with e9 | e9; exact ss_r q0 (by have h7 := hS9.1; rw [e9, h7, Int.zero_mul] <;> omega); exact ss_r q0 (by have h8 := hS9.2 p (by omega) (by omega) e9; rw [hd, Int.mul_neg]; omega)); rw [← ty] at r9; omega)) (by omega)
        · skip
          refine jt_lload d_FO_setSolved_68 rfl ?_
          refine jt_lload_n d_FO_setSolved_70 rfl ?_
          refine jt_lrem d_FO_setSolved_71 (by unfold jRl; omega) (by unfold jRl; omega) (by omega) ?_
          refine jt_topln (fun v119 bv119 ev119 => ?_)
          have tm := ss_m 0 q
          have tr : v119 = Int.tmod 0 q := by omega
          refine jt_lconst (z := 0) d_FO_setSolved_72 (by decide) ?_
          refine jt_lif_ne (t := 94) d_FO_setSolved_73 d_FO_setSolved_74 rfl (by unfold jRl; omega) (by unfold jRl; omega) (fun c120 => ?_) (fun c120 => ?_)
          · skip
            refine jt_iconst d_FO_setSolved_94 ?_
            refine jt_istore (L' := [(0, .ref (b + me)), (1, .ref (b + o)), (2, .int (jI v)), (3, .long (jL q)), (5, .int (jI 0)), (6, .int (jI p)), (7, .long (jL 0))]) d_FO_setSolved_95 (Nat.le_of_ble_eq_true rfl) rfl ?_
            refine jt_iinc (L' := [(0, .ref (b + me)), (1, .ref (b + o)), (2, .int (jI v)), (3, .long (jL q)), (5, .int (jI 0)), (6, .int (jI (p + 1))), (7, .long (jL 0))]) d_FO_setSolved_97 rfl (Nat.le_of_ble_eq_true rfl) rfl ?_
            refine jt_goto (t := 22) d_FO_setSolved_100 rfl ?_
            refine jt_sub (L' := [(0, .ref (b + me)), (1, .ref (b + o)), (2, .int (jI v)), (3, .long (jL q)), (5, .int (jI 0)), (6, .int (jI (p + 1)))]) (fun _ h => List.mem_append_left [(7, Value.long (jL 0))] h) ?_
            exact ih 0 (p + 1) J B116 p117 (by omega) (by omega) (fun z => absurd z (by omega)) (fun _ d9 => by first | exact hn0 (by omega) d9 | (obtain ⟨S9, hS9, hi9⟩ := d9; have g9 := hi9 p (by omega) (by omega); have r9 : Int.tmod 0 q = 0 ∧ Int.tdiv 0 q = S9 p := (by rcases Classical.em (p = v) with e9 | e9; exact ss_r q0 (by have h7 := hS9.1; rw [e9, h7, Int.zero_mul] <;> omega); exact ss_r q0 (by have h8 := hS9.2 p (by omega) (by omega) e9; rw [hd, Int.mul_neg]; omega)); rw [← ty] at r9; omega)) (by omega)
          · skip
            refine jt_aload_n d_FO_setSolved_77 rfl ?_
            refine cm_get (k := me) (v := .ref (b + (me + 1))) d_FO_setSolved_78 FO_f11 k_me (cc_5 k5me) rfl ?_
            refine jt_iload d_FO_setSolved_81 rfl ?_
            refine cm_ld1 (k := me + 1) (n := 13) (v := (B116 ((me + 1))) p) d_FO_setSolved_83 fpme.2.2 fpme.1 fpme.2.1 (by omega) (by omega) (by omega) rfl ?_
            refine jt_topl (fun v121 ev121 => ?_)
            have bv121 : -9223372036854775808 ≤ v121 ∧ v121 ≤ 9223372036854775807 := by have q9 := p117.2.1 (me + 1) p; rw [glme.1, glme.2] at q9; rw [ev121]; exact q9
            rw [(fo_st eB116).1] at ev121
            refine cct_callS (Y := Y_FO_isNumber) (As := [.long (jL v121)]) (rest := []) d_FO_setSolved_84 FO_c20 yk_FO_isNumber ys_FO_isNumber (Nat.le_of_ble_eq_true rfl) rfl rfl (Nat.le_of_ble_eq_true rfl) (v_FO_isNumber_x G _ b v121 J B116 p117.1 p117.2.1 (by omega)) (fun rvq122 Iq122 Aq122 hq122 => ?_)
            obtain ⟨yq122, rfl, ryq122, hIq122, hAq122, hxq122⟩ := hq122
            rw [hIq122, hAq122]
            by_cases gbq122 : yq122 = 1
            · skip
              obtain rfl : yq122 = 1 := by omega
              have hwq122 := hxq122.1 rfl
              show jt _ 87 [(0, .ref (b + me)), (1, .ref (b + o)), (2, .int (jI v)), (3, .long (jL q)), (5, .int (jI n)), (6, .int (jI p)), (7, .long (jL 0))] [.int (jI 1)] (cmf b f0 J B116) _ _ _
              refine jt_if_eq (t := 94) d_FO_setSolved_87 rfl (by unfold jRi; omega) (fun c123 => ?_) (fun c123 => ?_)
              · skip
                exfalso
                omega
              · skip
                refine jt_iconst d_FO_setSolved_90 ?_
                refine jt_goto (t := 95) d_FO_setSolved_91 rfl ?_
                refine jt_istore (L' := [(0, .ref (b + me)), (1, .ref (b + o)), (2, .int (jI v)), (3, .long (jL q)), (5, .int (jI 1)), (6, .int (jI p)), (7, .long (jL 0))]) d_FO_setSolved_95 (Nat.le_of_ble_eq_true rfl) rfl ?_
                refine jt_iinc (L' := [(0, .ref (b + me)), (1, .ref (b + o)), (2, .int (jI v)), (3, .long (jL q)), (5, .int (jI 1)), (6, .int (jI (p + 1))), (7, .long (jL 0))]) d_FO_setSolved_97 rfl (Nat.le_of_ble_eq_true rfl) rfl ?_
                refine jt_goto (t := 22) d_FO_setSolved_100 rfl ?_
                refine jt_sub (L' := [(0, .ref (b + me)), (1, .ref (b + o)), (2, .int (jI v)), (3, .long (jL q)), (5, .int (jI 1)), (6, .int (jI (p + 1)))]) (fun _ h => List.mem_append_left [(7, Value.long (jL 0))] h) ?_
                exact ih 1 (p + 1) J B116 p117 (by omega) (by omega) (fun _ z a c => by rcases Classical.em (z = p) with e9 | e9; exact (by rw [e9, (fo_st eB116).1]; refine ⟨fun y9 => ?_, fun y9 => ?_, (by have h9 := hwq122; omega)⟩; exact (by first | (rw [ty]; exact Int.zero_tdiv q) | (exfalso; omega)); exact (by first | (exfalso; omega) | (have tq := ss_q (q := 0) (d := q) (by omega); rw [← ty, hd] at tq; rw [Int.mul_neg] at tq; omega))); exact (by rw [(fo_st eB116).2 z e9]; exact hn1 (by omega) z a (by omega))) (fun z => absurd z (by omega)) (by omega)
            · skip
              obtain rfl : yq122 = 0 := by omega
              have hwq122 := hxq122.2 rfl
              show jt _ 87 [(0, .ref (b + me)), (1, .ref (b + o)), (2, .int (jI v)), (3, .long (jL q)), (5, .int (jI n)), (6, .int (jI p)), (7, .long (jL 0))] [.int (jI 0)] (cmf b f0 J B116) _ _ _
              refine jt_if_eq (t := 94) d_FO_setSolved_87 rfl (by unfold jRi; omega) (fun c124 => ?_) (fun c124 => ?_)
              · skip
                refine jt_iconst d_FO_setSolved_94 ?_
                refine jt_istore (L' := [(0, .ref (b + me)), (1, .ref (b + o)), (2, .int (jI v)), (3, .long (jL q)), (5, .int (jI 0)), (6, .int (jI p)), (7, .long (jL 0))]) d_FO_setSolved_95 (Nat.le_of_ble_eq_true rfl) rfl ?_
                refine jt_iinc (L' := [(0, .ref (b + me)), (1, .ref (b + o)), (2, .int (jI v)), (3, .long (jL q)), (5, .int (jI 0)), (6, .int (jI (p + 1))), (7, .long (jL 0))]) d_FO_setSolved_97 rfl (Nat.le_of_ble_eq_true rfl) rfl ?_
                refine jt_goto (t := 22) d_FO_setSolved_100 rfl ?_
                refine jt_sub (L' := [(0, .ref (b + me)), (1, .ref (b + o)), (2, .int (jI v)), (3, .long (jL q)), (5, .int (jI 0)), (6, .int (jI (p + 1)))]) (fun _ h => List.mem_append_left [(7, Value.long (jL 0))] h) ?_
                exact ih 0 (p + 1) J B116 p117 (by omega) (by omega) (fun z => absurd z (by omega)) (fun _ d9 => by first | exact hn0 (by omega) d9 | (obtain ⟨S9, hS9, hi9⟩ := d9; have g9 := hi9 p (by omega) (by omega); have r9 : Int.tmod 0 q = 0 ∧ Int.tdiv 0 q = S9 p := (by rcases Classical.em (p = v) with e9 | e9; exact ss_r q0 (by have h7 := hS9.1; rw [e9, h7, Int.zero_mul] <;> omega); exact ss_r q0 (by have h8 := hS9.2 p (by omega) (by omega) e9; rw [hd, Int.mul_neg]; omega)); rw [← ty] at r9; omega)) (by omega)
              · skip
                exfalso
                omega
set_option maxRecDepth 100000 in
set_option maxHeartbeats 4000000 in
theorem v_FO_setSolved_x (G : jG) (d b : Nat) (me : Nat) (o : Nat) (v : Int) (I : Nat → Nat → Int) (A : Nat → Int → Int) (hI : cSI I) (hA : cSA A) (k_me : me < 472) (k5me : ck me = 5) (k_o : o < 472) (k5o : ck o = 5) (v0 : 0 ≤ v ∧ v < 12) (hw : wid (A (o + 1))) (hnz : A (o + 1) v ≠ 0) (hne : me ≠ o) : cct G Y_FO_setSolved (d + 1) b [.ref (b + me), .ref (b + o), .int (jI v)] I A (fun (rv : Option Value) (I2 : Nat → Nat → Int) (A2 : Nat → Int → Int) => ∃ y : Int, rv = some (.int (jI y)) ∧ (0 ≤ y ∧ y ≤ 1) ∧ cPx [] [me + 1] I A I2 A2 ∧ (y = 1 → SL (A (o + 1)) v (A2 (me + 1)) ∧ inr (A2 (me + 1))) ∧ (y = 0 → ¬ ∃ S : Int → Int, SL (A (o + 1)) v S ∧ inr S)) := by
  refine cct_of (by decide) (Nat.le_of_ble_eq_true rfl) (fun f0 sz => ?_)
  show jt _ 0 [(0, .ref (b + me)), (1, .ref (b + o)), (2, .int (jI v))] [] _ _ _ _
  have fpme := form_parts me k_me k5me
  have glme := eLong k_me k5me
  have fpo := form_parts o k_o k5o
  have glo := eLong k_o k5o
  have wv := hw v (by omega) (by omega)
  have hz0 : cPx [] [me + 1] I A I A := cPx.refl hI hA
  refine jt_aload_n d_FO_setSolved_0 rfl ?_
  refine cm_get (k := o) (v := .ref (b + (o + 1))) d_FO_setSolved_1 FO_f11 k_o (cc_5 k5o) rfl ?_
  refine jt_iload_n d_FO_setSolved_4 rfl ?_
  refine cm_ld1 (k := o + 1) (n := 13) (v := (A ((o + 1))) v) d_FO_setSolved_5 fpo.2.2 fpo.1 fpo.2.1 (by omega) (by omega) (by omega) rfl ?_
  refine jt_topl (fun v1 ev1 => ?_)
  have bv1 : -9223372036854775808 ≤ v1 ∧ v1 ≤ 9223372036854775807 := by have q9 := hz0.2.1 (o + 1) v; rw [glo.1, glo.2] at q9; rw [ev1]; exact q9
  refine jt_lneg d_FO_setSolved_6 ?_
  refine jt_topln (fun v2 bv2 ev2 => ?_)
  refine jt_lstore_n (L' := [(0, .ref (b + me)), (1, .ref (b + o)), (2, .int (jI v)), (3, .long (jL v2))]) d_FO_setSolved_7 (Nat.le_of_ble_eq_true rfl) rfl ?_
  refine jt_lload_n d_FO_setSolved_8 rfl ?_
  refine jt_lconst (z := 0) d_FO_setSolved_9 (by decide) ?_
  refine jt_lif_ne (t := 16) d_FO_setSolved_10 d_FO_setSolved_11 rfl (by unfold jRl; omega) (by unfold jRl; omega) (fun c3 => ?_) (fun c3 => ?_)
  · skip
    refine jt_iconst d_FO_setSolved_16 ?_
    refine jt_istore (L' := [(0, .ref (b + me)), (1, .ref (b + o)), (2, .int (jI v)), (3, .long (jL v2)), (5, .int (jI 1))]) d_FO_setSolved_17 (Nat.le_of_ble_eq_true rfl) rfl ?_
    refine jt_iconst d_FO_setSolved_19 ?_
    refine jt_istore (L' := [(0, .ref (b + me)), (1, .ref (b + o)), (2, .int (jI v)), (3, .long (jL v2)), (5, .int (jI 1)), (6, .int (jI 0))]) d_FO_setSolved_20 (Nat.le_of_ble_eq_true rfl) rfl ?_
    exact l22_FO_setSolved_xv G d b me o v I A hI hA k_me k5me k_o k5o v0 hw hnz hne f0 sz v2 ((by omega)) ((by omega)) ((by omega)) 14 1 0 I A hz0 (by omega) (by omega) (fun _ z a c => by omega) (fun z => absurd z (by omega)) (by omega)
  · skip
    refine jt_iconst d_FO_setSolved_14 ?_
    exact cm_ret d_FO_setSolved_15 rfl (jnz (by omega)) (by exfalso; omega)

set_option maxRecDepth 100000 in
set_option maxHeartbeats 4000000 in
theorem l7_VA_replaceInAll_xv (G : jG) (d b : Nat) (v : Int) (I : Nat → Nat → Int) (A : Nat → Int → Int) (hI : cSI I) (hA : cSA A) (v0 : 0 ≤ v ∧ v < 12) (s : Int → Int) (V : Int → Int → Int) (hI9 : VI s V) (hsv : s v = 0) (S9 : Int → Int) (hS9 : A (47 + 2 * v.toNat) = S9) (hSv : S9 v = 0) (hSi : inr S9) (h0 : ∀ w, 0 ≤ w → w < 12 → A 44 w = s w ∧ (w ≠ v → vis (cV A w) (V w))) (f0 : jF) (sz : Nat)   : ∀ (n9 : Nat) (u : Int) (J : Nat → Nat → Int) (B : Nat → Int → Int), cPf [] tVar I A J B → (0 ≤ u ∧ u ≤ 12) → (RI s V v S9 u (B 44) (cV B)) → 12 - u < (n9 : Int) → jt (jm G Y_VA_replaceInAll (gR (d + 2)) (cQ b f0 sz (fun (rv : Option Value) (I2 : Nat → Nat → Int) (A2 : Nat → Int → Int) => ∃ y : Int, rv = some (.int (jI y)) ∧ (0 ≤ y ∧ y ≤ 1) ∧ cPf [] tVar I A I2 A2 ∧ (y = 1 → RI s V v S9 12 (A2 44) (cV A2)) ∧ (y = 0 → ∃ u : Int, 0 ≤ u ∧ u < 12 ∧ s u = 1 ∧ ¬ rpK (V u) v S9)))) 7 [(0, .ref (b + 43)), (1, .int (jI v)), (2, .int (jI u))] [] (cmf b f0 J B) sz 0 0 := by
  intro n9
  induction n9 with
  | zero =>
    intro u J B hJ u0 hR hmeas
    exfalso
    omega
  | succ n9 ih =>
    intro u J B hJ u0 hR hmeas
    refine jt_iload_n d_VA_replaceInAll_7 rfl ?_
    refine jt_bipush d_VA_replaceInAll_8 (by omega) ?_
    refine jt_icmp_ge (t := 85) d_VA_replaceInAll_10 rfl (by unfold jRi; omega) (by unfold jRi; omega) (fun c101 => ?_) (fun c101 => ?_)
    · skip
      refine jt_iconst d_VA_replaceInAll_85 ?_
      exact cm_ret d_VA_replaceInAll_86 rfl (jnz (by omega)) (⟨1, rfl, by omega, hJ, fun _ => by rw [show u = 12 by omega] at hR; exact hR, fun z => absurd z (by omega)⟩)
    · skip
      refine jt_aload_n d_VA_replaceInAll_13 rfl ?_
      refine cm_get (k := 43) (v := .ref (b + 44)) d_VA_replaceInAll_14 VA_f9 (by decide) (cc_4 rfl) rfl ?_
      refine jt_iload_n d_VA_replaceInAll_17 rfl ?_
      refine cm_ld0 (k := 44) (n := 12) (v := (B 44) u) d_VA_replaceInAll_18 (by decide) rfl rfl (by omega) (by omega) (by omega) rfl ?_
      refine jt_topi (fun v102 ev102 => ?_)
      have bv102 : -2147483648 ≤ v102 ∧ v102 ≤ 2147483647 := by rw [ev102]; exact hJ.2.1 44 u
      refine jt_iconst d_VA_replaceInAll_19 ?_
      refine jt_icmp_ne (t := 79) d_VA_replaceInAll_20 rfl (by unfold jRi; omega) (by unfold jRi; omega) (fun c103 => ?_) (fun c103 => ?_)
      · skip
        refine jt_iinc (L' := [(0, .ref (b + 43)), (1, .int (jI v)), (2, .int (jI (u + 1)))]) d_VA_replaceInAll_79 rfl (Nat.le_of_ble_eq_true rfl) rfl ?_
        refine jt_goto (t := 7) d_VA_replaceInAll_82 rfl ?_
        exact ih (u + 1) J B hJ (by omega) (RI_skip hI9 hR (by omega) (by omega) (Or.inl (by omega)) (by omega) (by omega) hSv hSi) (by omega)
      · skip
        refine jt_aload_n d_VA_replaceInAll_23 rfl ?_
        refine cm_get (k := 43) (v := .ref (b + 45)) d_VA_replaceInAll_24 VA_f21 (by decide) (cc_4 rfl) rfl ?_
        refine jt_iload_n d_VA_replaceInAll_27 rfl ?_
        refine cm_ldF (k := 45) (n := 12) (z := u) d_VA_replaceInAll_28 (by decide) rfl rfl (by omega) (by omega) (by omega) ?_
        have hfq104 := form_at 45 (by decide) rfl (u : Int).toNat (show (u : Int).toNat < 12 by omega)
        obtain ⟨q104, eqq104⟩ : ∃ q9 : Nat, q9 = 45 + 1 + 2 * (u : Int).toNat := ⟨_, rfl⟩
        rw [← eqq104] at hfq104 ⊢
        have fpq104 := form_parts q104 hfq104.2 hfq104.1
        have glq104 := eLong hfq104.2 hfq104.1
        refine cm_get (k := q104) (v := .ref (b + (q104 + 1))) d_VA_replaceInAll_29 VA_f54 hfq104.2 (cc_5 hfq104.1) rfl ?_
        refine jt_iload_n d_VA_replaceInAll_32 rfl ?_
        refine cm_ld1 (k := q104 + 1) (n := 13) (v := (B ((q104 + 1))) v) d_VA_replaceInAll_33 fpq104.2.2 fpq104.1 fpq104.2.1 (by omega) (by omega) (by omega) rfl ?_
        refine jt_topl (fun v105 ev105 => ?_)
        have bv105 : -9223372036854775808 ≤ v105 ∧ v105 ≤ 9223372036854775807 := by have q9 := hJ.2.1 (q104 + 1) v; rw [glq104.1, glq104.2] at q9; rw [ev105]; exact q9
        refine jt_lconst (z := 0) d_VA_replaceInAll_34 (by decide) ?_
        refine jt_lif_eq (t := 79) d_VA_replaceInAll_35 d_VA_replaceInAll_36 rfl (by unfold jRl; omega) (by unfold jRl; omega) (fun c106 => ?_) (fun c106 => ?_)
        · skip
          refine jt_iinc (L' := [(0, .ref (b + 43)), (1, .int (jI v)), (2, .int (jI (u + 1)))]) d_VA_replaceInAll_79 rfl (Nat.le_of_ble_eq_true rfl) rfl ?_
          refine jt_goto (t := 7) d_VA_replaceInAll_82 rfl ?_
          exact ih (u + 1) J B hJ (by omega) (RI_skip hI9 hR (by omega) (by omega) (Or.inr (by rw [cV_e (show u < 12 by omega), show 47 + 2 * u.toNat = q104 + 1 by omega, ← ev105]; omega)) (by omega) (by omega) hSv hSi) (by omega)
        · skip
          have uv : u ≠ v := by
            intro z
            have h9 := ((hR v (by omega) (by omega)).1 rfl).1 v (by omega) (by omega)
            have h8 : cV B v v = v105 := by rw [ev105, show q104 + 1 = 47 + 2 * u.toNat by omega, z, cV_e (by omega)]
            rw [h8, hSv] at h9
            omega
          have su : s u = 1 := by have h9 := ((hR u (by omega) (by omega)).2.2 uv (Or.inr (Int.le_refl _))).2; omega
          refine jt_aload_n d_VA_replaceInAll_39 rfl ?_
          refine cm_get (k := 43) (v := .ref (b + 72)) d_VA_replaceInAll_40 VA_f30 (by decide) (cc_4 rfl) rfl ?_
          refine jt_aload_n d_VA_replaceInAll_43 rfl ?_
          refine cm_get (k := 43) (v := .ref (b + 45)) d_VA_replaceInAll_44 VA_f21 (by decide) (cc_4 rfl) rfl ?_
          refine jt_iload_n d_VA_replaceInAll_47 rfl ?_
          refine cm_ldF (k := 45) (n := 12) (z := u) d_VA_replaceInAll_48 (by decide) rfl rfl (by omega) (by omega) (by omega) ?_
          have hfq107 := form_at 45 (by decide) rfl (u : Int).toNat (show (u : Int).toNat < 12 by omega)
          obtain ⟨q107, eqq107⟩ : ∃ q9 : Nat, q9 = 45 + 1 + 2 * (u : Int).toNat := ⟨_, rfl⟩
          rw [← eqq107] at hfq107 ⊢
          have fpq107 := form_parts q107 hfq107.2 hfq107.1
          have glq107 := eLong hfq107.2 hfq107.1
          refine jt_aload_n d_VA_replaceInAll_49 rfl ?_
          refine cm_get (k := 43) (v := .ref (b + 45)) d_VA_replaceInAll_50 VA_f21 (by decide) (cc_4 rfl) rfl ?_
          refine cct_callV (Y := Y_FO_setReplaced) (ci := 4) (k := 72) (As := [.ref (b + q107), .ref (b + 45)]) (rest := []) d_VA_replaceInAll_53 VA_c43 yk_FO_setReplaced yv_FO_setReplaced rfl (Nat.le_of_ble_eq_true rfl) (by decide) (cc_5 rfl) rfl rfl (Nat.le_of_ble_eq_true rfl) (v_FO_setReplaced_x G _ b 72 q107 J B hJ.1 hJ.2.1 (by decide) rfl hfq107.2 hfq107.1 (cV B) (cVf_V _) (RI_inr hI9 hR hSi) (by rw [show q107 + 1 = 47 + 2 * u.toNat by omega, ← cV_e (A := B) (show u < 12 by omega)]; exact RI_inr hI9 hR hSi u (by omega) (by omega)) (by decide) (by omega)) (fun rvq108 Iq108 Aq108 hq108 => ?_)
          obtain ⟨yq108, rfl, ryq108, hqq108, hxq108⟩ := hq108
          have hpq108 := cPf.transx hJ hqq108 rfl (by decide)
          have hsk := RI_sK hI9 hR (by omega) (by omega) uv (by omega) (by omega) hsv
          show jt _ 56 [(0, .ref (b + 43)), (1, .int (jI v)), (2, .int (jI u))] [.int (jI yq108)] (cmf b f0 Iq108 Aq108) _ _ _
          refine jt_if_ne (t := 61) d_VA_replaceInAll_56 rfl (by unfold jRi; omega) (fun c109 => ?_) (fun c109 => ?_)
          · skip
            have hk9 : sbK (cV B) (cV B u) := by have h9 := hxq108.2.1 (by omega); rw [show q107 + 1 = 47 + 2 * u.toNat by omega, ← cV_e (A := B) (show u < 12 by omega)] at h9; exact h9
            rw [show q107 + 1 = 47 + 2 * u.toNat by omega, ← cV_e (A := B) (show u < 12 by omega)] at hxq108
            refine jt_aload_n d_VA_replaceInAll_61 rfl ?_
            refine cm_get (k := 43) (v := .ref (b + 45)) d_VA_replaceInAll_62 VA_f21 (by decide) (cc_4 rfl) rfl ?_
            refine jt_iload_n d_VA_replaceInAll_65 rfl ?_
            refine cm_ldF (k := 45) (n := 12) (z := u) d_VA_replaceInAll_66 (by decide) rfl rfl (by omega) (by omega) (by omega) ?_
            have hfq110 := form_at 45 (by decide) rfl (u : Int).toNat (show (u : Int).toNat < 12 by omega)
            obtain ⟨q110, eqq110⟩ : ∃ q9 : Nat, q9 = 45 + 1 + 2 * (u : Int).toNat := ⟨_, rfl⟩
            rw [← eqq110] at hfq110 ⊢
            have fpq110 := form_parts q110 hfq110.2 hfq110.1
            have glq110 := eLong hfq110.2 hfq110.1
            refine jt_aload_n d_VA_replaceInAll_67 rfl ?_
            refine cm_get (k := 43) (v := .ref (b + 72)) d_VA_replaceInAll_68 VA_f30 (by decide) (cc_4 rfl) rfl ?_
            refine cct_callV (Y := Y_FO_copy) (ci := 4) (k := q110) (As := [.ref (b + 72)]) (rest := []) d_VA_replaceInAll_71 VA_c39 yk_FO_copy yv_FO_copy rfl (Nat.le_of_ble_eq_true rfl) hfq110.2 (cc_5 hfq110.1) rfl rfl (Nat.le_of_ble_eq_true rfl) (v_FO_copy_x G _ b q110 72 Iq108 Aq108 hpq108.1 hpq108.2.1 hfq110.2 hfq110.1 (by decide) rfl (by omega)) (fun rvq111 Iq111 Aq111 hq111 => ?_)
            obtain ⟨rfl, hqq111, hxq111⟩ := hq111
            have hpq111 := cPf.transx hpq108 hqq111 rfl (tv_in (by omega) (by omega))
            show jt _ 74 [(0, .ref (b + 43)), (1, .int (jI v)), (2, .int (jI u))] [] (cmf b f0 Iq111 Aq111) _ _ _
            refine jt_aload_n d_VA_replaceInAll_74 rfl ?_
            refine jt_iload_n d_VA_replaceInAll_75 rfl ?_
            refine cct_callV (Y := Y_VA_settle) (ci := 3) (k := 43) (As := [.int (jI u)]) (rest := []) d_VA_replaceInAll_76 VA_c84 yk_VA_settle yv_VA_settle rfl (Nat.le_of_ble_eq_true rfl) (by decide) (cc_4 rfl) rfl rfl (Nat.le_of_ble_eq_true rfl) (v_VA_settle_x G _ b u Iq111 Aq111 hpq111.1 hpq111.2.1 (by omega)) (fun rvq112 Iq112 Aq112 hq112 => ?_)
            obtain ⟨rfl, hqq112, hxq112⟩ := hq112
            have hpq112 := cPf.transx hpq111 hqq112 rfl (by decide)
            obtain ⟨x9, hs9, hi9, ha9⟩ := hxq112
            have h44 : Aq112 44 = ju (B 44) u x9 := by rw [ha9]; show ju (Aq111 44) u x9 = _; rw [hqq111.2.2.2 44 (ctn1 (by omega)) trivial, hqq108.2.2.2 44 (ctn1 (by omega)) trivial]
            have hcv : cV Aq112 = cV Aq111 := by rw [ha9]; exact cV_44 _ _
            have hu3 : ∀ j, 0 ≤ j → j < 13 → cV Aq111 u j = sbT (cV B) (cV B u) j / 65536 := fun j j0 j1 => by rw [cV_e (A := Aq111) (show u < 12 by omega), show 47 + 2 * u.toNat = q110 + 1 by omega, hxq111 j j0 j1]; exact hxq108.1 j j0 j1
            have ho3 : ∀ w, 0 ≤ w → w < 12 → w ≠ u → cV Aq111 w = cV B w := fun w w0 w1 wu => by rw [cV_e w1, cV_e w1, hqq111.2.2.2 _ (ctn1 (by omega)) trivial, hqq108.2.2.2 _ (ctn1 (by omega)) trivial]
            have hst3 : stl (cV Aq111 u) x9 := by rw [cV_e (show u < 12 by omega)]; exact hs9
            have hR3 : RI s V v S9 (u + 1) (Aq112 44) (cV Aq112) := by rw [hcv, h44]; exact RI_rep hI9 hR (by omega) (by omega) su uv (by omega) (by omega) hsv hk9 hu3 (fun w w0 w1 wu => ⟨by rw [ho3 w w0 w1 wu]; exact fun _ _ _ => rfl, ju_ne _ _ wu⟩) (by rw [ju_self]; exact hst3)
            show jt _ 79 [(0, .ref (b + 43)), (1, .int (jI v)), (2, .int (jI u))] [] (cmf b f0 Iq112 Aq112) _ _ _
            refine jt_iinc (L' := [(0, .ref (b + 43)), (1, .int (jI v)), (2, .int (jI (u + 1)))]) d_VA_replaceInAll_79 rfl (Nat.le_of_ble_eq_true rfl) rfl ?_
            refine jt_goto (t := 7) d_VA_replaceInAll_82 rfl ?_
            exact ih (u + 1) Iq112 Aq112 hpq112 (by omega) hR3 (by omega)
          · skip
            refine jt_iconst d_VA_replaceInAll_59 ?_
            exact cm_ret d_VA_replaceInAll_60 rfl (jnz (by omega)) (⟨0, rfl, by omega, hpq108, fun z => absurd z (by omega), fun _ => ⟨u, by omega, by omega, su, fun z => by have h9 := hxq108.2.2 (by omega); rw [show q107 + 1 = 47 + 2 * u.toNat by omega, ← cV_e (A := B) (show u < 12 by omega)] at h9; exact h9 (hsk.mpr z)⟩⟩)
set_option maxRecDepth 100000 in
set_option maxHeartbeats 4000000 in
theorem v_VA_replaceInAll_x (G : jG) (d b : Nat) (v : Int) (I : Nat → Nat → Int) (A : Nat → Int → Int) (hI : cSI I) (hA : cSA A) (v0 : 0 ≤ v ∧ v < 12) (s : Int → Int) (V : Int → Int → Int) (hI9 : VI s V) (hsv : s v = 0) (S9 : Int → Int) (hS9 : A (47 + 2 * v.toNat) = S9) (hSv : S9 v = 0) (hSi : inr S9) (h0 : ∀ w, 0 ≤ w → w < 12 → A 44 w = s w ∧ (w ≠ v → vis (cV A w) (V w))) : cct G Y_VA_replaceInAll (d + 2) b [.ref (b + 43), .int (jI v)] I A (fun (rv : Option Value) (I2 : Nat → Nat → Int) (A2 : Nat → Int → Int) => ∃ y : Int, rv = some (.int (jI y)) ∧ (0 ≤ y ∧ y ≤ 1) ∧ cPf [] tVar I A I2 A2 ∧ (y = 1 → RI s V v S9 12 (A2 44) (cV A2)) ∧ (y = 0 → ∃ u : Int, 0 ≤ u ∧ u < 12 ∧ s u = 1 ∧ ¬ rpK (V u) v S9)) := by
  refine cct_of (by decide) (Nat.le_of_ble_eq_true rfl) (fun f0 sz => ?_)
  show jt _ 0 [(0, .ref (b + 43)), (1, .int (jI v))] [] _ _ _ _
  have hz0 : cPf [] tVar I A I A := cPf.refl hI hA
  refine jt_aload_n d_VA_replaceInAll_0 rfl ?_
  refine jt_iload_n d_VA_replaceInAll_1 rfl ?_
  refine cct_callV (Y := Y_VA_settle) (ci := 3) (k := 43) (As := [.int (jI v)]) (rest := []) d_VA_replaceInAll_2 VA_c84 yk_VA_settle yv_VA_settle rfl (Nat.le_of_ble_eq_true rfl) (by decide) (cc_4 rfl) rfl rfl (Nat.le_of_ble_eq_true rfl) (v_VA_settle_x G _ b v I A hz0.1 hz0.2.1 (by omega)) (fun rvq1 Iq1 Aq1 hq1 => ?_)
  obtain ⟨rfl, hqq1, hxq1⟩ := hq1
  have hpq1 := cPf.transx hz0 hqq1 rfl (by decide)
  obtain ⟨x9, hs9, hi9, ha9⟩ := hxq1
  have h44 : Aq1 44 = ju (A 44) v x9 := by rw [ha9]; rfl
  have hcv : cV Aq1 = cV A := by rw [ha9]; exact cV_44 _ _
  have hR0 : RI s V v S9 0 (Aq1 44) (cV Aq1) := by rw [hcv, h44]; exact RI_0 (by rw [hS9] at hs9; exact hs9) (by rw [cV_e (by omega), hS9]; exact fun _ _ _ => rfl) (ju_self _ _ _) (fun w w0 w1 wv => ⟨(h0 w w0 w1).2 wv, by rw [ju_ne _ _ wv]; exact (h0 w w0 w1).1⟩)
  show jt _ 5 [(0, .ref (b + 43)), (1, .int (jI v))] [] (cmf b f0 Iq1 Aq1) _ _ _
  refine jt_iconst d_VA_replaceInAll_5 ?_
  refine jt_istore_n (L' := [(0, .ref (b + 43)), (1, .int (jI v)), (2, .int (jI 0))]) d_VA_replaceInAll_6 (Nat.le_of_ble_eq_true rfl) rfl ?_
  exact l7_VA_replaceInAll_xv G d b v I A hI hA v0 s V hI9 hsv S9 hS9 hSv hSi h0 f0 sz  13 0 Iq1 Aq1 hpq1 (by omega) hR0 (by omega)

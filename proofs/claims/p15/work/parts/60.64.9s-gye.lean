set_option maxRecDepth 100000 in
set_option maxHeartbeats 1000000 in
theorem l24_GM_runy (G : jG) (d m : Nat)  (I : Nat → Int) (A : Nat → Int → Int) (hI : gSI I) (hA : gSA A) (hin : ∀ k, 0 ≤ k → k < I 0 → gtok (A 16 k) (A 17 k)) (hM : gMac A) (mp : Int → Int) (ml : Int → Int) (mK : Int → Int → Int) (mV : Int → Int → Int) (hmr : gMr mp ml mK mV A) (X0 : Int → Int) (Y0 : Int → Int) (D0 : Int → Int) (h0 : ∀ j, 0 ≤ j → j < I 0 → X0 j = A 16 j ∧ Y0 j = A 17 j ∧ D0 j = 0) (z : XR) (hz : XE mp ml mK mV (I 0) X0 Y0 D0 0 0 z) (s0 : Int → Int) (V9 : Int → Int → Int) (c0 : Int) (nt0 : Int → Int) (hl : gRl s0 V9 c0 nt0 I A) (hvi : VI s0 V9) (h7 : 0 ≤ I 7 ∧ I 7 ≤ 2147480000) (h8 : 0 ≤ I 8 ∧ I 8 ≤ 2147480000) (zz : RR) (hrun : z.e = 0 → RN z.n z.X z.Y 0 s0 V9 c0 nt0 (I 8) zz) (f0 : jF) (sz : Nat)  : ∀ (n9 : Nat) (t : Int) (J : Nat → Int) (B : Nat → Int → Int), gPo [0, 1, 2, 3, 4, 5, 6, 7, 8, 9, 10, 11, 12, 13, 14, 15] [22, 23, 24, 25, 26, 27, 28, 29, 30, 31, 32, 33, 34, 35, 36, 37, 38, 39, 40, 41, 42, 43, 44, 45] I A J B → (J 0 = 0) → (J 2 = z.r) → (J 5 = 0 → gT J B) → (J 5 = 0 → 301 - J 4 ≤ t) → (0 ≤ t) → (J 7 ≤ I 7 + 301 - t ∧ J 8 ≤ I 8 + 301 - t ∧ 0 ≤ J 7 ∧ 0 ≤ J 8) → (Hd (J 5 = 0 → z.e = 0 ∧ ∃ (s : Int → Int) (V : Int → Int → Int) (c : Int) (nt : Int → Int), gRl s V c nt J B ∧ VI s V ∧ RN (J 1) (B 22) (B 23) (J 4) s V c nt (J 8) zz)) → (Hd (J 5 ≠ 0 → (z.e ≠ 0 → J 5 = z.e ∧ J 6 = z.pl ∧ gRl s0 V9 c0 nt0 J B ∧ J 8 = I 8) ∧ (z.e = 0 → J 5 = zz.e ∧ J 6 = zz.pl ∧ gRl zz.s zz.V zz.c zz.nt J B ∧ J 8 = zz.d))) → t < (n9 : Int) → jt (jm G Y_GM_run (gR (d + 8)) (gQ m f0 sz (fun (rv : Option Value) (I2 : Nat → Int) (A2 : Nat → Int → Int) => ∃ y : Int, rv = some (.int (jI y)) ∧ (-2147483648 ≤ y ∧ y ≤ 2147483647) ∧ gPo [0, 1, 2, 3, 4, 5, 6, 7, 8, 9, 10, 11, 12, 13, 14, 15] [22, 23, 24, 25, 26, 27, 28, 29, 30, 31, 32, 33, 34, 35, 36, 37, 38, 39, 40, 41, 42, 43, 44, 45] I A I2 A2 ∧ I2 0 = 0 ∧ I2 2 = z.r ∧ (z.e ≠ 0 → y = z.e ∧ I2 3 = z.pl ∧ gRl s0 V9 c0 nt0 I2 A2 ∧ I2 8 = I 8) ∧ (z.e = 0 → y = zz.e ∧ I2 3 = zz.pl ∧ gRl zz.s zz.V zz.c zz.nt I2 A2 ∧ I2 8 = zz.d)))) 24 [(0, .ref m)] [] (gmf m f0 J B) sz 0 0 := by
  intro n9
  induction n9 with
  | zero =>
    intro t J B hJ j0 j2 hg ht t9 jl hrl her hmeas
    have q5 : -13 ≤ J 5 ∧ J 5 ≤ 0 := hJ.1 5
    have q4 : 0 ≤ J 4 ∧ J 4 ≤ 300 := hJ.1 4
    have q1 : -2147483648 ≤ J 1 ∧ J 1 ≤ 2147483647 := hJ.1 1
    exfalso
    omega
  | succ n9 ih =>
    intro t J B hJ j0 j2 hg ht t9 jl hrl her hmeas
    have q5 : -13 ≤ J 5 ∧ J 5 ≤ 0 := hJ.1 5
    have q4 : 0 ≤ J 4 ∧ J 4 ≤ 300 := hJ.1 4
    have q1 : -2147483648 ≤ J 1 ∧ J 1 ≤ 2147483647 := hJ.1 1
    refine jt_aload_n d_GM_run_24 rfl ?_
    refine gm_gI (k := 5) (v := J 5) d_GM_run_25 GM_f25 (by decide) rfl ?_
    have rb101 : -13 ≤ J 5 ∧ J 5 ≤ 0 := hJ.1 5
    refine jt_if_ne (t := 49) d_GM_run_28 rfl (by unfold jRi; omega) (fun c102 => ?_) (fun c102 => ?_)
    · skip
      refine jt_aload_n d_GM_run_49 rfl ?_
      refine jt_aload_n d_GM_run_50 rfl ?_
      refine gm_gI (k := 5) (v := J 5) d_GM_run_51 GM_f25 (by decide) rfl ?_
      refine jt_if_ne (t := 64) d_GM_run_54 rfl (by unfold jRi; omega) (fun c103 => ?_) (fun c103 => ?_)
      · skip
        refine jt_aload_n d_GM_run_64 rfl ?_
        refine gm_gI (k := 6) (v := J 6) d_GM_run_65 GM_f28 (by decide) rfl ?_
        have rb104 : -2147483648 ≤ J 6 ∧ J 6 ≤ 2147483647 := hJ.1 6
        refine gm_pI (k := 3) (v := (J 6)) (J := va_up J 3 (J 6)) d_GM_run_68 (GM_w19 _ rfl) (by decide) rfl rfl rfl ?_
        have p105 := gPo.I 3 (J 6) hJ rfl (show -2147483648 ≤ J 6 ∧ J 6 ≤ 2147483647 by omega)
        refine jt_aload_n d_GM_run_71 rfl ?_
        refine gm_gI (k := 5) (v := J 5) d_GM_run_72 GM_f25 (by decide) rfl ?_
        exact gm_ret d_GM_run_75 rfl rfl (by
        refine ⟨J 5, rfl, by omega, p105, show J 0 = 0 by omega, j2, ?_⟩
        by_cases c5 : J 5 = 0
        · obtain ⟨ze0, s, V, c, nt, hl, hvi, hrn⟩ := hrl c5
          have h9 := RN_end hrn (by omega)
          refine ⟨fun y => absurd ze0 y, fun _ => ?_⟩
          rw [h9]
          exact ⟨c5, show J 6 = J 1 by omega, hl, rfl⟩
        · obtain ⟨h1, h2⟩ := her c5
          refine ⟨fun y => ?_, fun y => ?_⟩
          · obtain ⟨a1, a2, a3, a4⟩ := h1 y
            exact ⟨a1, show J 6 = z.pl by omega, a3, a4⟩
          · obtain ⟨a1, a2, a3, a4⟩ := h2 y
            exact ⟨a1, show J 6 = zz.pl by omega, a3, a4⟩)
      · skip
        refine jt_aload_n d_GM_run_57 rfl ?_
        refine gm_gI (k := 1) (v := J 1) d_GM_run_58 GM_f13 (by decide) rfl ?_
        have rb106 : -2147483648 ≤ J 1 ∧ J 1 ≤ 2147483647 := hJ.1 1
        refine jt_goto (t := 68) d_GM_run_61 rfl ?_
        refine gm_pI (k := 3) (v := (J 1)) (J := va_up J 3 (J 1)) d_GM_run_68 (GM_w19 _ rfl) (by decide) rfl rfl rfl ?_
        have p107 := gPo.I 3 (J 1) hJ rfl (show -2147483648 ≤ J 1 ∧ J 1 ≤ 2147483647 by omega)
        refine jt_aload_n d_GM_run_71 rfl ?_
        refine gm_gI (k := 5) (v := J 5) d_GM_run_72 GM_f25 (by decide) rfl ?_
        exact gm_ret d_GM_run_75 rfl rfl (by
        refine ⟨J 5, rfl, by omega, p107, show J 0 = 0 by omega, j2, ?_⟩
        by_cases c5 : J 5 = 0
        · obtain ⟨ze0, s, V, c, nt, hl, hvi, hrn⟩ := hrl c5
          have h9 := RN_end hrn (by omega)
          refine ⟨fun y => absurd ze0 y, fun _ => ?_⟩
          rw [h9]
          exact ⟨c5, show J 1 = J 1 by omega, hl, rfl⟩
        · obtain ⟨h1, h2⟩ := her c5
          refine ⟨fun y => ?_, fun y => ?_⟩
          · obtain ⟨a1, a2, a3, a4⟩ := h1 y
            exact ⟨a1, show J 1 = z.pl by omega, a3, a4⟩
          · obtain ⟨a1, a2, a3, a4⟩ := h2 y
            exact ⟨a1, show J 1 = zz.pl by omega, a3, a4⟩)
    · skip
      refine jt_aload_n d_GM_run_31 rfl ?_
      refine gm_gI (k := 4) (v := J 4) d_GM_run_32 GM_f22 (by decide) rfl ?_
      have rb108 : 0 ≤ J 4 ∧ J 4 ≤ 300 := hJ.1 4
      refine jt_aload_n d_GM_run_35 rfl ?_
      refine gm_gI (k := 1) (v := J 1) d_GM_run_36 GM_f13 (by decide) rfl ?_
      have rb109 : -2147483648 ≤ J 1 ∧ J 1 ≤ 2147483647 := hJ.1 1
      refine jt_icmp_ge (t := 49) d_GM_run_39 rfl (by unfold jRi; omega) (by unfold jRi; omega) (fun c110 => ?_) (fun c110 => ?_)
      · skip
        refine jt_aload_n d_GM_run_49 rfl ?_
        refine jt_aload_n d_GM_run_50 rfl ?_
        refine gm_gI (k := 5) (v := J 5) d_GM_run_51 GM_f25 (by decide) rfl ?_
        refine jt_if_ne (t := 64) d_GM_run_54 rfl (by unfold jRi; omega) (fun c111 => ?_) (fun c111 => ?_)
        · skip
          refine jt_aload_n d_GM_run_64 rfl ?_
          refine gm_gI (k := 6) (v := J 6) d_GM_run_65 GM_f28 (by decide) rfl ?_
          have rb112 : -2147483648 ≤ J 6 ∧ J 6 ≤ 2147483647 := hJ.1 6
          refine gm_pI (k := 3) (v := (J 6)) (J := va_up J 3 (J 6)) d_GM_run_68 (GM_w19 _ rfl) (by decide) rfl rfl rfl ?_
          have p113 := gPo.I 3 (J 6) hJ rfl (show -2147483648 ≤ J 6 ∧ J 6 ≤ 2147483647 by omega)
          refine jt_aload_n d_GM_run_71 rfl ?_
          refine gm_gI (k := 5) (v := J 5) d_GM_run_72 GM_f25 (by decide) rfl ?_
          exact gm_ret d_GM_run_75 rfl rfl (by
        refine ⟨J 5, rfl, by omega, p113, show J 0 = 0 by omega, j2, ?_⟩
        by_cases c5 : J 5 = 0
        · obtain ⟨ze0, s, V, c, nt, hl, hvi, hrn⟩ := hrl c5
          have h9 := RN_end hrn (by omega)
          refine ⟨fun y => absurd ze0 y, fun _ => ?_⟩
          rw [h9]
          exact ⟨c5, show J 6 = J 1 by omega, hl, rfl⟩
        · obtain ⟨h1, h2⟩ := her c5
          refine ⟨fun y => ?_, fun y => ?_⟩
          · obtain ⟨a1, a2, a3, a4⟩ := h1 y
            exact ⟨a1, show J 6 = z.pl by omega, a3, a4⟩
          · obtain ⟨a1, a2, a3, a4⟩ := h2 y
            exact ⟨a1, show J 6 = zz.pl by omega, a3, a4⟩)
        · skip
          refine jt_aload_n d_GM_run_57 rfl ?_
          refine gm_gI (k := 1) (v := J 1) d_GM_run_58 GM_f13 (by decide) rfl ?_
          refine jt_goto (t := 68) d_GM_run_61 rfl ?_
          refine gm_pI (k := 3) (v := (J 1)) (J := va_up J 3 (J 1)) d_GM_run_68 (GM_w19 _ rfl) (by decide) rfl rfl rfl ?_
          have p114 := gPo.I 3 (J 1) hJ rfl (show -2147483648 ≤ J 1 ∧ J 1 ≤ 2147483647 by omega)
          refine jt_aload_n d_GM_run_71 rfl ?_
          refine gm_gI (k := 5) (v := J 5) d_GM_run_72 GM_f25 (by decide) rfl ?_
          exact gm_ret d_GM_run_75 rfl rfl (by
        refine ⟨J 5, rfl, by omega, p114, show J 0 = 0 by omega, j2, ?_⟩
        by_cases c5 : J 5 = 0
        · obtain ⟨ze0, s, V, c, nt, hl, hvi, hrn⟩ := hrl c5
          have h9 := RN_end hrn (by omega)
          refine ⟨fun y => absurd ze0 y, fun _ => ?_⟩
          rw [h9]
          exact ⟨c5, show J 1 = J 1 by omega, hl, rfl⟩
        · obtain ⟨h1, h2⟩ := her c5
          refine ⟨fun y => ?_, fun y => ?_⟩
          · obtain ⟨a1, a2, a3, a4⟩ := h1 y
            exact ⟨a1, show J 1 = z.pl by omega, a3, a4⟩
          · obtain ⟨a1, a2, a3, a4⟩ := h2 y
            exact ⟨a1, show J 1 = zz.pl by omega, a3, a4⟩)
      · skip
        have hTJ := hg (by omega)
        have tj1 := hTJ.2.1
        obtain ⟨ze0, s, V, c, nt, hl, hvi, hrn⟩ := hrl (by omega)
        have hc7 := hl.2.1
        obtain ⟨r, q, e, c2, s2, nt2, V2, hst, hnx⟩ := RN_next hrn (by omega)
        replace hnx : Hd _ := hnx
        refine jt_aload_n d_GM_run_42 rfl ?_
        refine gct_call (Y := Y_GM_statement) (As := []) (rest := []) d_GM_run_43 GM_c332 yk_GM_statement yv_GM_statement rfl (Nat.le_of_ble_eq_true rfl) rfl rfl (Nat.le_of_ble_eq_true rfl) (y_GM_statement G _ m J B hTJ hJ.1 hJ.2.1 (by omega) (by omega) s V c nt hl hvi (by omega) (by omega) r hst q e c2 s2 nt2 V2 (hnx.imp (fun ⟨ce, pl, h, _⟩ => ⟨ce, pl, h⟩) (fun h => h.1))) (fun rvq115 Iq115 Aq115 hq115 => ?_)
        obtain ⟨rfl, hqq115, hxq115⟩ := hq115
        have hpq115 := gPo.trans hJ hqq115 rfl rfl
        have m0q115 : Iq115 0 = J 0 := hqq115.2.2.1 0 rfl
        have m1q115 : Iq115 1 = J 1 := hqq115.2.2.1 1 rfl
        have m3q115 : Iq115 3 = J 3 := hqq115.2.2.1 3 rfl
        have kwq115 := hxq115.1
        have kqq115 : Hd _ := hxq115.2
        clear hxq115
        have q5q115 : -13 ≤ Iq115 5 ∧ Iq115 5 ≤ 0 := hpq115.1 5
        have f22q115 : Iq115 1 = J 1 ∧ Aq115 22 = B 22 ∧ Aq115 23 = B 23 := ⟨hqq115.2.2.1 1 rfl, hqq115.2.2.2 22 rfl, hqq115.2.2.2 23 rfl⟩
        show jt _ 46 [(0, .ref m)] [] (gmf m f0 Iq115 Aq115) _ _ _
        refine jt_goto (t := 24) d_GM_run_46 rfl ?_
        exact ih (t - 1) Iq115 Aq115 hpq115 (show Iq115 0 = 0 by omega) ((hqq115.2.2.1 2 rfl).trans j2) (fun _ => gT_of hqq115 hTJ rfl rfl rfl) (show Iq115 5 = 0 → 301 - Iq115 4 ≤ t - 1 by omega) (by omega) (by have h79 : Iq115 7 = J 7 ∨ Iq115 7 = J 7 + 1 := (by rcases hnx with ⟨ce, pl, h1, h2⟩ | ⟨h1, h2, h3⟩; exact Or.inl (by have h9 := (kqq115.1.1 ce pl h1).2.2.2.1; omega); exact (by have h9 := (kqq115.1.2 h1).2.2.2.2.1; have h8 := CO_c h1; omega)); have h89 : Iq115 8 = J 8 ∨ Iq115 8 = J 8 + 1 := (by rcases Classical.em (Iq115 5 = 0) with y | y; exact Or.inr (kqq115.2.1 y); exact Or.inl (kqq115.2.2 y)); show Iq115 7 ≤ I 7 + 301 - (t - 1) ∧ Iq115 8 ≤ I 8 + 301 - (t - 1) ∧ 0 ≤ Iq115 7 ∧ 0 ≤ Iq115 8; omega) (fun z5 => by
        refine ⟨ze0, ?_⟩
        rcases hnx with ⟨ce, pl, h1, h2⟩ | ⟨h1, h2, h3⟩
        · have h9 := kqq115.1.1 ce pl h1
          exact absurd (h9.1.symm.trans z5) (ST_ne (by rw [h1] at hst; exact hst) q4.1)
        · have h9 := kqq115.1.2 h1
          have e0 : e = 0 := by rw [← h9.1]; exact z5
          have h8 := h3 e0
          refine ⟨s2, V2, c2, nt2, h9.2.2.2, CO_VI hvi h1, ?_⟩
          rw [f22q115.1, f22q115.2.1, f22q115.2.2, h9.2.2.1 e0, kqq115.2.1 z5]
          exact h8) (fun z5 => ⟨fun y => absurd ze0 y, fun _ => by
        have d8 := kqq115.2.2 z5
        rcases hnx with ⟨ce, pl, h1, h2⟩ | ⟨h1, h2, h3⟩
        · have h9 := kqq115.1.1 ce pl h1
          rw [h2, d8]
          exact ⟨h9.1, h9.2.1, h9.2.2, rfl⟩
        · have h9 := kqq115.1.2 h1
          have e0 : e ≠ 0 := by rw [← h9.1]; exact z5
          have h8 := h2 e0
          rw [h8, d8]
          exact ⟨h9.1, h9.2.1 e0, h9.2.2.2, rfl⟩⟩) (by omega)
set_option maxRecDepth 100000 in
set_option maxHeartbeats 1000000 in
theorem y_GM_run (G : jG) (d m : Nat)  (I : Nat → Int) (A : Nat → Int → Int) (hI : gSI I) (hA : gSA A) (hin : ∀ k, 0 ≤ k → k < I 0 → gtok (A 16 k) (A 17 k)) (hM : gMac A) (mp : Int → Int) (ml : Int → Int) (mK : Int → Int → Int) (mV : Int → Int → Int) (hmr : gMr mp ml mK mV A) (X0 : Int → Int) (Y0 : Int → Int) (D0 : Int → Int) (h0 : ∀ j, 0 ≤ j → j < I 0 → X0 j = A 16 j ∧ Y0 j = A 17 j ∧ D0 j = 0) (z : XR) (hz : XE mp ml mK mV (I 0) X0 Y0 D0 0 0 z) (s0 : Int → Int) (V9 : Int → Int → Int) (c0 : Int) (nt0 : Int → Int) (hl : gRl s0 V9 c0 nt0 I A) (hvi : VI s0 V9) (h7 : 0 ≤ I 7 ∧ I 7 ≤ 2147480000) (h8 : 0 ≤ I 8 ∧ I 8 ≤ 2147480000) (zz : RR) (hrun : z.e = 0 → RN z.n z.X z.Y 0 s0 V9 c0 nt0 (I 8) zz) : gct G Y_GM_run (d + 8) m [] I A (fun (rv : Option Value) (I2 : Nat → Int) (A2 : Nat → Int → Int) => ∃ y : Int, rv = some (.int (jI y)) ∧ (-2147483648 ≤ y ∧ y ≤ 2147483647) ∧ gPo [0, 1, 2, 3, 4, 5, 6, 7, 8, 9, 10, 11, 12, 13, 14, 15] [22, 23, 24, 25, 26, 27, 28, 29, 30, 31, 32, 33, 34, 35, 36, 37, 38, 39, 40, 41, 42, 43, 44, 45] I A I2 A2 ∧ I2 0 = 0 ∧ I2 2 = z.r ∧ (z.e ≠ 0 → y = z.e ∧ I2 3 = z.pl ∧ gRl s0 V9 c0 nt0 I2 A2 ∧ I2 8 = I 8) ∧ (z.e = 0 → y = zz.e ∧ I2 3 = zz.pl ∧ gRl zz.s zz.V zz.c zz.nt I2 A2 ∧ I2 8 = zz.d)) := by
  refine gct_of (by decide) (Nat.le_of_ble_eq_true rfl) (fun f0 sz => ?_)
  show jt _ 0 [(0, .ref m)] [] _ _ _ _
  have hz0 : gPo [0, 1, 2, 3, 4, 5, 6, 7, 8, 9, 10, 11, 12, 13, 14, 15] [22, 23, 24, 25, 26, 27, 28, 29, 30, 31, 32, 33, 34, 35, 36, 37, 38, 39, 40, 41, 42, 43, 44, 45] I A I A := gPo.refl hI hA
  refine jt_aload_n d_GM_run_0 rfl ?_
  refine jt_iconst d_GM_run_1 ?_
  refine gm_pI (k := 5) (v := 0) (J := va_up I 5 0) d_GM_run_2 (GM_w25 _ rfl) (by decide) rfl rfl rfl ?_
  have p1 := gPo.I 5 0 hz0 rfl (show -13 ≤ 0 ∧ 0 ≤ 0 by omega)
  refine jt_aload_n d_GM_run_5 rfl ?_
  refine jt_iconst d_GM_run_6 ?_
  refine gm_pI (k := 6) (v := 0) (J := va_up (va_up I 5 0) 6 0) d_GM_run_7 (GM_w28 _ rfl) (by decide) rfl rfl rfl ?_
  have p2 := gPo.I 6 0 p1 rfl (show -2147483648 ≤ 0 ∧ 0 ≤ 2147483647 by omega)
  refine jt_aload_n d_GM_run_10 rfl ?_
  refine gct_call (Y := Y_GM_expand) (As := []) (rest := []) d_GM_run_11 GM_c329 yk_GM_expand yv_GM_expand rfl (Nat.le_of_ble_eq_true rfl) rfl rfl (Nat.le_of_ble_eq_true rfl) (y_GM_expand G _ m (va_up (va_up I 5 0) 6 0) A p2.1 p2.2.1 (by show ∀ k, 0 ≤ k → k < I 0 → gtok (A 16 k) (A 17 k); exact hin) (by show gMac A; exact hM) rfl mp ml mK mV hmr X0 Y0 D0 h0 z hz) (fun rvq3 Iq3 Aq3 hq3 => ?_)
  obtain ⟨rfl, hqq3, hxq3⟩ := hq3
  have hpq3 := gPo.trans p2 hqq3 rfl rfl
  have s0q3 : (va_up (va_up I 5 0) 6 0) 0 = I 0 := rfl
  have s1q3 : (va_up (va_up I 5 0) 6 0) 1 = I 1 := rfl
  have s3q3 : (va_up (va_up I 5 0) 6 0) 3 = I 3 := rfl
  have s4q3 : (va_up (va_up I 5 0) 6 0) 4 = I 4 := rfl
  have s5q3 : (va_up (va_up I 5 0) 6 0) 5 = 0 := rfl
  have s6q3 : (va_up (va_up I 5 0) 6 0) 6 = 0 := rfl
  have s7q3 : (va_up (va_up I 5 0) 6 0) 7 = I 7 := rfl
  have s8q3 : (va_up (va_up I 5 0) 6 0) 8 = I 8 := rfl
  have m0q3 : Iq3 0 = I 0 := hqq3.2.2.1 0 rfl
  have m3q3 : Iq3 3 = I 3 := hqq3.2.2.1 3 rfl
  have m4q3 : Iq3 4 = I 4 := hqq3.2.2.1 4 rfl
  have m7q3 : Iq3 7 = I 7 := hqq3.2.2.1 7 rfl
  have m8q3 : Iq3 8 = I 8 := hqq3.2.2.1 8 rfl
  have hgq3 := hxq3.1
  have hx5q3 := hxq3.2.1
  replace hxq3 : Hd _ := hxq3.2
  show jt _ 14 [(0, .ref m)] [] (gmf m f0 Iq3 Aq3) _ _ _
  refine jt_aload_n d_GM_run_14 rfl ?_
  refine jt_iconst d_GM_run_15 ?_
  refine gm_pI (k := 0) (v := 0) (J := va_up Iq3 0 0) d_GM_run_16 (GM_w7 _ rfl) (by decide) rfl rfl rfl ?_
  have p4 := gPo.I 0 0 hpq3 rfl (show 0 ≤ 0 ∧ 0 ≤ 120 by omega)
  refine jt_aload_n d_GM_run_19 rfl ?_
  refine jt_iconst d_GM_run_20 ?_
  refine gm_pI (k := 4) (v := 0) (J := va_up (va_up Iq3 0 0) 4 0) d_GM_run_21 (GM_w22 _ rfl) (by decide) rfl rfl rfl ?_
  have p5 := gPo.I 4 0 p4 rfl (show 0 ≤ 0 ∧ 0 ≤ 300 by omega)
  exact l24_GM_runy G d m  I A hI hA hin hM mp ml mK mV hmr X0 Y0 D0 h0 z hz s0 V9 c0 nt0 hl hvi h7 h8 zz hrun f0 sz  302 301 (va_up (va_up Iq3 0 0) 4 0) Aq3 p5 rfl hxq3.2.2.1 (fun z => hgq3 z) (show Iq3 5 = 0 → 301 - 0 ≤ 301 by omega) (by omega) (show Iq3 7 ≤ I 7 + 301 - 301 ∧ Iq3 8 ≤ I 8 + 301 - 301 ∧ 0 ≤ Iq3 7 ∧ 0 ≤ Iq3 8 by omega) (fun z5 => by
      have z5 : Iq3 5 = 0 := z5
      have ze : z.e = 0 := by rw [← hx5q3]; exact z5
      refine ⟨ze, s0, V9, c0, nt0, (show gRl s0 V9 c0 nt0 (va_up (va_up Iq3 0 0) 4 0) Aq3 from ⟨⟨fun u u0 u1 => by rw [hqq3.2.2.2 30 rfl]; exact hl.1.1 u u0 u1, by unfold gVr; rw [hqq3.2.2.2 30 rfl, hqq3.2.2.2 31 rfl]; exact hl.1.2⟩, by show Iq3 7 = c0; rw [hqq3.2.2.1 7 rfl]; exact hl.2.1, fun k k0 k1 => by rw [hqq3.2.2.2 32 rfl]; exact hl.2.2.1 k k0 k1, fun k k0 k1 => by rw [hqq3.2.2.2 45 rfl]; exact hl.2.2.2 k k0 k1⟩), hvi, ?_⟩
      have hzn := hxq3.2.2.2 ze
      have hr := hrun ze
      show RN (Iq3 1) (Aq3 22) (Aq3 23) 0 s0 V9 c0 nt0 (Iq3 8) zz
      rw [hzn.1, hqq3.2.2.1 8 rfl]
      exact RN_c (fun k k0 k1 => hzn.2 k k0 k1) hr) (fun z5 => ⟨fun y => ⟨hx5q3, hxq3.2.1 y, (show gRl s0 V9 c0 nt0 (va_up (va_up Iq3 0 0) 4 0) Aq3 from ⟨⟨fun u u0 u1 => by rw [hqq3.2.2.2 30 rfl]; exact hl.1.1 u u0 u1, by unfold gVr; rw [hqq3.2.2.2 30 rfl, hqq3.2.2.2 31 rfl]; exact hl.1.2⟩, by show Iq3 7 = c0; rw [hqq3.2.2.1 7 rfl]; exact hl.2.1, fun k k0 k1 => by rw [hqq3.2.2.2 32 rfl]; exact hl.2.2.1 k k0 k1, fun k k0 k1 => by rw [hqq3.2.2.2 45 rfl]; exact hl.2.2.2 k k0 k1⟩), show Iq3 8 = I 8 from hqq3.2.2.1 8 rfl⟩, fun y => absurd (show Iq3 5 = 0 by rw [hx5q3]; exact y) z5⟩) (by omega)

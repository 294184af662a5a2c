set_option maxRecDepth 100000 in
set_option maxHeartbeats 4000000 in
theorem la_loop (G : jG) (b L : Nat) (xs : Nat → Int32) (hL : L ≤ 1536) (f : jF) (sz ce sl c : Nat) (hce : ce ≤ 600000) (hsl : sl ≤ 7302250) : ∀ (n9 : Nat) (i : Int) (I : Nat → Nat → Int) (A : Nat → Int → Int) (J : Nat → Int) (B : Nat → Int → Int), 0 ≤ i → i ≤ (L : Int) + 3 → qX (300 * i) I A J B → (L : Int) + 3 - i < (n9 : Int) → jt (lK G b L xs) 18 [(0, .ref b), (1, .ref c), (2, .ref (c + 472)), (3, .int (jI i))] [] (gmf (c + 472) (cmf c f I A) J B) sz ce sl := by
  intro n9
  induction n9 with
  | zero => intro i I A J B i0 i1 hx hm; exfalso; omega
  | succ n9 ih =>
    intro i I A J B i0 i1 hx hm
    refine jt_iload_n d_LA_law_18 rfl ?_
    refine jt_aload_n d_LA_law_19 rfl ?_
    refine jt_slen d_LA_law_20 ?_
    refine jt_iconst d_LA_law_21 ?_
    refine jt_isub d_LA_law_22 ?_
    refine jt_icmp_gt (t := 432) d_LA_law_23 rfl (by unfold jRi; omega) (by unfold jRi; omega) (fun c9 => ?_) (fun c9 => ?_)
    · refine jt_iconst d_LA_law_432 ?_
      exact la_end d_LA_law_433 hce hsl
    obtain ⟨hr, h8, hcm, hD, hv, hmr, hg9, h9p, h88, h56⟩ := id hx
    obtain ⟨⟨a1, a2, a3, a4⟩, ⟨b1, b2, b3, b4⟩, hlen, hin⟩ := id hr
    have h7 := hg9.2.1
    have h07 : (0 : Int) ≤ I 0 7 ∧ I 0 7 ≤ 2147483647 := a1 0 7
    have r1 := sc_r xs (i + 1)
    have r2 := sc_r xs (i + 2)
    have n3 : 300 * i ≤ 300 * (i + 3) := by omega
    have hgo : ∀ (I9 : Nat → Nat → Int) (A9 : Nat → Int → Int) (J9 : Nat → Int) (B9 : Nat → Int → Int), qX (300 * (i + 3)) I9 A9 J9 B9 → jt (lK G b L xs) 426 [(0, .ref b), (1, .ref c), (2, .ref (c + 472)), (3, .int (jI i))] [] (gmf (c + 472) (cmf c f I9 A9) J9 B9) sz ce sl := by
      intro I9 A9 J9 B9 h9
      refine jt_iinc (L' := [(0, .ref b), (1, .ref c), (2, .ref (c + 472)), (3, .int (jI (i + 3)))]) d_LA_law_426 rfl (Nat.le_of_ble_eq_true rfl) rfl ?_
      refine jt_goto (t := 18) d_LA_law_429 rfl ?_
      exact ih (i + 3) I9 A9 J9 B9 (by omega) (by omega) h9 (by omega)
    refine jt_aload_n d_LA_law_26 rfl ?_
    refine jt_iload_n d_LA_law_27 rfl ?_
    refine jt_sld d_LA_law_28 (by omega) (by omega) hL ?_
    refine jt_bipush d_LA_law_29 (by omega) ?_
    refine jt_iandW d_LA_law_31 (fun y by0 => ?_)
    by_cases hsw : y < 0 ∨ 13 < y
    · refine jt_tableOut (t := 426) d_LA_law_32 (by unfold jRi; omega) hsw rfl ?_
      exact hgo I A J B (qX_n hx n3)
    by_cases hs0 : y = 0
    · skip
      refine jt_tableIn (t := 104) d_LA_law_32 (by unfold jRi; omega) (by omega) (by omega) (by rw [hs0]; rfl) rfl ?_
      refine jt_aload_n d_LA_law_104 rfl ?_
      refine jt_aload_n d_LA_law_105 rfl ?_
      refine jt_iload_n d_LA_law_106 rfl ?_
      refine jt_iconst d_LA_law_107 ?_
      refine jt_iadd d_LA_law_108 ?_
      refine jt_sld d_LA_law_109 (by omega) (by omega) hL ?_
      refine jt_aload_n d_LA_law_110 rfl ?_
      refine jt_iload_n d_LA_law_111 rfl ?_
      refine jt_iconst d_LA_law_112 ?_
      refine jt_iadd d_LA_law_113 ?_
      refine jt_sld d_LA_law_114 (by omega) (by omega) hL ?_
      refine la_C (Y := Y_GC_feed) (As := [.int (jI (sc xs (i + 1))), .int (jI (sc xs (i + 2)))]) (rest := []) d_LA_law_115 LA_c13 yk_GC_feed yv_GC_feed rfl (Nat.le_of_ble_eq_true rfl) rfl rfl (Nat.le_of_ble_eq_true rfl) (by omega) hce hsl (v_GC_feed_x G 0 c (sc xs (i + 1)) (sc xs (i + 2)) I A a1 a2 a3 (sc_r xs (i + 1)) (sc_r xs (i + 2))) (fun rv1 I1 A1 h1 => ?_)
      obtain ⟨y1, rfl, ry1, hp1, ht1, q1, q2, q3⟩ := h1
      refine jt_pop d_LA_law_118 rfl ?_
      refine jt_aload_n d_LA_law_119 rfl ?_
      refine jt_aload_n d_LA_law_120 rfl ?_
      refine jt_iload_n d_LA_law_121 rfl ?_
      refine jt_iconst d_LA_law_122 ?_
      refine jt_iadd d_LA_law_123 ?_
      refine jt_sld d_LA_law_124 (by omega) (by omega) hL ?_
      refine jt_aload_n d_LA_law_125 rfl ?_
      refine jt_iload_n d_LA_law_126 rfl ?_
      refine jt_iconst d_LA_law_127 ?_
      refine jt_iadd d_LA_law_128 ?_
      refine jt_sld d_LA_law_129 (by omega) (by omega) hL ?_
      refine la_G (Y := Y_GM_feed) (As := [.int (jI (sc xs (i + 1))), .int (jI (sc xs (i + 2)))]) (rest := []) d_LA_law_130 LA_c17 yk_GM_feed yv_GM_feed rfl (Nat.le_of_ble_eq_true rfl) rfl rfl (Nat.le_of_ble_eq_true rfl) (by omega) hce hsl (c_GM_feed G 0 (c + 472) (sc xs (i + 1)) (sc xs (i + 2)) J B (sc_r xs (i + 1)) (sc_r xs (i + 2)) (b1 0).1 (b1 0).2) (fun rv2 J2 B2 h2 => ?_)
      obtain ⟨f1, f2, f3⟩ := h2
      have e7 : I1 0 7 = I 0 7 := hp1.2.2.1 0 7 rfl
      have rj : 0 ≤ J 0 ∧ J 0 ≤ 120 := b1 0
      have hfin : ∃ yy : Int, rv2 = some (.int (jI yy)) ∧ yy = y1 ∧ qX (300 * (i + 3)) I1 A1 J2 B2 := by
        by_cases hg : gtok (sc xs (i + 1)) (sc xs (i + 2))
        · by_cases h120 : J 0 = 120
          · obtain ⟨e1, rfl, rfl⟩ := f2 hg h120
            obtain ⟨z1, rfl, rfl⟩ := q2 hg (by omega)
            exact ⟨-2, e1, z1.symm, qX_n hx n3⟩
          · obtain ⟨e1, rfl, rfl⟩ := f3 hg h120
            obtain ⟨z1, z2, z3, z4, z5⟩ := q3 hg (by omega)
            have g1 := gPo.I (S := [0]) (T := [16, 17]) 0 (J 0 + 1) (gPo.refl b1 b2) rfl (show (0 : Int) ≤ J 0 + 1 ∧ J 0 + 1 ≤ 120 by omega)
            have g2 := gPo.A 16 (ju (B 16) (J 0) (sc xs (i + 1))) g1 rfl (gju (b2 16) r1)
            have g3 := gPo.A 17 (ju (B 17) (J 0) (sc xs (i + 2))) g2 rfl (gju (b2 17) r2)
            refine ⟨J 0 + 1, e1, by omega, qX_fr hx ⟨⟨hp1.1, hp1.2.1, ht1, by omega⟩, ⟨g3.1, g3.2.1, b3, fun k k0 k1 => ?_⟩, ?_, fun z z0 z9 => ?_⟩ n3 (cFr_of hp1 rfl rfl rfl) ⟨rfl, rfl, rfl, rfl, rfl, rfl, rfl, rfl⟩ (fun j j0 j1 => ?_) (cMac_z hcm (cMe_of hp1 rfl rfl)) (gMr_e hmr (cMe_of hp1 rfl rfl) ⟨rfl, rfl, rfl, rfl⟩)⟩
            · have k1 : k < J 0 + 1 := k1
              show gtok (ju (B 16) (J 0) (sc xs (i + 1)) k) (ju (B 17) (J 0) (sc xs (i + 2)) k)
              unfold ju
              by_cases ek : k = J 0
              · rw [if_pos ek, if_pos ek]; exact hg
              · rw [if_neg ek, if_neg ek]; exact b4 k k0 (by omega)
            · show I1 1 3 = J 0 + 1
              omega
            · have z9 : z < J 0 + 1 := z9
              rw [z3, z4]
              show ju (A 2) (I 1 3) (sc xs (i + 1)) z = ju (B 16) (J 0) (sc xs (i + 1)) z ∧ ju (A 3) (I 1 3) (sc xs (i + 2)) z = ju (B 17) (J 0) (sc xs (i + 2)) z
              rw [hlen]
              unfold ju
              by_cases ek : z = J 0
              · rw [if_pos ek, if_pos ek, if_pos ek, if_pos ek]; exact ⟨rfl, rfl⟩
              · rw [if_neg ek, if_neg ek, if_neg ek, if_neg ek]; exact hin z z0 (by omega)
            · rw [z2] at j1
              rw [z5]
              unfold ju
              by_cases ek : j = I 1 3
              · rw [if_pos ek]
              · rw [if_neg ek]; exact hD j j0 (by omega)
        · obtain ⟨e1, rfl, rfl⟩ := f1 hg
          obtain ⟨z1, rfl, rfl⟩ := q1 hg
          exact ⟨-1, e1, z1.symm, qX_n hx n3⟩
      obtain ⟨yy, rfl, ey, hfin⟩ := hfin
      show jt _ 133 _ [.int (jI yy)] _ _ _ _
      refine jt_pop d_LA_law_133 rfl ?_
      refine jt_goto (t := 426) d_LA_law_134 rfl ?_
      exact hgo _ _ _ _ hfin
    by_cases hs1 : y = 1
    · skip
      refine jt_tableIn (t := 137) d_LA_law_32 (by unfold jRi; omega) (by omega) (by omega) (by rw [hs1]; rfl) rfl ?_
      refine jt_aload_n d_LA_law_137 rfl ?_
      refine la_C (Y := Y_GC_wipe) (As := []) (rest := []) d_LA_law_138 LA_c18 yk_GC_wipe yv_GC_wipe rfl (Nat.le_of_ble_eq_true rfl) rfl rfl (Nat.le_of_ble_eq_true rfl) (by omega) hce hsl (v_GC_wipe_x G 0 c  I A a1 a2 ) (fun rv1 I1 A1 h1 => ?_)
      obtain ⟨y1, rfl, ry1, hp1, q1, q2⟩ := h1
      refine jt_pop d_LA_law_141 rfl ?_
      refine jt_aload_n d_LA_law_142 rfl ?_
      refine la_G (Y := Y_GM_wipe) (As := []) (rest := []) d_LA_law_143 LA_c22 yk_GM_wipe yv_GM_wipe rfl (Nat.le_of_ble_eq_true rfl) rfl rfl (Nat.le_of_ble_eq_true rfl) (by omega) hce hsl (c_GM_wipe G 0 (c + 472) J B) (fun rv2 J2 B2 h2 => ?_)
      obtain ⟨e9, rfl, rfl⟩ := h2
      have e7 : I1 0 7 = I 0 7 := hp1.2.2.1 0 7 rfl
      have g0 := gPo.I (S := [0]) (T := []) 0 0 (gPo.refl b1 b2) rfl (show (0 : Int) ≤ 0 ∧ (0 : Int) ≤ 120 by omega)
      have hl : lR (300 * (i + 3)) I1 A1 (va_up J 0 0) B2 := ⟨⟨hp1.1, hp1.2.1, cTok_of (cPx.po hp1) a3 rfl, by omega⟩, ⟨g0.1, g0.2.1, b3, fun k h0 h1 => by have h1 : k < 0 := h1; omega⟩, by show I1 1 3 = 0; exact q2, fun z h0 h1 => by have h1 : z < 0 := h1; omega⟩
      have hfin : ∃ yy : Int, rv2 = some (.int (jI yy)) ∧ yy = y1 ∧ qX (300 * (i + 3)) I1 A1 (va_up J 0 0) B2 := ⟨J 0, e9, by omega, qX_fr hx hl n3 (cFr_of hp1 rfl rfl rfl) ⟨rfl, rfl, rfl, rfl, rfl, rfl, rfl, rfl⟩ (fun j j0 j1 => by rw [q2] at j1; omega) (cMac_z hcm (cMe_of hp1 rfl rfl)) (gMr_e hmr (cMe_of hp1 rfl rfl) ⟨rfl, rfl, rfl, rfl⟩)⟩
      obtain ⟨yy, rfl, ey, hfin⟩ := hfin
      show jt _ 146 _ [.int (jI yy)] _ _ _ _
      refine jt_pop d_LA_law_146 rfl ?_
      refine jt_goto (t := 426) d_LA_law_147 rfl ?_
      exact hgo _ _ _ _ hfin
    by_cases hs2 : y = 2
    · skip
      refine jt_tableIn (t := 150) d_LA_law_32 (by unfold jRi; omega) (by omega) (by omega) (by rw [hs2]; rfl) rfl ?_
      refine jt_aload_n d_LA_law_150 rfl ?_
      refine jt_aload_n d_LA_law_151 rfl ?_
      refine jt_iload_n d_LA_law_152 rfl ?_
      refine jt_iconst d_LA_law_153 ?_
      refine jt_iadd d_LA_law_154 ?_
      refine jt_sld d_LA_law_155 (by omega) (by omega) hL ?_
      refine jt_aload_n d_LA_law_156 rfl ?_
      refine jt_iload_n d_LA_law_157 rfl ?_
      refine jt_iconst d_LA_law_158 ?_
      refine jt_iadd d_LA_law_159 ?_
      refine jt_sld d_LA_law_160 (by omega) (by omega) hL ?_
      refine la_C (Y := Y_GC_macro) (As := [.int (jI (sc xs (i + 1))), .int (jI (sc xs (i + 2)))]) (rest := []) d_LA_law_161 LA_c23 yk_GC_macro yv_GC_macro rfl (Nat.le_of_ble_eq_true rfl) rfl rfl (Nat.le_of_ble_eq_true rfl) (by omega) hce hsl (v_GC_macro_x G 0 c (sc xs (i + 1)) (sc xs (i + 2)) I A a1 a2 a3 (sc_r xs (i + 1)) (sc_r xs (i + 2))) (fun rv1 I1 A1 h1 => ?_)
      obtain ⟨y1, rfl, ry1, hp1, ht1, q1, q2⟩ := h1
      refine jt_pop d_LA_law_164 rfl ?_
      refine jt_aload_n d_LA_law_165 rfl ?_
      refine jt_aload_n d_LA_law_166 rfl ?_
      refine jt_iload_n d_LA_law_167 rfl ?_
      refine jt_iconst d_LA_law_168 ?_
      refine jt_iadd d_LA_law_169 ?_
      refine jt_sld d_LA_law_170 (by omega) (by omega) hL ?_
      refine jt_aload_n d_LA_law_171 rfl ?_
      refine jt_iload_n d_LA_law_172 rfl ?_
      refine jt_iconst d_LA_law_173 ?_
      refine jt_iadd d_LA_law_174 ?_
      refine jt_sld d_LA_law_175 (by omega) (by omega) hL ?_
      refine la_G (Y := Y_GM_macro) (As := [.int (jI (sc xs (i + 1))), .int (jI (sc xs (i + 2)))]) (rest := []) d_LA_law_176 LA_c26 yk_GM_macro yv_GM_macro rfl (Nat.le_of_ble_eq_true rfl) rfl rfl (Nat.le_of_ble_eq_true rfl) (by omega) hce hsl (c_GM_macro G 0 (c + 472) (sc xs (i + 1)) (sc xs (i + 2)) J B (sc_r xs (i + 1)) (sc_r xs (i + 2)) (b1 0).1 (b1 0).2 b4) (fun rv2 J2 B2 h2 => ?_)
      obtain ⟨m1, m2⟩ := h2
      have e7 : I1 0 7 = I 0 7 := hp1.2.2.1 0 7 rfl
      have hcr : cRef (A 2) (A 3) (I 1 3) (sc xs (i + 2)) ↔ ∃ k, 0 ≤ k ∧ k < J 0 ∧ B 16 k = 2 ∧ sc xs (i + 2) ≤ B 17 k := by
        unfold cRef
        rw [hlen]
        constructor
        · rintro ⟨k, k0, k1, k2, k3⟩
          have e := hin k k0 k1
          exact ⟨k, k0, k1, by rw [← e.1]; exact k2, by rw [← e.2]; exact k3⟩
        · rintro ⟨k, k0, k1, k2, k3⟩
          have e := hin k k0 k1
          exact ⟨k, k0, k1, by rw [e.1]; exact k2, by rw [e.2]; exact k3⟩
      have hfin : ∃ yy : Int, rv2 = some (.int (jI yy)) ∧ yy = y1 ∧ qX (300 * (i + 3)) I1 A1 J2 B2 := by
        by_cases hq : (sc xs (i + 1) < 0 ∨ 5 < sc xs (i + 1) ∨ sc xs (i + 2) < 0 ∨ 3 < sc xs (i + 2) ∨ 40 < J 0) ∨ (∃ k, 0 ≤ k ∧ k < J 0 ∧ B 16 k = 2 ∧ sc xs (i + 2) ≤ B 17 k)
        · obtain ⟨e1, rfl, rfl⟩ := m1 hq
          obtain ⟨z0, rfl, rfl⟩ := q1 (by rw [hlen]; rw [hlen] at hcr; rw [hcr]; exact hq)
          exact ⟨_, e1, z0.symm, qX_n hx n3⟩
        · obtain ⟨e1, rfl, X9, Y9, rfl, hX, hY⟩ := m2 hq
          obtain ⟨z0, z1, hdf⟩ := q2 (by rw [hlen]; rw [hlen] at hcr; rw [hcr]; exact hq)
          have hq1 := fun h => hq (Or.inl h)
          have hq2 := fun h => hq (Or.inr h)
          have hnr : ¬ cRef (A 2) (A 3) (I 1 3) (sc xs (i + 2)) := fun h => hq2 (hcr.mp h)
          have rj : 0 ≤ J 0 ∧ J 0 ≤ 120 := b1 0
          clear m1 m2 hcr q1 q2
          have rq : 0 ≤ sc xs (i + 1) ∧ sc xs (i + 1) ≤ 5 := by omega
          have rn : 0 ≤ sc xs (i + 2) ∧ sc xs (i + 2) ≤ 3 := by omega
          have rj4 : 0 ≤ J 0 ∧ J 0 ≤ 40 := by omega
          have g0 := gPo.I (S := [0]) (T := [18, 19, 20, 21]) 0 0 (gPo.refl b1 b2) rfl (show (0 : Int) ≤ 0 ∧ (0 : Int) ≤ 120 by omega)
          have gx := gPo.A 18 X9 g0 rfl (fun z => by rw [hX]; split; exact b2 16 _; exact b2 18 z)
          have gy := gPo.A 19 Y9 gx rfl (fun z => by rw [hY]; split; exact b2 17 _; exact b2 19 z)
          have gs := gPo.A 20 (ju (B 20) (sc xs (i + 1)) (J 0)) gy rfl (gju (b2 20) (show (-2147483648 : Int) ≤ J 0 ∧ J 0 ≤ 2147483647 by omega))
          have gp := gPo.A 21 (ju (B 21) (sc xs (i + 1)) (sc xs (i + 2))) gs rfl (gju (b2 21) r2)
          refine ⟨_, e1, z0.symm, qX_fr hx ⟨⟨hp1.1, hp1.2.1, ht1, by omega⟩, ⟨gp.1, gp.2.1, ?_, fun k k0 k1 => by have k1 : k < 0 := k1; omega⟩, by show I1 1 3 = 0; exact z1, fun z h0 h1 => by have h1 : z < 0 := h1; omega⟩ n3 (cFr_of hp1 rfl rfl rfl) ⟨rfl, rfl, rfl, rfl, rfl, rfl, rfl, rfl⟩ (fun j j0 j1 => by rw [z1] at j1; omega) (qX_mac hdf hcm rq rn hnr) (qX_gmr hdf hmr b3 rq rn rj4 hlen hin hX hY)⟩
          intro p p0 p1
          show -1 ≤ ju (B 20) (sc xs (i + 1)) (J 0) p ∧ ju (B 20) (sc xs (i + 1)) (J 0) p ≤ 40 ∧ 0 ≤ ju (B 21) (sc xs (i + 1)) (sc xs (i + 2)) p ∧ ju (B 21) (sc xs (i + 1)) (sc xs (i + 2)) p ≤ 3 ∧ ∀ c, p * 40 ≤ c → c < p * 40 + ju (B 20) (sc xs (i + 1)) (J 0) p → gtok (X9 c) (Y9 c) ∧ (X9 c = 2 → Y9 c < ju (B 21) (sc xs (i + 1)) (sc xs (i + 2)) p)
          have hb3 := b3 p p0 p1
          by_cases ep : p = sc xs (i + 1)
          · have es : ju (B 20) (sc xs (i + 1)) (J 0) p = J 0 := by unfold ju; rw [if_pos ep]
            have en : ju (B 21) (sc xs (i + 1)) (sc xs (i + 2)) p = sc xs (i + 2) := by unfold ju; rw [if_pos ep]
            rw [es, en]
            refine ⟨by omega, by omega, by omega, by omega, fun c c0 c1 => ?_⟩
            have hc : sc xs (i + 1) * 40 ≤ c ∧ c < sc xs (i + 1) * 40 + J 0 := by omega
            rw [hX, hY, if_pos hc, if_pos hc]
            refine ⟨b4 _ (by omega) (by omega), fun e2 => ?_⟩
            apply Classical.byContradiction
            intro hn
            exact hq2 ⟨c - sc xs (i + 1) * 40, by omega, by omega, e2, by omega⟩
          · have es : ju (B 20) (sc xs (i + 1)) (J 0) p = B 20 p := by unfold ju; rw [if_neg ep]
            have en : ju (B 21) (sc xs (i + 1)) (sc xs (i + 2)) p = B 21 p := by unfold ju; rw [if_neg ep]
            rw [es, en]
            obtain ⟨w1, w2, w3, w4, w5⟩ := hb3
            refine ⟨w1, w2, w3, w4, fun c c0 c1 => ?_⟩
            have hc : ¬ (sc xs (i + 1) * 40 ≤ c ∧ c < sc xs (i + 1) * 40 + J 0) := by omega
            rw [hX, hY, if_neg hc, if_neg hc]
            exact w5 c c0 c1
      obtain ⟨yy, rfl, ey, hfin⟩ := hfin
      show jt _ 179 _ [.int (jI yy)] _ _ _ _
      refine jt_pop d_LA_law_179 rfl ?_
      refine jt_goto (t := 426) d_LA_law_180 rfl ?_
      exact hgo _ _ _ _ hfin
    by_cases hs3 : y = 3
    · skip
      refine jt_tableIn (t := 183) d_LA_law_32 (by unfold jRi; omega) (by omega) (by omega) (by rw [hs3]; rfl) rfl ?_
      refine jt_aload_n d_LA_law_183 rfl ?_
      refine la_C (Y := Y_GC_run) (As := []) (rest := []) d_LA_law_184 LA_c27 yk_GC_run yv_GC_run rfl (Nat.le_of_ble_eq_true rfl) rfl rfl (Nat.le_of_ble_eq_true rfl) (by omega) hce hsl (v_GC_run_x G 0 c  I A a1 a2 a3 (by omega) (by omega) hD hcm hv) (fun rv1 I1 A1 h1 => ?_)
      obtain ⟨y1, rfl, ry1, hp1, ht1, q1, q2, q3, X0, Y0, D0, z, hgH, hXE, q5, q6, q7⟩ := h1
      obtain ⟨zz, hzz⟩ := rnE_ex (y := y1) (z := z) (I := I) (A := A) (I1 := I1) (A1 := A1) q7
      refine jt_pop d_LA_law_187 rfl ?_
      refine jt_aload_n d_LA_law_188 rfl ?_
      refine la_G (Y := Y_GM_run) (As := []) (rest := []) d_LA_law_189 LA_c30 yk_GM_run yv_GM_run rfl (Nat.le_of_ble_eq_true rfl) rfl rfl (Nat.le_of_ble_eq_true rfl) (by omega) hce hsl (y_GM_run G 0 (c + 472) J B b1 b2 b4 b3 (A 7) (fun z => I (14 + 4 * z.toNat) 3) (fun z => A (15 + 4 * z.toNat)) (fun z => A (16 + 4 * z.toNat)) hmr X0 Y0 D0 (fun j j0 j1 => by have k := gH_rd3 hgH (by have := (b1 0).2; have h9 : J 0 ≤ 120 := this; omega) j0 (by rw [hlen]; exact j1); have k2 := hin j j0 j1; exact ⟨k.1.trans k2.1, k.2.1.trans k2.2, k.2.2.trans (hD j j0 (by rw [hlen]; exact j1))⟩) z (by rw [← hlen]; exact hXE) (A 44) (cV A) (I 0 7) (cN I A) hg9 hv (by omega) (by omega) zz (fun e => by rw [← h88]; exact (hzz e).1)) (fun rv2 J2 B2 h2 => ?_)
      obtain ⟨yy, rfl, ry2, hp2, s0, s2, s3, s4⟩ := h2
      obtain ⟨ey, hfin⟩ := qX_run hx (show 300 * i + 300 ≤ 300 * (i + 3) by omega) hp1 ht1 q1 q2 q3 q5 q6 hzz hp2 s0 s2 s3 s4
      show jt _ 192 _ [.int (jI yy)] _ _ _ _
      refine jt_pop d_LA_law_192 rfl ?_
      refine jt_goto (t := 426) d_LA_law_193 rfl ?_
      exact hgo _ _ _ _ hfin
    by_cases hs4 : y = 4
    · skip
      refine jt_tableIn (t := 196) d_LA_law_32 (by unfold jRi; omega) (by omega) (by omega) (by rw [hs4]; rfl) rfl ?_
      refine jt_aload_n d_LA_law_196 rfl ?_
      refine la_C (Y := Y_GC_place) (As := []) (rest := []) d_LA_law_197 LA_c31 yk_GC_place yv_GC_place rfl (Nat.le_of_ble_eq_true rfl) rfl rfl (Nat.le_of_ble_eq_true rfl) (by omega) hce hsl (v_GC_place_x G 0 c  I A a1 a2 ) (fun rv1 I1 A1 h1 => ?_)
      obtain ⟨y1, rfl, ry1, rfl, rfl, q1⟩ := h1
      refine jt_pop d_LA_law_200 rfl ?_
      refine jt_aload_n d_LA_law_201 rfl ?_
      refine la_G (Y := Y_GM_place) (As := []) (rest := []) d_LA_law_202 LA_c34 yk_GM_place yv_GM_place rfl (Nat.le_of_ble_eq_true rfl) rfl rfl (Nat.le_of_ble_eq_true rfl) (by omega) hce hsl (c_GM_place G 0 (c + 472) J B) (fun rv2 J2 B2 h2 => ?_)
      obtain ⟨e2, rfl, rfl⟩ := h2
      have hfin := qX_n hx n3
      have ey : J2 3 = y1 := by omega
      rw [ey] at e2
      subst e2
      show jt _ 205 _ [.int (jI y1)] _ _ _ _
      refine jt_pop d_LA_law_205 rfl ?_
      refine jt_goto (t := 426) d_LA_law_206 rfl ?_
      exact hgo _ _ _ _ hfin
    by_cases hs5 : y = 5
    · skip
      refine jt_tableIn (t := 209) d_LA_law_32 (by unfold jRi; omega) (by omega) (by omega) (by rw [hs5]; rfl) rfl ?_
      refine jt_aload_n d_LA_law_209 rfl ?_
      refine la_C (Y := Y_GC_forget) (As := []) (rest := []) d_LA_law_210 LA_c35 yk_GC_forget yv_GC_forget rfl (Nat.le_of_ble_eq_true rfl) rfl rfl (Nat.le_of_ble_eq_true rfl) (by omega) hce hsl (v_GC_forget_x G 0 c  I A a1 a2 ) (fun rv1 I1 A1 h1 => ?_)
      obtain ⟨y1, rfl, ry1, hp1, q1⟩ := h1
      refine jt_pop d_LA_law_213 rfl ?_
      refine jt_aload_n d_LA_law_214 rfl ?_
      refine la_G (Y := Y_GM_forget) (As := []) (rest := []) d_LA_law_215 LA_c38 yk_GM_forget yv_GM_forget rfl (Nat.le_of_ble_eq_true rfl) rfl rfl (Nat.le_of_ble_eq_true rfl) (by omega) hce hsl (c_GM_forget G 0 (c + 472) J B) (fun rv2 J2 B2 h2 => ?_)
      obtain ⟨e9, rfl, X9, rfl, hX⟩ := h2
      have gx := gPo.A (S := []) (T := [30]) 30 X9 (gPo.refl b1 b2) rfl (fun z => by rw [hX]; split; exact ⟨by decide, by decide⟩; exact b2 30 z)
      have hfin : ∃ yy : Int, rv2 = some (.int (jI yy)) ∧ yy = y1 ∧ qX (300 * (i + 3)) I1 A1 J2 (va_up B 30 X9) := ⟨0, e9, ry1.symm, qX_forget hx n3 hp1 q1 hX gx⟩
      obtain ⟨yy, rfl, ey, hfin⟩ := hfin
      show jt _ 218 _ [.int (jI yy)] _ _ _ _
      refine jt_pop d_LA_law_218 rfl ?_
      refine jt_goto (t := 426) d_LA_law_219 rfl ?_
      exact hgo _ _ _ _ hfin
    by_cases hs6 : y = 6
    · skip
      refine jt_tableIn (t := 222) d_LA_law_32 (by unfold jRi; omega) (by omega) (by omega) (by rw [hs6]; rfl) rfl ?_
      refine jt_aload_n d_LA_law_222 rfl ?_
      refine la_C (Y := Y_GC_clean) (As := []) (rest := []) d_LA_law_223 LA_c39 yk_GC_clean yv_GC_clean rfl (Nat.le_of_ble_eq_true rfl) rfl rfl (Nat.le_of_ble_eq_true rfl) (by omega) hce hsl (v_GC_clean_x G 0 c  I A a1 a2 ) (fun rv1 I1 A1 h1 => ?_)
      obtain ⟨y1, rfl, ry1, hp1, q1⟩ := h1
      refine jt_pop d_LA_law_226 rfl ?_
      refine jt_aload_n d_LA_law_227 rfl ?_
      refine la_G (Y := Y_GM_clean) (As := []) (rest := []) d_LA_law_228 LA_c42 yk_GM_clean yv_GM_clean rfl (Nat.le_of_ble_eq_true rfl) rfl rfl (Nat.le_of_ble_eq_true rfl) (by omega) hce hsl (c_GM_clean G 0 (c + 472) J B) (fun rv2 J2 B2 h2 => ?_)
      obtain ⟨e9, rfl, X9, rfl, hX⟩ := h2
      have gx := gPo.A (S := []) (T := [45]) 45 X9 (gPo.refl b1 b2) rfl (fun z => by rw [hX]; split; exact ⟨by decide, by decide⟩; exact b2 45 z)
      have hfin : ∃ yy : Int, rv2 = some (.int (jI yy)) ∧ yy = y1 ∧ qX (300 * (i + 3)) I1 A1 J2 (va_up B 45 X9) := ⟨0, e9, ry1.symm, qX_clean hx (lR_g (lR_c hr (cPx.po hp1) rfl rfl rfl rfl rfl n3) gx rfl rfl rfl rfl rfl rfl rfl) n3 hp1 q1 hX⟩
      obtain ⟨yy, rfl, ey, hfin⟩ := hfin
      show jt _ 231 _ [.int (jI yy)] _ _ _ _
      refine jt_pop d_LA_law_231 rfl ?_
      refine jt_goto (t := 426) d_LA_law_232 rfl ?_
      exact hgo _ _ _ _ hfin
    by_cases hs7 : y = 7
    · skip
      refine jt_tableIn (t := 235) d_LA_law_32 (by unfold jRi; omega) (by omega) (by omega) (by rw [hs7]; rfl) rfl ?_
      refine jt_aload_n d_LA_law_235 rfl ?_
      refine jt_aload_n d_LA_law_236 rfl ?_
      refine jt_iload_n d_LA_law_237 rfl ?_
      refine jt_iconst d_LA_law_238 ?_
      refine jt_iadd d_LA_law_239 ?_
      refine jt_sld d_LA_law_240 (by omega) (by omega) hL ?_
      refine la_C (Y := Y_GC_state) (As := [.int (jI (sc xs (i + 1)))]) (rest := []) d_LA_law_241 LA_c43 yk_GC_state yv_GC_state rfl (Nat.le_of_ble_eq_true rfl) rfl rfl (Nat.le_of_ble_eq_true rfl) (by omega) hce hsl (v_GC_state_x G 0 c (sc xs (i + 1)) I A a1 a2 (sc_r xs (i + 1))) (fun rv1 I1 A1 h1 => ?_)
      obtain ⟨y1, rfl, ry1, rfl, rfl, q1⟩ := h1
      refine jt_pop d_LA_law_244 rfl ?_
      refine jt_aload_n d_LA_law_245 rfl ?_
      refine jt_aload_n d_LA_law_246 rfl ?_
      refine jt_iload_n d_LA_law_247 rfl ?_
      refine jt_iconst d_LA_law_248 ?_
      refine jt_iadd d_LA_law_249 ?_
      refine jt_sld d_LA_law_250 (by omega) (by omega) hL ?_
      refine la_G (Y := Y_GM_state) (As := [.int (jI (sc xs (i + 1)))]) (rest := []) d_LA_law_251 LA_c47 yk_GM_state yv_GM_state rfl (Nat.le_of_ble_eq_true rfl) rfl rfl (Nat.le_of_ble_eq_true rfl) (by omega) hce hsl (c_GM_state G 0 (c + 472) (sc xs (i + 1)) J B (sc_r xs (i + 1))) (fun rv2 J2 B2 h2 => ?_)
      obtain ⟨e2, rfl, rfl⟩ := h2
      have hfin := qX_n hx n3
      have ey : (if (sc xs (i + 1)) < 0 ∨ 11 < (sc xs (i + 1)) then -1 else B2 30 (sc xs (i + 1))) = y1 := eq_state hx q1
      rw [ey] at e2
      subst e2
      show jt _ 254 _ [.int (jI y1)] _ _ _ _
      refine jt_pop d_LA_law_254 rfl ?_
      refine jt_goto (t := 426) d_LA_law_255 rfl ?_
      exact hgo _ _ _ _ hfin
    by_cases hs8 : y = 8
    · skip
      refine jt_tableIn (t := 258) d_LA_law_32 (by unfold jRi; omega) (by omega) (by omega) (by rw [hs8]; rfl) rfl ?_
      refine jt_aload_n d_LA_law_258 rfl ?_
      refine jt_aload_n d_LA_law_259 rfl ?_
      refine jt_iload_n d_LA_law_260 rfl ?_
      refine jt_iconst d_LA_law_261 ?_
      refine jt_iadd d_LA_law_262 ?_
      refine jt_sld d_LA_law_263 (by omega) (by omega) hL ?_
      refine la_C (Y := Y_GC_number) (As := [.int (jI (sc xs (i + 1)))]) (rest := []) d_LA_law_264 LA_c48 yk_GC_number yv_GC_number rfl (Nat.le_of_ble_eq_true rfl) rfl rfl (Nat.le_of_ble_eq_true rfl) (by omega) hce hsl (v_GC_number_x G 0 c (sc xs (i + 1)) I A a1 a2 (sc_r xs (i + 1))) (fun rv1 I1 A1 h1 => ?_)
      obtain ⟨y1, rfl, ry1, rfl, rfl, q1⟩ := h1
      refine jt_pop2l d_LA_law_267 rfl ?_
      refine jt_aload_n d_LA_law_268 rfl ?_
      refine jt_aload_n d_LA_law_269 rfl ?_
      refine jt_iload_n d_LA_law_270 rfl ?_
      refine jt_iconst d_LA_law_271 ?_
      refine jt_iadd d_LA_law_272 ?_
      refine jt_sld d_LA_law_273 (by omega) (by omega) hL ?_
      refine la_G (Y := Y_GM_number) (As := [.int (jI (sc xs (i + 1)))]) (rest := []) d_LA_law_274 LA_c52 yk_GM_number yv_GM_number rfl (Nat.le_of_ble_eq_true rfl) rfl rfl (Nat.le_of_ble_eq_true rfl) (by omega) hce hsl (c_GM_number G 0 (c + 472) (sc xs (i + 1)) J B (sc_r xs (i + 1)) (gSt_r hx)) (fun rv2 J2 B2 h2 => ?_)
      obtain ⟨e2, rfl, rfl⟩ := h2
      have hfin := qX_n hx n3
      have ey : (if (sc xs (i + 1)) < 0 ∨ 11 < (sc xs (i + 1)) ∨ B2 30 (sc xs (i + 1)) = 0 then 1000000000000000 else B2 31 ((sc xs (i + 1)) * 13 + 12)) = y1 := eq_number hx q1
      rw [ey] at e2
      subst e2
      show jt _ 277 _ [.long (jL y1)] _ _ _ _
      refine jt_pop2l d_LA_law_277 rfl ?_
      refine jt_goto (t := 426) d_LA_law_278 rfl ?_
      exact hgo _ _ _ _ hfin
    by_cases hs9 : y = 9
    · skip
      refine jt_tableIn (t := 281) d_LA_law_32 (by unfold jRi; omega) (by omega) (by omega) (by rw [hs9]; rfl) rfl ?_
      refine jt_aload_n d_LA_law_281 rfl ?_
      refine jt_aload_n d_LA_law_282 rfl ?_
      refine jt_iload_n d_LA_law_283 rfl ?_
      refine jt_iconst d_LA_law_284 ?_
      refine jt_iadd d_LA_law_285 ?_
      refine jt_sld d_LA_law_286 (by omega) (by omega) hL ?_
      refine jt_aload_n d_LA_law_287 rfl ?_
      refine jt_iload_n d_LA_law_288 rfl ?_
      refine jt_iconst d_LA_law_289 ?_
      refine jt_iadd d_LA_law_290 ?_
      refine jt_sld d_LA_law_291 (by omega) (by omega) hL ?_
      refine la_C (Y := Y_GC_factor) (As := [.int (jI (sc xs (i + 1))), .int (jI (sc xs (i + 2)))]) (rest := []) d_LA_law_292 LA_c53 yk_GC_factor yv_GC_factor rfl (Nat.le_of_ble_eq_true rfl) rfl rfl (Nat.le_of_ble_eq_true rfl) (by omega) hce hsl (v_GC_factor_x G 0 c (sc xs (i + 1)) (sc xs (i + 2)) I A a1 a2 (sc_r xs (i + 1)) (sc_r xs (i + 2))) (fun rv1 I1 A1 h1 => ?_)
      obtain ⟨y1, rfl, ry1, rfl, rfl, q1⟩ := h1
      refine jt_pop2l d_LA_law_295 rfl ?_
      refine jt_aload_n d_LA_law_296 rfl ?_
      refine jt_aload_n d_LA_law_297 rfl ?_
      refine jt_iload_n d_LA_law_298 rfl ?_
      refine jt_iconst d_LA_law_299 ?_
      refine jt_iadd d_LA_law_300 ?_
      refine jt_sld d_LA_law_301 (by omega) (by omega) hL ?_
      refine jt_aload_n d_LA_law_302 rfl ?_
      refine jt_iload_n d_LA_law_303 rfl ?_
      refine jt_iconst d_LA_law_304 ?_
      refine jt_iadd d_LA_law_305 ?_
      refine jt_sld d_LA_law_306 (by omega) (by omega) hL ?_
      refine la_G (Y := Y_GM_factor) (As := [.int (jI (sc xs (i + 1))), .int (jI (sc xs (i + 2)))]) (rest := []) d_LA_law_307 LA_c57 yk_GM_factor yv_GM_factor rfl (Nat.le_of_ble_eq_true rfl) rfl rfl (Nat.le_of_ble_eq_true rfl) (by omega) hce hsl (c_GM_factor G 0 (c + 472) (sc xs (i + 1)) (sc xs (i + 2)) J B (sc_r xs (i + 1)) (sc_r xs (i + 2)) (gSt_r hx)) (fun rv2 J2 B2 h2 => ?_)
      obtain ⟨e2, rfl, rfl⟩ := h2
      have hfin := qX_n hx n3
      have ey : (if (sc xs (i + 1)) < 0 ∨ 11 < (sc xs (i + 1)) ∨ (sc xs (i + 2)) < 0 ∨ 11 < (sc xs (i + 2)) ∨ ¬ B2 30 (sc xs (i + 1)) = 1 then 1000000000000000 else B2 31 ((sc xs (i + 1)) * 13 + (sc xs (i + 2)))) = y1 := eq_factor hx q1
      rw [ey] at e2
      subst e2
      show jt _ 310 _ [.long (jL y1)] _ _ _ _
      refine jt_pop2l d_LA_law_310 rfl ?_
      refine jt_goto (t := 426) d_LA_law_311 rfl ?_
      exact hgo _ _ _ _ hfin
    by_cases hs10 : y = 10
    · skip
      refine jt_tableIn (t := 314) d_LA_law_32 (by unfold jRi; omega) (by omega) (by omega) (by rw [hs10]; rfl) rfl ?_
      refine jt_aload_n d_LA_law_314 rfl ?_
      refine jt_aload_n d_LA_law_315 rfl ?_
      refine jt_iload_n d_LA_law_316 rfl ?_
      refine jt_iconst d_LA_law_317 ?_
      refine jt_iadd d_LA_law_318 ?_
      refine jt_sld d_LA_law_319 (by omega) (by omega) hL ?_
      refine jt_aload_n d_LA_law_320 rfl ?_
      refine jt_iload_n d_LA_law_321 rfl ?_
      refine jt_iconst d_LA_law_322 ?_
      refine jt_iadd d_LA_law_323 ?_
      refine jt_sld d_LA_law_324 (by omega) (by omega) hL ?_
      refine la_C (Y := Y_GC_black) (As := [.int (jI (sc xs (i + 1))), .int (jI (sc xs (i + 2)))]) (rest := []) d_LA_law_325 LA_c58 yk_GC_black yv_GC_black rfl (Nat.le_of_ble_eq_true rfl) rfl rfl (Nat.le_of_ble_eq_true rfl) (by omega) hce hsl (v_GC_black_x G 0 c (sc xs (i + 1)) (sc xs (i + 2)) I A a1 a2 (sc_r xs (i + 1)) (sc_r xs (i + 2))) (fun rv1 I1 A1 h1 => ?_)
      obtain ⟨y1, rfl, ry1, rfl, rfl, q1⟩ := h1
      refine jt_pop d_LA_law_328 rfl ?_
      refine jt_aload_n d_LA_law_329 rfl ?_
      refine jt_aload_n d_LA_law_330 rfl ?_
      refine jt_iload_n d_LA_law_331 rfl ?_
      refine jt_iconst d_LA_law_332 ?_
      refine jt_iadd d_LA_law_333 ?_
      refine jt_sld d_LA_law_334 (by omega) (by omega) hL ?_
      refine jt_aload_n d_LA_law_335 rfl ?_
      refine jt_iload_n d_LA_law_336 rfl ?_
      refine jt_iconst d_LA_law_337 ?_
      refine jt_iadd d_LA_law_338 ?_
      refine jt_sld d_LA_law_339 (by omega) (by omega) hL ?_
      refine la_G (Y := Y_GM_black) (As := [.int (jI (sc xs (i + 1))), .int (jI (sc xs (i + 2)))]) (rest := []) d_LA_law_340 LA_c62 yk_GM_black yv_GM_black rfl (Nat.le_of_ble_eq_true rfl) rfl rfl (Nat.le_of_ble_eq_true rfl) (by omega) hce hsl (c_GM_black G 0 (c + 472) (sc xs (i + 1)) (sc xs (i + 2)) J B (sc_r xs (i + 1)) (sc_r xs (i + 2)) (fun z _ _ => by have q9 : (0 : Int) ≤ B 45 z ∧ B 45 z ≤ 1 := b2 45 z; omega)) (fun rv2 J2 B2 h2 => ?_)
      obtain ⟨e2, rfl, rfl⟩ := h2
      have hfin := qX_n hx n3
      have ey : (if (sc xs (i + 1)) < 0 ∨ 31 < (sc xs (i + 1)) ∨ (sc xs (i + 2)) < 0 ∨ 23 < (sc xs (i + 2)) then 0 else B2 45 ((sc xs (i + 2)) * 32 + (sc xs (i + 1)))) = y1 := eq_black hx q1
      rw [ey] at e2
      subst e2
      show jt _ 343 _ [.int (jI y1)] _ _ _ _
      refine jt_pop d_LA_law_343 rfl ?_
      refine jt_goto (t := 426) d_LA_law_344 rfl ?_
      exact hgo _ _ _ _ hfin
    by_cases hs11 : y = 11
    · skip
      refine jt_tableIn (t := 347) d_LA_law_32 (by unfold jRi; omega) (by omega) (by omega) (by rw [hs11]; rfl) rfl ?_
      refine jt_aload_n d_LA_law_347 rfl ?_
      refine jt_aload_n d_LA_law_348 rfl ?_
      refine jt_iload_n d_LA_law_349 rfl ?_
      refine jt_iconst d_LA_law_350 ?_
      refine jt_iadd d_LA_law_351 ?_
      refine jt_sld d_LA_law_352 (by omega) (by omega) hL ?_
      refine jt_aload_n d_LA_law_353 rfl ?_
      refine jt_iload_n d_LA_law_354 rfl ?_
      refine jt_iconst d_LA_law_355 ?_
      refine jt_iadd d_LA_law_356 ?_
      refine jt_sld d_LA_law_357 (by omega) (by omega) hL ?_
      refine la_C (Y := Y_GC_stretch) (As := [.int (jI (sc xs (i + 1))), .int (jI (sc xs (i + 2)))]) (rest := []) d_LA_law_358 LA_c63 yk_GC_stretch yv_GC_stretch rfl (Nat.le_of_ble_eq_true rfl) rfl rfl (Nat.le_of_ble_eq_true rfl) (by omega) hce hsl (v_GC_stretch_p G 0 c (sc xs (i + 1)) (sc xs (i + 2)) I A a1 a2 (sc_r xs (i + 1)) (sc_r xs (i + 2))) (fun rv1 I1 A1 h1 => ?_)
      obtain ⟨y1, rfl, ry1, hp1⟩ := h1
      obtain ⟨rfl, rfl⟩ := cPx_nil hp1
      refine jt_pop d_LA_law_361 rfl ?_
      refine jt_aload_n d_LA_law_362 rfl ?_
      refine jt_aload_n d_LA_law_363 rfl ?_
      refine jt_iload_n d_LA_law_364 rfl ?_
      refine jt_iconst d_LA_law_365 ?_
      refine jt_iadd d_LA_law_366 ?_
      refine jt_sld d_LA_law_367 (by omega) (by omega) hL ?_
      refine jt_aload_n d_LA_law_368 rfl ?_
      refine jt_iload_n d_LA_law_369 rfl ?_
      refine jt_iconst d_LA_law_370 ?_
      refine jt_iadd d_LA_law_371 ?_
      refine jt_sld d_LA_law_372 (by omega) (by omega) hL ?_
      refine la_G (Y := Y_GM_stretch) (As := [.int (jI (sc xs (i + 1))), .int (jI (sc xs (i + 2)))]) (rest := []) d_LA_law_373 LA_c66 yk_GM_stretch yv_GM_stretch rfl (Nat.le_of_ble_eq_true rfl) rfl rfl (Nat.le_of_ble_eq_true rfl) (by omega) hce hsl (w_GM_stretch G 0 (c + 472) (sc xs (i + 1)) (sc xs (i + 2)) J B b1 b2 (sc_r xs (i + 1)) (sc_r xs (i + 2))) (fun rv2 J2 B2 h2 => ?_)
      obtain ⟨y2, rfl, ry2, hp2⟩ := h2
      obtain ⟨rfl, rfl⟩ := gPo_nil hp2
      have hfin := qX_n hx n3
      refine jt_pop d_LA_law_376 rfl ?_
      refine jt_goto (t := 426) d_LA_law_377 rfl ?_
      exact hgo _ _ _ _ hfin
    by_cases hs12 : y = 12
    · skip
      refine jt_tableIn (t := 380) d_LA_law_32 (by unfold jRi; omega) (by omega) (by omega) (by rw [hs12]; rfl) rfl ?_
      refine jt_aload_n d_LA_law_380 rfl ?_
      refine jt_aload_n d_LA_law_381 rfl ?_
      refine jt_iload_n d_LA_law_382 rfl ?_
      refine jt_iconst d_LA_law_383 ?_
      refine jt_iadd d_LA_law_384 ?_
      refine jt_sld d_LA_law_385 (by omega) (by omega) hL ?_
      refine la_C (Y := Y_GC_shown) (As := [.int (jI (sc xs (i + 1)))]) (rest := []) d_LA_law_386 LA_c67 yk_GC_shown yv_GC_shown rfl (Nat.le_of_ble_eq_true rfl) rfl rfl (Nat.le_of_ble_eq_true rfl) (by omega) hce hsl (v_GC_shown_x G 0 c (sc xs (i + 1)) I A a1 a2 (sc_r xs (i + 1))) (fun rv1 I1 A1 h1 => ?_)
      obtain ⟨y1, rfl, ry1, rfl, rfl, q1⟩ := h1
      refine jt_pop2l d_LA_law_389 rfl ?_
      refine jt_aload_n d_LA_law_390 rfl ?_
      refine jt_aload_n d_LA_law_391 rfl ?_
      refine jt_iload_n d_LA_law_392 rfl ?_
      refine jt_iconst d_LA_law_393 ?_
      refine jt_iadd d_LA_law_394 ?_
      refine jt_sld d_LA_law_395 (by omega) (by omega) hL ?_
      refine la_G (Y := Y_GM_shown) (As := [.int (jI (sc xs (i + 1)))]) (rest := []) d_LA_law_396 LA_c70 yk_GM_shown yv_GM_shown rfl (Nat.le_of_ble_eq_true rfl) rfl rfl (Nat.le_of_ble_eq_true rfl) (by omega) hce hsl (c_GM_shown G 0 (c + 472) (sc xs (i + 1)) J B (sc_r xs (i + 1)) (b1 7)) (fun rv2 J2 B2 h2 => ?_)
      obtain ⟨e2, rfl, rfl⟩ := h2
      have hfin := qX_n hx n3
      have ey : (if (sc xs (i + 1)) < 0 ∨ 7 < (sc xs (i + 1)) ∨ J2 7 ≤ (sc xs (i + 1)) then 1000000000000000 else B2 32 (sc xs (i + 1))) = y1 := eq_shown hx q1
      rw [ey] at e2
      subst e2
      show jt _ 399 _ [.long (jL y1)] _ _ _ _
      refine jt_pop2l d_LA_law_399 rfl ?_
      refine jt_goto (t := 426) d_LA_law_400 rfl ?_
      exact hgo _ _ _ _ hfin
    by_cases hs13 : y = 13
    · skip
      refine jt_tableIn (t := 403) d_LA_law_32 (by unfold jRi; omega) (by omega) (by omega) (by rw [hs13]; rfl) rfl ?_
      refine jt_aload_n d_LA_law_403 rfl ?_
      refine jt_aload_n d_LA_law_404 rfl ?_
      refine jt_iload_n d_LA_law_405 rfl ?_
      refine jt_iconst d_LA_law_406 ?_
      refine jt_iadd d_LA_law_407 ?_
      refine jt_sld d_LA_law_408 (by omega) (by omega) hL ?_
      refine la_C (Y := Y_GC_count) (As := [.int (jI (sc xs (i + 1)))]) (rest := []) d_LA_law_409 LA_c71 yk_GC_count yv_GC_count rfl (Nat.le_of_ble_eq_true rfl) rfl rfl (Nat.le_of_ble_eq_true rfl) (by omega) hce hsl (v_GC_count_x G 0 c (sc xs (i + 1)) I A a1 a2 (sc_r xs (i + 1))) (fun rv1 I1 A1 h1 => ?_)
      obtain ⟨y1, rfl, ry1, rfl, rfl, q1⟩ := h1
      refine jt_aload_n d_LA_law_412 rfl ?_
      refine jt_aload_n d_LA_law_413 rfl ?_
      refine jt_iload_n d_LA_law_414 rfl ?_
      refine jt_iconst d_LA_law_415 ?_
      refine jt_iadd d_LA_law_416 ?_
      refine jt_sld d_LA_law_417 (by omega) (by omega) hL ?_
      refine la_G (Y := Y_GM_count) (As := [.int (jI (sc xs (i + 1)))]) (rest := [.int (jI y1)]) d_LA_law_418 LA_c74 yk_GM_count yv_GM_count rfl (Nat.le_of_ble_eq_true rfl) rfl rfl (Nat.le_of_ble_eq_true rfl) (by omega) hce hsl (y_GM_count G 0 (c + 472) (sc xs (i + 1)) J B b1 b2 (sc_r xs (i + 1))) (fun rv2 J2 B2 h2 => ?_)
      obtain ⟨yy, rfl, ry2, hp2, e2⟩ := h2
      obtain ⟨rfl, rfl⟩ := gPo_nil hp2
      have hfin := qX_n hx n3
      have ey : yy = y1 := by rw [e2, q1]; exact eq_count hx
      show jt _ 421 _ [.int (jI yy), .int (jI y1)] _ _ _ _
      refine jt_icmp_eq (t := 426) d_LA_law_421 rfl (by unfold jRi; omega) (by unfold jRi; omega) (fun _ => ?_) (fun c8 => ?_)
      · exact hgo _ _ _ _ hfin
      · exfalso; omega
    exfalso
    omega
theorem cSI_0 : cSI I0 := by
  intro k j
  unfold I0 cLo cHi
  by_cases h : k = 0 ∧ j = 9
  · obtain ⟨rfl, rfl⟩ := h
    decide
  · rw [if_neg h]
    repeat (first | omega | (split))
theorem cSA_0 : cSA (aV 12 12) := by
  intro k z
  unfold aV eLo eHi
  by_cases h7 : k = 7
  · rw [if_pos h7, if_pos h7, if_pos h7]; split <;> omega
  · rw [if_neg h7, if_neg h7, if_neg h7]
    by_cases h1 : 47 ≤ k ∧ k < 47 + 2 * 12 ∧ k % 2 = 1
    · rw [if_pos h1, if_neg (show ¬ k = 12 by omega), if_neg (show ¬ k = 13 by omega), if_neg (show ¬ k = 375 by omega), if_neg (show ¬ k = 469 by omega), if_neg (show ¬ k = 12 by omega), if_neg (show ¬ k = 13 by omega), if_neg (show ¬ k = 375 by omega), if_neg (show ¬ k = 469 by omega)]
      split <;> split <;> omega
    · rw [if_neg h1]
      by_cases h2 : 437 ≤ k ∧ k < 437 + 2 * 12 ∧ k % 2 = 1
      · rw [if_pos h2, if_neg (show ¬ k = 12 by omega), if_neg (show ¬ k = 13 by omega), if_neg (show ¬ k = 375 by omega), if_neg (show ¬ k = 469 by omega), if_neg (show ¬ k = 12 by omega), if_neg (show ¬ k = 13 by omega), if_neg (show ¬ k = 375 by omega), if_neg (show ¬ k = 469 by omega)]
        split <;> split <;> omega
      · rw [if_neg h2]
        repeat (first | omega | split)
theorem cTok_0 : cTok (aV 12 12) := by
  intro k hk z
  have h3 : k = 1 ∨ k = 8 ∨ k = 14 ∨ k = 18 ∨ k = 22 ∨ k = 26 ∨ k = 30 ∨ k = 34 ∨ k = 39 := by
    have := List.contains_iff_mem.mp hk
    simpa [cRows] using this
  rw [aV_0 (k := k + 1) (by omega) (by omega) (by omega), aV_0 (k := k + 2) (by omega) (by omega) (by omega)]
  show gtok (0 : Int) (0 : Int)
  unfold gtok
  omega
theorem gSI_0 : gSI GI0 := by
  intro k
  by_cases h : k < 16
  · have h2 : k = 0 ∨ k = 1 ∨ k = 2 ∨ k = 3 ∨ k = 4 ∨ k = 5 ∨ k = 6 ∨ k = 7 ∨ k = 8 ∨ k = 9 ∨ k = 10 ∨ k = 11 ∨ k = 12 ∨ k = 13 ∨ k = 14 ∨ k = 15 := by omega
    rcases h2 with rfl | rfl | rfl | rfl | rfl | rfl | rfl | rfl | rfl | rfl | rfl | rfl | rfl | rfl | rfl | rfl <;> decide
  · unfold GI0 gLo gHi
    rw [if_neg (by omega), List.getD_eq_getElem?_getD, List.getD_eq_getElem?_getD, List.getElem?_eq_none (by simp; omega), List.getElem?_eq_none (by simp; omega)]
    decide
theorem gSA_0 : gSA GA0 := by
  intro k z
  by_cases h : k = 20
  · subst h
    show (-2147483648 : Int) ≤ (if 0 ≤ z ∧ z < 6 then -1 else 0) ∧ (if 0 ≤ z ∧ z < 6 then -1 else 0) ≤ (2147483647 : Int)
    split <;> omega
  · have e : GA0 k z = 0 := by unfold GA0; rw [if_neg h]
    rw [e]
    unfold aLo aHi
    repeat (first | omega | split)
theorem lR_0 : lR 0 I0 (aV 12 12) GI0 GA0 := by
  refine ⟨⟨cSI_0, cSA_0, cTok_0, by decide⟩, ⟨gSI_0, gSA_0, ?_, fun k h0 h1 => ?_⟩, rfl, fun z h0 h1 => ?_⟩
  · intro q q0 q1
    have e : GA0 20 q = -1 := by unfold GA0; rw [if_pos rfl, if_pos ⟨q0, by omega⟩]
    have e2 : GA0 21 q = 0 := rfl
    rw [e, e2]
    exact ⟨by omega, by omega, by omega, by omega, fun c c0 c1 => by exfalso; omega⟩
  · have h1 : k < 0 := h1
    omega
  · have h1 : z < 0 := h1
    omega
theorem cV_0 {u z : Int} (u0 : 0 ≤ u) (u1 : u < 12) : cV (aV 12 12) u z = if z = u then 65536 else 0 := by
  rw [cV_e u1]
  unfold aV
  rw [if_neg (by omega), if_pos ⟨by omega, by omega, by omega⟩, show (((47 + 2 * u.toNat - 47) / 2 : Nat) : Int) = u by omega]
theorem qX_0 : qX 0 I0 (aV 12 12) GI0 GA0 := by
  have h44 : aV 12 12 44 = fun _ => 0 := aV_0 (by omega) (by omega) (by omega)
  have h471 : aV 12 12 471 = fun _ => 0 := aV_0 (by omega) (by omega) (by omega)
  have hi : ∀ u, 0 ≤ u → u < 12 → inr (cV (aV 12 12) u) := fun u u0 u1 z z0 z1 => by rw [cV_0 u0 u1]; split <;> (show gin _) <;> (constructor <;> decide)
  refine ⟨lR_0, by decide, fun z z0 z1 hz => ?_, fun j j0 j1 => ?_, fun u u0 u1 => ?_, fun q q0 q1 => ?_, ⟨⟨fun u u0 u1 => ?_, fun u u0 u1 => ⟨hi u u0 u1, fun _ i i0 i1 => cV_0 u0 u1, fun z => absurd rfl z⟩⟩, rfl, fun k k0 k1 => ?_, fun k k0 k1 => ?_⟩, rfl, rfl, rfl⟩
  · exact absurd (show aV 12 12 7 z = -1 by unfold aV; rw [if_pos rfl, if_pos ⟨z0, z1⟩]) hz
  · have j1 : j < 0 := j1
    omega
  · rw [h44]
    exact ⟨hi u u0 u1, Or.inl rfl, fun _ i i0 i1 => cV_0 u0 u1, fun z => absurd z (show ¬ (0 : Int) = 1 by decide), fun z => absurd z (show ¬ (0 : Int) = 2 by decide), fun w w0 w1 _ => rfl⟩
  · refine ⟨fun _ => ?_, fun z => ?_⟩
    · show GA0 20 q < 0
      unfold GA0
      rw [if_pos rfl, if_pos ⟨q0, by omega⟩]
      decide
    · exact absurd (show aV 12 12 7 q = -1 by unfold aV; rw [if_pos rfl, if_pos ⟨q0, by omega⟩]) z
  · show (0 : Int) = aV 12 12 44 u
    rw [h44]
  · rw [cN_k k0]
    show (0 : Int) = aV 12 12 471 _
    rw [h471]
  · rw [cN_p k0]
    show (0 : Int) = aV 12 12 469 _
    rw [aV_0 (k := 469) (by omega) (by omega) (by omega)]
set_option maxRecDepth 100000 in
set_option maxHeartbeats 4000000 in
theorem la_main (G : jG) (b L : Nat) (xs : Nat → Int32) (hL : L ≤ 1536) : jt (lK G b L xs) 0 [(0, .ref b)] [] (fun _ => none) (gb G) 0 0 := by
  refine jt_new (ci := 7) (fs := [.null, .null, .null, .null, .null, .null, .null, .int (jI 0), .int (jI 0), .int (jI 0)]) d_LA_law_0 rfl nw_LA_7 pd_GC (show 0 + 1 ≤ 600000 by omega) (show 0 + 10 ≤ 7302250 by omega) ?_
  refine jt_dup d_LA_law_3 rfl ?_
  refine jt_callI (Y := Y_GC_init) (b := gb G) (As := []) (rest := [.ref (gb G)]) (rm := iR 5 471 7153) d_LA_law_4 LA_c9 yk_GC_init yv_GC_init rfl rfl rfl rfl (Nat.le_of_ble_eq_true rfl) (show 5 + 1 ≤ 2048 by omega) (show 8 + (1 + 11) + 5 * 40 ≤ 84000 by omega) (show 1 + 471 ≤ 600000 by omega) (show 10 + 7153 ≤ 7302250 by omega) (i_GC_0 G 0 (gb G) (fun _ => none)) (fun rv f' sz' hq => ?_)
  obtain ⟨rfl, rfl, rfl⟩ := hq
  refine jt_fe (blk_all (gb G) (aV 12 12) (fun _ => none)) rfl ?_
  refine jt_astore_n (L' := [(0, .ref b), (1, .ref (gb G))]) d_LA_law_7 (Nat.le_of_ble_eq_true rfl) rfl ?_
  refine jt_new (ci := 8) (fs := [.int (jI 0), .int (jI 0), .int (jI 0), .int (jI 0), .int (jI 0), .int (jI 0), .int (jI 0), .int (jI 0), .int (jI 0), .int (jI 0), .int (jI 0), .int (jI 0), .int (jI 0), .int (jI 0), .int (jI 0), .int (jI 0), .null, .null, .null, .null, .null, .null, .null, .null, .null, .null, .null, .null, .null, .null, .null, .null, .null, .null, .null, .null, .null, .null, .null, .null, .null, .null, .null, .null, .null, .null]) d_LA_law_8 rfl nw_LA_10 pd_GM (show 1 + 471 + 1 ≤ 600000 by omega) (show 10 + 7153 + 46 ≤ 7302250 by omega) ?_
  refine jt_dup d_LA_law_11 rfl ?_
  refine jt_callI (Y := Y_GM_init) (b := gb G + 472) (As := []) (rest := [.ref (gb G + 472)]) (rm := iR 1 30 12602) d_LA_law_12 LA_c12 yk_GM_init yv_GM_init rfl rfl rfl rfl (Nat.le_of_ble_eq_true rfl) (show 1 + 1 ≤ 2048 by omega) (show 8 + (2 + 11) + 1 * 40 ≤ 84000 by omega) (show 1 + 471 + 1 + 30 ≤ 600000 by omega) (show 10 + 7153 + 46 + 12602 ≤ 7302250 by omega) (i_GM G 0 (gb G + 472) _) (fun rv f' sz' hq => ?_)
  obtain ⟨rfl, rfl, rfl⟩ := hq
  refine jt_astore_n (L' := [(0, .ref b), (1, .ref (gb G)), (2, .ref (gb G + 472))]) d_LA_law_15 (Nat.le_of_ble_eq_true rfl) rfl ?_
  refine jt_iconst d_LA_law_16 ?_
  refine jt_istore_n (L' := [(0, .ref b), (1, .ref (gb G)), (2, .ref (gb G + 472)), (3, .int (jI 0))]) d_LA_law_17 (Nat.le_of_ble_eq_true rfl) rfl ?_
  exact la_loop G b L xs hL (fun _ => none) _ _ _ (gb G) (show 1 + 471 + 1 + 30 ≤ 600000 by omega) (show 10 + 7153 + 46 + 12602 ≤ 7302250 by omega) 1540 0 I0 (aV 12 12) GI0 GA0 (by omega) (by omega) (by rw [show (300 : Int) * 0 = 0 by omega]; exact qX_0) (by omega)

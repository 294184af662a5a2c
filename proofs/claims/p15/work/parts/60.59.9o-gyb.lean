set_option maxRecDepth 100000 in
set_option maxHeartbeats 1000000 in
theorem l42_GM_areay (G : jG) (d m : Nat) (f : Int) (I : Nat → Int) (A : Nat → Int → Int) (hI : gSI I) (hA : gSA A) (hf : 0 ≤ f ∧ f ≤ 1) (hl : 0 ≤ I 12) (hz : I 5 = 0) (fs : List (Int → Int)) (hro : I 15 = 0 → I 12 ≤ 12 → I 11 = (fs.length : Int) ∧ gRo A fs) (e9 : Int) (hE : I 15 = 0 → I 12 ≤ 12 → TN fs e9) (L : List Int) (hL : I 15 = 0 → I 12 ≤ 12 → I 12 = (L.length : Int) ∧ gCv A L ∧ fs.length = 2 + nLg L ∧ aLg L) (f0 : jF) (sz : Nat) (e : Int) (e0 : e = I 4 - 1) : ∀ (n9 : Nat) (i : Int) (J : Nat → Int) (B : Nat → Int → Int), gPo [5, 6, 10] [39, 40, 41, 42, 43, 45] I A J B → (B 45 = A 45) → (0 ≤ i) → (i ≤ 76) → (Hd (aLp fs i e9 (I 15) (I 12) e J B)) → (J 5 = 0 → I 12 ≤ 12) → 77 - i < (n9 : Int) → jt (jm G Y_GM_area (gR (d + 3)) (gQ m f0 sz (fun (rv : Option Value) (I2 : Nat → Int) (A2 : Nat → Int → Int) => rv = none ∧ gPo [5, 6, 10] [39, 40, 41, 42, 43, 45] I A I2 A2 ∧ aQ e9 f fs L I A I2 A2))) 42 [(0, .ref m), (1, .int (jI f)), (2, .int (jI e)), (3, .int (jI i))] [] (gmf m f0 J B) sz 0 0 := by
  have r4 : 0 ≤ I 4 ∧ I 4 ≤ 300 := hI 4
  have r5 : -13 ≤ I 5 ∧ I 5 ≤ 0 := hI 5
  have r12 : 0 ≤ I 12 ∧ I 12 ≤ 300 := hI 12
  have r11 : 0 ≤ I 11 ∧ I 11 ≤ 76 := hI 11
  have r15 : 0 ≤ I 15 ∧ I 15 ≤ 1 := hI 15
  intro n9
  induction n9 with
  | zero =>
    intro i J B hJ h45 i0 i1 hlp k5 hmeas
    have j11 : J 11 = I 11 := hJ.2.2.1 11 rfl
    have j12 : J 12 = I 12 := hJ.2.2.1 12 rfl
    have j5 : -13 ≤ J 5 ∧ J 5 ≤ 0 := hJ.1 5
    have hro2 : I 15 = 0 → I 12 ≤ 12 → I 11 = (fs.length : Int) := fun a c => (hro a c).1
    exfalso
    omega
  | succ n9 ih =>
    intro i J B hJ h45 i0 i1 hlp k5 hmeas
    have j11 : J 11 = I 11 := hJ.2.2.1 11 rfl
    have j12 : J 12 = I 12 := hJ.2.2.1 12 rfl
    have j5 : -13 ≤ J 5 ∧ J 5 ≤ 0 := hJ.1 5
    have hro2 : I 15 = 0 → I 12 ≤ 12 → I 11 = (fs.length : Int) := fun a c => (hro a c).1
    refine jt_iload_n d_GM_area_42 rfl ?_
    refine jt_aload_n d_GM_area_43 rfl ?_
    refine gm_gI (k := 11) (v := J 11) d_GM_area_44 GM_f43 (by decide) rfl ?_
    have rb101 : 0 ≤ J 11 ∧ J 11 ≤ 76 := hJ.1 11
    refine jt_icmp_ge (t := 156) d_GM_area_47 rfl (by unfold jRi; omega) (by unfold jRi; omega) (fun c102 => ?_) (fun c102 => ?_)
    · skip
      refine jt_aload_n d_GM_area_156 rfl ?_
      refine gm_gI (k := 5) (v := J 5) d_GM_area_157 GM_f25 (by decide) rfl ?_
      have rb103 : -13 ≤ J 5 ∧ J 5 ≤ 0 := hJ.1 5
      refine jt_if_ne (t := 168) d_GM_area_160 rfl (by unfold jRi; omega) (fun c104 => ?_) (fun c104 => ?_)
      · skip
        exact gm_vret d_GM_area_168 rfl (by
        obtain ⟨h1, h2, h3, h4⟩ := hlp.2 (by omega)
        exact ⟨rfl, hJ, h2, h3, h4, fun _ => by omega, (fun z => by exfalso; omega), fun _ => h45⟩)
      · skip
        obtain ⟨h1, h2, h3, hnm⟩ := hlp.1 (by omega)
        have hro1 := (hro h1 h2).1
        have h4 := TN_end h3 (by omega)
        have hTN0 : TN fs 0 := by have h9 := hE h1 h2; rw [h4] at h9; exact h9
        have hL9 := hL h1 h2
        have hpk := (pke_n L 0).2.2 hL9.2.2.2
        have hl1 := hL9.1
        have hl2 := hL9.2.2.1
        have hl3 := nLg_le L
        have hi12 : ∀ (i : Nat) (x : Int), L[i]? = some x → i < 12 := fun i x h => by have := (List.getElem?_eq_some_iff.mp h).1; omega
        refine jt_aload_n d_GM_area_163 rfl ?_
        refine jt_iload_n d_GM_area_164 rfl ?_
        refine gct_call (Y := Y_GM_paint) (As := [.int (jI f)]) (rest := []) d_GM_area_165 GM_c267 yk_GM_paint yv_GM_paint rfl (Nat.le_of_ble_eq_true rfl) rfl rfl (Nat.le_of_ble_eq_true rfl) (y_GM_paint G _ m f J B hJ.1 hJ.2.1 (by omega) L ⟨by omega, by omega⟩ (fun i x h => by rw [hJ.2.2.2 44 rfl]; exact hL9.2.1 i x h (hi12 i x h)) (pN fs) (TN_pnr hTN0) (fun z z0 z1 => hnm z z0 (by omega)) (by omega)) (fun rvq105 Iq105 Aq105 hq105 => ?_)
        obtain ⟨rfl, hqq105, hxq105⟩ := hq105
        have hpq105 := gPo.trans hJ hqq105 rfl rfl
        have f1q105 : Iq105 1 = I 1 := hpq105.2.2.1 1 rfl
        have m5q105 : Iq105 5 = J 5 := hqq105.2.2.1 5 rfl
        have m6q105 : Iq105 6 = J 6 := hqq105.2.2.1 6 rfl
        have m11q105 : Iq105 11 = J 11 := hqq105.2.2.1 11 rfl
        have m12q105 : Iq105 12 = J 12 := hqq105.2.2.1 12 rfl
        show jt _ 168 [(0, .ref m), (1, .int (jI f)), (2, .int (jI e)), (3, .int (jI i))] [] (gmf m f0 Iq105 Aq105) _ _ _
        exact gm_vret d_GM_area_168 rfl (by
        have p5 : Iq105 5 = J 5 := hqq105.2.2.1 5 rfl
        obtain ⟨h1, h2, h3, _⟩ := hlp.1 (by omega)
        have h4 := TN_end h3 (by have h9 := (hro h1 h2).1; omega)
        exact ⟨rfl, hpq105, fun z => absurd h1 z, fun _ z => by omega, fun _ _ => by omega, (fun z => by exfalso; omega), fun _ => (by have h9 := hxq105; rw [h45] at h9; exact h9), fun z => by exfalso; omega⟩)
    · skip
      refine jt_aload_n d_GM_area_50 rfl ?_
      refine gm_gI (k := 5) (v := J 5) d_GM_area_51 GM_f25 (by decide) rfl ?_
      have rb106 : -13 ≤ J 5 ∧ J 5 ≤ 0 := hJ.1 5
      refine jt_if_ne (t := 156) d_GM_area_54 rfl (by unfold jRi; omega) (fun c107 => ?_) (fun c107 => ?_)
      · skip
        refine jt_aload_n d_GM_area_156 rfl ?_
        refine gm_gI (k := 5) (v := J 5) d_GM_area_157 GM_f25 (by decide) rfl ?_
        refine jt_if_ne (t := 168) d_GM_area_160 rfl (by unfold jRi; omega) (fun c108 => ?_) (fun c108 => ?_)
        · skip
          exact gm_vret d_GM_area_168 rfl (by
        obtain ⟨h1, h2, h3, h4⟩ := hlp.2 (by omega)
        exact ⟨rfl, hJ, h2, h3, h4, fun _ => by omega, (fun z => by exfalso; omega), fun _ => h45⟩)
        · skip
          obtain ⟨h1, h2, h3, hnm⟩ := hlp.1 (by omega)
          have hro1 := (hro h1 h2).1
          have h4 := TN_end h3 (by omega)
          have hTN0 : TN fs 0 := by have h9 := hE h1 h2; rw [h4] at h9; exact h9
          have hL9 := hL h1 h2
          have hpk := (pke_n L 0).2.2 hL9.2.2.2
          have hl1 := hL9.1
          have hl2 := hL9.2.2.1
          have hl3 := nLg_le L
          have hi12 : ∀ (i : Nat) (x : Int), L[i]? = some x → i < 12 := fun i x h => by have := (List.getElem?_eq_some_iff.mp h).1; omega
          refine jt_aload_n d_GM_area_163 rfl ?_
          refine jt_iload_n d_GM_area_164 rfl ?_
          refine gct_call (Y := Y_GM_paint) (As := [.int (jI f)]) (rest := []) d_GM_area_165 GM_c267 yk_GM_paint yv_GM_paint rfl (Nat.le_of_ble_eq_true rfl) rfl rfl (Nat.le_of_ble_eq_true rfl) (y_GM_paint G _ m f J B hJ.1 hJ.2.1 (by omega) L ⟨by omega, by omega⟩ (fun i x h => by rw [hJ.2.2.2 44 rfl]; exact hL9.2.1 i x h (hi12 i x h)) (pN fs) (TN_pnr hTN0) (fun z z0 z1 => hnm z z0 (by omega)) (by omega)) (fun rvq109 Iq109 Aq109 hq109 => ?_)
          obtain ⟨rfl, hqq109, hxq109⟩ := hq109
          have hpq109 := gPo.trans hJ hqq109 rfl rfl
          have f1q109 : Iq109 1 = I 1 := hpq109.2.2.1 1 rfl
          have m5q109 : Iq109 5 = J 5 := hqq109.2.2.1 5 rfl
          have m6q109 : Iq109 6 = J 6 := hqq109.2.2.1 6 rfl
          have m11q109 : Iq109 11 = J 11 := hqq109.2.2.1 11 rfl
          have m12q109 : Iq109 12 = J 12 := hqq109.2.2.1 12 rfl
          show jt _ 168 [(0, .ref m), (1, .int (jI f)), (2, .int (jI e)), (3, .int (jI i))] [] (gmf m f0 Iq109 Aq109) _ _ _
          exact gm_vret d_GM_area_168 rfl (by
        have p5 : Iq109 5 = J 5 := hqq109.2.2.1 5 rfl
        obtain ⟨h1, h2, h3, _⟩ := hlp.1 (by omega)
        have h4 := TN_end h3 (by have h9 := (hro h1 h2).1; omega)
        exact ⟨rfl, hpq109, fun z => absurd h1 z, fun _ z => by omega, fun _ _ => by omega, (fun z => by exfalso; omega), fun _ => (by have h9 := hxq109; rw [h45] at h9; exact h9), fun z => by exfalso; omega⟩)
      · skip
        refine jt_aload_n d_GM_area_57 rfl ?_
        refine gm_gA (k := 35) (a := m + 20) d_GM_area_58 GM_f118 (by decide) (by decide) rfl ?_
        refine jt_iload_n d_GM_area_61 rfl ?_
        refine jt_bipush d_GM_area_62 (by omega) ?_
        refine jt_imul d_GM_area_64 ?_
        refine jt_bipush d_GM_area_65 (by omega) ?_
        refine jt_iadd d_GM_area_67 ?_
        refine gm_ld1 (k := 35) (n := 5200) (v := (B 35) ((i * 13) + 12)) d_GM_area_68 rfl (by decide) (by decide) rfl rfl (by omega) (by omega) (by omega) rfl ?_
        refine jt_topl (fun v110 ev110 => ?_)
        have bv110 : (-9223372036854775808) ≤ v110 ∧ v110 ≤ 9223372036854775807 := by rw [ev110]; exact hJ.2.1 35 ((i * 13) + 12)
        refine jt_lstore (L' := [(0, .ref m), (1, .int (jI f)), (2, .int (jI e)), (3, .int (jI i)), (4, .long (jL v110))]) d_GM_area_69 (Nat.le_of_ble_eq_true rfl) rfl ?_
        obtain ⟨hg0, hl12, htn, hnm⟩ := hlp.1 (by omega)
        have hr9 := hro hg0 hl12
        obtain ⟨FF, hf1, hFF⟩ := gRo_at hr9.2 (show 0 ≤ i by omega) (by omega)
        obtain ⟨e1, ht1, ht2⟩ := TN_at htn (by omega) (by omega) hf1
        replace ht2 : Hd _ := ht2
        replace ht1 : Hd (t1 FF e1) := ht1
        have e12 : v110 = FF 12 := by rw [ev110, hJ.2.2.2 35 rfl]; exact hFF 12 (by omega) (by omega)
        refine jt_aload_n d_GM_area_71 rfl ?_
        refine jt_iload_n d_GM_area_72 rfl ?_
        refine gct_call (Y := Y_GM_isNumber) (As := [.int (jI i)]) (rest := []) d_GM_area_73 GM_c260 yk_GM_isNumber yv_GM_isNumber rfl (Nat.le_of_ble_eq_true rfl) rfl rfl (Nat.le_of_ble_eq_true rfl) (c_GM_isNumber G _ m i J B (by omega) (by omega) (fun j _ _ => hJ.2.1 35 _)) (fun rvq111 Iq111 Aq111 hq111 => ?_)
        obtain ⟨haq111, hbq111, hIq111, hAq111⟩ := hq111
        rw [hIq111, hAq111]
        by_cases gq111 : Hd (∀ j, 0 ≤ j → j < 12 → B 35 (i * 13 + j) = 0)
        · skip
          obtain rfl := haq111 gq111
          clear haq111 hbq111 hIq111 hAq111
          show jt _ 76 [(0, .ref m), (1, .int (jI f)), (2, .int (jI e)), (3, .int (jI i)), (4, .long (jL v110))] [.int (jI 1)] (gmf m f0 J B) _ _ _
          refine jt_if_ne (t := 89) d_GM_area_76 rfl (by unfold jRi; omega) (fun c112 => ?_) (fun c112 => ?_)
          · skip
            refine jt_lload d_GM_area_89 rfl ?_
            refine jt_ldc2 (z := 4096) d_GM_area_91 GM_k211 ?_
            refine jt_lrem d_GM_area_94 (by unfold jRl; omega) (by unfold jRl; omega) (by omega) ?_
            have td113 := gtd v110 4096 (by omega)
            refine jt_topln (fun v114 bv114 ev114 => ?_)
            refine jt_lconst (z := 0) d_GM_area_95 (by decide) ?_
            refine jt_lif_eq (t := 110) d_GM_area_96 d_GM_area_97 rfl (by unfold jRl; omega) (by unfold jRl; omega) (fun c115 => ?_) (fun c115 => ?_)
            · skip
              refine jt_lload d_GM_area_110 rfl ?_
              refine jt_ldc2 (z := -2097152) d_GM_area_112 GM_k263 ?_
              refine jt_lif_lt (t := 128) d_GM_area_115 d_GM_area_116 rfl (by unfold jRl; omega) (by unfold jRl; omega) (fun c116 => ?_) (fun c116 => ?_)
              · skip
                refine jt_aload_n d_GM_area_128 rfl ?_
                refine jt_bipush d_GM_area_129 (by omega) ?_
                refine jt_iload_n d_GM_area_131 rfl ?_
                refine gct_call (Y := Y_GM_stop) (As := [.int (jI (-9)), .int (jI e)]) (rest := []) d_GM_area_132 GM_c164 yk_GM_stop yv_GM_stop rfl (Nat.le_of_ble_eq_true rfl) rfl rfl (Nat.le_of_ble_eq_true rfl) (c_GM_stop G _ m (-9) e J B) (fun rvq117 Iq117 Aq117 hq117 => ?_)
                obtain ⟨rfl, hIq117, hAq117⟩ := hq117
                rw [hIq117, hAq117]
                have p118 := gPo.I 5 (-9) hJ rfl (show -13 ≤ -9 ∧ -9 ≤ 0 by omega)
                have p119 := gPo.I 6 e p118 rfl (show -2147483648 ≤ e ∧ e ≤ 2147483647 by omega)
                show jt _ 135 [(0, .ref m), (1, .int (jI f)), (2, .int (jI e)), (3, .int (jI i)), (4, .long (jL v110))] [] (gmf m f0 (va_up (va_up J 5 (-9)) 6 e) B) _ _ _
                refine jt_goto (t := 150) d_GM_area_135 rfl ?_
                refine jt_iinc (L' := [(0, .ref m), (1, .int (jI f)), (2, .int (jI e)), (3, .int (jI (i + 1))), (4, .long (jL v110))]) d_GM_area_150 rfl (Nat.le_of_ble_eq_true rfl) rfl ?_
                refine jt_goto (t := 42) d_GM_area_153 rfl ?_
                refine jt_sub (L' := [(0, .ref m), (1, .int (jI f)), (2, .int (jI e)), (3, .int (jI (i + 1)))]) (fun _ h => List.mem_append_left [(4, Value.long (jL v110))] h) ?_
                exact ih (i + 1) (va_up (va_up J 5 (-9)) 6 e) B p119 h45 (by omega) (by omega) ⟨fun z => absurd z (by show ¬ (-9 : Int) = 0; omega), fun _ => by have z1 := (ht1.2.2.1 (show fZ FF from fun j a c => by rw [← hFF j a (by omega)]; have h9 := gq111 j a c; rw [hJ.2.2.2 35 rfl] at h9; exact h9) (by omega) (by omega)); rcases ht2 with ⟨n1, n2⟩ | ⟨n1, n2⟩; exact ⟨rfl, fun y => absurd hg0 y, fun _ y => by omega, fun _ _ => by show (-9 : Int) = e9; omega⟩; exact absurd n1 (by omega)⟩ (fun z => by first | exact hl12 | (exfalso; revert z; show ¬ (-9 : Int) = 0; omega)) (by omega)
              · skip
                refine jt_lload d_GM_area_119 rfl ?_
                refine jt_ldc2 (z := 6291456) d_GM_area_121 GM_k265 ?_
                refine jt_lif_le (t := 138) d_GM_area_124 d_GM_area_125 rfl (by unfold jRl; omega) (by unfold jRl; omega) (fun c120 => ?_) (fun c120 => ?_)
                · skip
                  refine jt_aload_n d_GM_area_138 rfl ?_
                  refine gm_gA (k := 39) (a := m + 24) d_GM_area_139 GM_f130 (by decide) (by decide) rfl ?_
                  refine jt_iload_n d_GM_area_142 rfl ?_
                  refine jt_lload d_GM_area_143 rfl ?_
                  refine jt_ldc2 (z := 4096) d_GM_area_145 GM_k211 ?_
                  refine jt_ldiv d_GM_area_148 (by unfold jRl; omega) (by unfold jRl; omega) (by omega) ?_
                  have td121 := gtd v110 4096 (by omega)
                  refine jt_topln (fun v122 bv122 ev122 => ?_)
                  refine gm_st1 (k := 39) (n := 80) (B := va_up B 39 (ju (B 39) i v122)) d_GM_area_149 rfl (by decide) (by decide) rfl rfl (by omega) (by omega) (by omega) rfl ?_
                  have p123 := gPo.A 39 (ju (B 39) i v122) hJ rfl (gju (hJ.2.1 39) (show -9223372036854775808 ≤ v122 ∧ v122 ≤ 9223372036854775807 by omega))
                  refine jt_iinc (L' := [(0, .ref m), (1, .int (jI f)), (2, .int (jI e)), (3, .int (jI (i + 1))), (4, .long (jL v110))]) d_GM_area_150 rfl (Nat.le_of_ble_eq_true rfl) rfl ?_
                  refine jt_goto (t := 42) d_GM_area_153 rfl ?_
                  refine jt_sub (L' := [(0, .ref m), (1, .int (jI f)), (2, .int (jI e)), (3, .int (jI (i + 1)))]) (fun _ h => List.mem_append_left [(4, Value.long (jL v110))] h) ?_
                  exact ih (i + 1) J (va_up B 39 (ju (B 39) i v122)) p123 h45 (by omega) (by omega) ⟨fun _ => by have z1 := ht1.2.2.2 (show fZ FF from fun j a c => by rw [← hFF j a (by omega)]; have h9 := gq111 j a c; rw [hJ.2.2.2 35 rfl] at h9; exact h9) (by omega) (by omega) (by omega); rcases ht2 with ⟨n1, n2⟩ | ⟨n1, n2⟩; exact absurd z1 n1; exact ⟨hg0, hl12, n2, fun z z0 z1 => by show ju (B 39) i v122 z = _; rcases Classical.em (z = i) with e | e; exact (by rw [e, ju_self, pN_e (show fs[i.toNat]? = some FF from hf1)]; omega); exact (by rw [ju_ne _ _ e]; exact hnm z z0 (by omega))⟩, fun z => absurd (show J 5 = 0 by omega) z⟩ (fun z => by first | exact hl12 | (exfalso; revert z; show ¬ (J 5 : Int) = 0; omega)) (by omega)
                · skip
                  refine jt_aload_n d_GM_area_128 rfl ?_
                  refine jt_bipush d_GM_area_129 (by omega) ?_
                  refine jt_iload_n d_GM_area_131 rfl ?_
                  refine gct_call (Y := Y_GM_stop) (As := [.int (jI (-9)), .int (jI e)]) (rest := []) d_GM_area_132 GM_c164 yk_GM_stop yv_GM_stop rfl (Nat.le_of_ble_eq_true rfl) rfl rfl (Nat.le_of_ble_eq_true rfl) (c_GM_stop G _ m (-9) e J B) (fun rvq124 Iq124 Aq124 hq124 => ?_)
                  obtain ⟨rfl, hIq124, hAq124⟩ := hq124
                  rw [hIq124, hAq124]
                  have p125 := gPo.I 5 (-9) hJ rfl (show -13 ≤ -9 ∧ -9 ≤ 0 by omega)
                  have p126 := gPo.I 6 e p125 rfl (show -2147483648 ≤ e ∧ e ≤ 2147483647 by omega)
                  show jt _ 135 [(0, .ref m), (1, .int (jI f)), (2, .int (jI e)), (3, .int (jI i)), (4, .long (jL v110))] [] (gmf m f0 (va_up (va_up J 5 (-9)) 6 e) B) _ _ _
                  refine jt_goto (t := 150) d_GM_area_135 rfl ?_
                  refine jt_iinc (L' := [(0, .ref m), (1, .int (jI f)), (2, .int (jI e)), (3, .int (jI (i + 1))), (4, .long (jL v110))]) d_GM_area_150 rfl (Nat.le_of_ble_eq_true rfl) rfl ?_
                  refine jt_goto (t := 42) d_GM_area_153 rfl ?_
                  refine jt_sub (L' := [(0, .ref m), (1, .int (jI f)), (2, .int (jI e)), (3, .int (jI (i + 1)))]) (fun _ h => List.mem_append_left [(4, Value.long (jL v110))] h) ?_
                  exact ih (i + 1) (va_up (va_up J 5 (-9)) 6 e) B p126 h45 (by omega) (by omega) ⟨fun z => absurd z (by show ¬ (-9 : Int) = 0; omega), fun _ => by have z1 := (ht1.2.2.1 (show fZ FF from fun j a c => by rw [← hFF j a (by omega)]; have h9 := gq111 j a c; rw [hJ.2.2.2 35 rfl] at h9; exact h9) (by omega) (by omega)); rcases ht2 with ⟨n1, n2⟩ | ⟨n1, n2⟩; exact ⟨rfl, fun y => absurd hg0 y, fun _ y => by omega, fun _ _ => by show (-9 : Int) = e9; omega⟩; exact absurd n1 (by omega)⟩ (fun z => by first | exact hl12 | (exfalso; revert z; show ¬ (-9 : Int) = 0; omega)) (by omega)
            · skip
              refine jt_aload_n d_GM_area_100 rfl ?_
              refine jt_bipush d_GM_area_101 (by omega) ?_
              refine jt_iload_n d_GM_area_103 rfl ?_
              refine gct_call (Y := Y_GM_stop) (As := [.int (jI (-13)), .int (jI e)]) (rest := []) d_GM_area_104 GM_c164 yk_GM_stop yv_GM_stop rfl (Nat.le_of_ble_eq_true rfl) rfl rfl (Nat.le_of_ble_eq_true rfl) (c_GM_stop G _ m (-13) e J B) (fun rvq127 Iq127 Aq127 hq127 => ?_)
              obtain ⟨rfl, hIq127, hAq127⟩ := hq127
              rw [hIq127, hAq127]
              have p128 := gPo.I 5 (-13) hJ rfl (show -13 ≤ -13 ∧ -13 ≤ 0 by omega)
              have p129 := gPo.I 6 e p128 rfl (show -2147483648 ≤ e ∧ e ≤ 2147483647 by omega)
              show jt _ 107 [(0, .ref m), (1, .int (jI f)), (2, .int (jI e)), (3, .int (jI i)), (4, .long (jL v110))] [] (gmf m f0 (va_up (va_up J 5 (-13)) 6 e) B) _ _ _
              refine jt_goto (t := 150) d_GM_area_107 rfl ?_
              refine jt_iinc (L' := [(0, .ref m), (1, .int (jI f)), (2, .int (jI e)), (3, .int (jI (i + 1))), (4, .long (jL v110))]) d_GM_area_150 rfl (Nat.le_of_ble_eq_true rfl) rfl ?_
              refine jt_goto (t := 42) d_GM_area_153 rfl ?_
              refine jt_sub (L' := [(0, .ref m), (1, .int (jI f)), (2, .int (jI e)), (3, .int (jI (i + 1)))]) (fun _ h => List.mem_append_left [(4, Value.long (jL v110))] h) ?_
              exact ih (i + 1) (va_up (va_up J 5 (-13)) 6 e) B p129 h45 (by omega) (by omega) ⟨fun z => absurd z (by show ¬ (-13 : Int) = 0; omega), fun _ => by have z1 := (ht1.2.1 (show fZ FF from fun j a c => by rw [← hFF j a (by omega)]; have h9 := gq111 j a c; rw [hJ.2.2.2 35 rfl] at h9; exact h9) (by omega)); rcases ht2 with ⟨n1, n2⟩ | ⟨n1, n2⟩; exact ⟨rfl, fun y => absurd hg0 y, fun _ y => by omega, fun _ _ => by show (-13 : Int) = e9; omega⟩; exact absurd n1 (by omega)⟩ (fun z => by first | exact hl12 | (exfalso; revert z; show ¬ (-13 : Int) = 0; omega)) (by omega)
          · skip
            exfalso
            omega
        · skip
          obtain rfl := hbq111 gq111
          clear haq111 hbq111 hIq111 hAq111
          show jt _ 76 [(0, .ref m), (1, .int (jI f)), (2, .int (jI e)), (3, .int (jI i)), (4, .long (jL v110))] [.int (jI 0)] (gmf m f0 J B) _ _ _
          refine jt_if_ne (t := 89) d_GM_area_76 rfl (by unfold jRi; omega) (fun c130 => ?_) (fun c130 => ?_)
          · skip
            exfalso
            omega
          · skip
            refine jt_aload_n d_GM_area_79 rfl ?_
            refine jt_bipush d_GM_area_80 (by omega) ?_
            refine jt_iload_n d_GM_area_82 rfl ?_
            refine gct_call (Y := Y_GM_stop) (As := [.int (jI (-12)), .int (jI e)]) (rest := []) d_GM_area_83 GM_c164 yk_GM_stop yv_GM_stop rfl (Nat.le_of_ble_eq_true rfl) rfl rfl (Nat.le_of_ble_eq_true rfl) (c_GM_stop G _ m (-12) e J B) (fun rvq131 Iq131 Aq131 hq131 => ?_)
            obtain ⟨rfl, hIq131, hAq131⟩ := hq131
            rw [hIq131, hAq131]
            have p132 := gPo.I 5 (-12) hJ rfl (show -13 ≤ -12 ∧ -12 ≤ 0 by omega)
            have p133 := gPo.I 6 e p132 rfl (show -2147483648 ≤ e ∧ e ≤ 2147483647 by omega)
            show jt _ 86 [(0, .ref m), (1, .int (jI f)), (2, .int (jI e)), (3, .int (jI i)), (4, .long (jL v110))] [] (gmf m f0 (va_up (va_up J 5 (-12)) 6 e) B) _ _ _
            refine jt_goto (t := 150) d_GM_area_86 rfl ?_
            refine jt_iinc (L' := [(0, .ref m), (1, .int (jI f)), (2, .int (jI e)), (3, .int (jI (i + 1))), (4, .long (jL v110))]) d_GM_area_150 rfl (Nat.le_of_ble_eq_true rfl) rfl ?_
            refine jt_goto (t := 42) d_GM_area_153 rfl ?_
            refine jt_sub (L' := [(0, .ref m), (1, .int (jI f)), (2, .int (jI e)), (3, .int (jI (i + 1)))]) (fun _ h => List.mem_append_left [(4, Value.long (jL v110))] h) ?_
            exact ih (i + 1) (va_up (va_up J 5 (-12)) 6 e) B p133 h45 (by omega) (by omega) ⟨fun z => absurd z (by show ¬ (-12 : Int) = 0; omega), fun _ => by have z1 := (ht1.1 (show ¬ fZ FF from fun z => gq111 (show Hd (∀ j, 0 ≤ j → j < 12 → B 35 (i * 13 + j) = 0) from fun j a c => by rw [hJ.2.2.2 35 rfl, hFF j a (by omega)]; exact z j a c))); rcases ht2 with ⟨n1, n2⟩ | ⟨n1, n2⟩; exact ⟨rfl, fun y => absurd hg0 y, fun _ y => by omega, fun _ _ => by show (-12 : Int) = e9; omega⟩; exact absurd n1 (by omega)⟩ (fun z => by first | exact hl12 | (exfalso; revert z; show ¬ (-12 : Int) = 0; omega)) (by omega)
set_option maxRecDepth 100000 in
set_option maxHeartbeats 1000000 in
theorem y_GM_area (G : jG) (d m : Nat) (f : Int) (I : Nat → Int) (A : Nat → Int → Int) (hI : gSI I) (hA : gSA A) (hf : 0 ≤ f ∧ f ≤ 1) (hl : 0 ≤ I 12) (hz : I 5 = 0) (fs : List (Int → Int)) (hro : I 15 = 0 → I 12 ≤ 12 → I 11 = (fs.length : Int) ∧ gRo A fs) (e9 : Int) (hE : I 15 = 0 → I 12 ≤ 12 → TN fs e9) (L : List Int) (hL : I 15 = 0 → I 12 ≤ 12 → I 12 = (L.length : Int) ∧ gCv A L ∧ fs.length = 2 + nLg L ∧ aLg L) : gct G Y_GM_area (d + 3) m [.int (jI f)] I A (fun (rv : Option Value) (I2 : Nat → Int) (A2 : Nat → Int → Int) => rv = none ∧ gPo [5, 6, 10] [39, 40, 41, 42, 43, 45] I A I2 A2 ∧ aQ e9 f fs L I A I2 A2) := by
  refine gct_of (by decide) (Nat.le_of_ble_eq_true rfl) (fun f0 sz => ?_)
  show jt _ 0 [(0, .ref m), (1, .int (jI f))] [] _ _ _ _
  have r4 : 0 ≤ I 4 ∧ I 4 ≤ 300 := hI 4
  have r5 : -13 ≤ I 5 ∧ I 5 ≤ 0 := hI 5
  have r12 : 0 ≤ I 12 ∧ I 12 ≤ 300 := hI 12
  have r11 : 0 ≤ I 11 ∧ I 11 ≤ 76 := hI 11
  have r15 : 0 ≤ I 15 ∧ I 15 ≤ 1 := hI 15
  have hz0 : gPo [5, 6, 10] [39, 40, 41, 42, 43, 45] I A I A := gPo.refl hI hA
  refine jt_aload_n d_GM_area_0 rfl ?_
  refine gm_gI (k := 4) (v := I 4) d_GM_area_1 GM_f22 (by decide) rfl ?_
  have rb1 : 0 ≤ I 4 ∧ I 4 ≤ 300 := hz0.1 4
  refine jt_iconst d_GM_area_4 ?_
  refine jt_isub d_GM_area_5 ?_
  refine jt_topi (fun v2 ev2 => ?_)
  refine jt_istore_n (L' := [(0, .ref m), (1, .int (jI f)), (2, .int (jI v2))]) d_GM_area_6 (Nat.le_of_ble_eq_true rfl) rfl ?_
  refine jt_aload_n d_GM_area_7 rfl ?_
  refine gm_gI (k := 15) (v := I 15) d_GM_area_8 GM_f55 (by decide) rfl ?_
  have rb3 : 0 ≤ I 15 ∧ I 15 ≤ 1 := hz0.1 15
  refine jt_if_eq (t := 24) d_GM_area_11 rfl (by unfold jRi; omega) (fun c4 => ?_) (fun c4 => ?_)
  · skip
    refine jt_aload_n d_GM_area_24 rfl ?_
    refine gm_gI (k := 12) (v := I 12) d_GM_area_25 GM_f46 (by decide) rfl ?_
    have rb5 : 0 ≤ I 12 ∧ I 12 ≤ 300 := hz0.1 12
    refine jt_bipush d_GM_area_28 (by omega) ?_
    refine jt_icmp_le (t := 40) d_GM_area_30 rfl (by unfold jRi; omega) (by unfold jRi; omega) (fun c6 => ?_) (fun c6 => ?_)
    · skip
      refine jt_iconst d_GM_area_40 ?_
      refine jt_istore_n (L' := [(0, .ref m), (1, .int (jI f)), (2, .int (jI v2)), (3, .int (jI 0))]) d_GM_area_41 (Nat.le_of_ble_eq_true rfl) rfl ?_
      exact l42_GM_areay G d m f I A hI hA hf hl hz fs hro e9 hE L hL f0 sz v2 ((by omega)) 78 0 I A hz0 rfl (by omega) (by omega) ⟨fun _ => ⟨by omega, by omega, hE (by omega) (by omega), fun z z0 z1 => by exfalso; omega⟩, fun z => absurd (show I 5 = 0 by omega) z⟩ (show I 5 = 0 → I 12 ≤ 12 by omega) (by omega)
    · skip
      refine jt_aload_n d_GM_area_33 rfl ?_
      refine jt_bipush d_GM_area_34 (by omega) ?_
      refine jt_iload_n d_GM_area_36 rfl ?_
      refine gct_call (Y := Y_GM_stop) (As := [.int (jI (-7)), .int (jI v2)]) (rest := []) d_GM_area_37 GM_c164 yk_GM_stop yv_GM_stop rfl (Nat.le_of_ble_eq_true rfl) rfl rfl (Nat.le_of_ble_eq_true rfl) (c_GM_stop G _ m (-7) v2 I A) (fun rvq7 Iq7 Aq7 hq7 => ?_)
      obtain ⟨rfl, hIq7, hAq7⟩ := hq7
      rw [hIq7, hAq7]
      have p8 := gPo.I 5 (-7) hz0 rfl (show -13 ≤ -7 ∧ -7 ≤ 0 by omega)
      have p9 := gPo.I 6 v2 p8 rfl (show -2147483648 ≤ v2 ∧ v2 ≤ 2147483647 by omega)
      show jt _ 40 [(0, .ref m), (1, .int (jI f)), (2, .int (jI v2))] [] (gmf m f0 (va_up (va_up I 5 (-7)) 6 v2) A) _ _ _
      refine jt_iconst d_GM_area_40 ?_
      refine jt_istore_n (L' := [(0, .ref m), (1, .int (jI f)), (2, .int (jI v2)), (3, .int (jI 0))]) d_GM_area_41 (Nat.le_of_ble_eq_true rfl) rfl ?_
      exact l42_GM_areay G d m f I A hI hA hf hl hz fs hro e9 hE L hL f0 sz v2 ((by omega)) 78 0 (va_up (va_up I 5 (-7)) 6 v2) A p9 rfl (by omega) (by omega) ⟨fun z => absurd z (by show ¬ (-7 : Int) = 0; omega), fun _ => ⟨rfl, fun z => by omega, fun _ _ => rfl, fun _ z => by omega⟩⟩ (show -7 = 0 → I 12 ≤ 12 by omega) (by omega)
  · skip
    refine jt_aload_n d_GM_area_14 rfl ?_
    refine jt_bipush d_GM_area_15 (by omega) ?_
    refine jt_iload_n d_GM_area_17 rfl ?_
    refine gct_call (Y := Y_GM_stop) (As := [.int (jI (-9)), .int (jI v2)]) (rest := []) d_GM_area_18 GM_c164 yk_GM_stop yv_GM_stop rfl (Nat.le_of_ble_eq_true rfl) rfl rfl (Nat.le_of_ble_eq_true rfl) (c_GM_stop G _ m (-9) v2 I A) (fun rvq10 Iq10 Aq10 hq10 => ?_)
    obtain ⟨rfl, hIq10, hAq10⟩ := hq10
    rw [hIq10, hAq10]
    have p11 := gPo.I 5 (-9) hz0 rfl (show -13 ≤ -9 ∧ -9 ≤ 0 by omega)
    have p12 := gPo.I 6 v2 p11 rfl (show -2147483648 ≤ v2 ∧ v2 ≤ 2147483647 by omega)
    show jt _ 21 [(0, .ref m), (1, .int (jI f)), (2, .int (jI v2))] [] (gmf m f0 (va_up (va_up I 5 (-9)) 6 v2) A) _ _ _
    refine jt_goto (t := 40) d_GM_area_21 rfl ?_
    refine jt_iconst d_GM_area_40 ?_
    refine jt_istore_n (L' := [(0, .ref m), (1, .int (jI f)), (2, .int (jI v2)), (3, .int (jI 0))]) d_GM_area_41 (Nat.le_of_ble_eq_true rfl) rfl ?_
    exact l42_GM_areay G d m f I A hI hA hf hl hz fs hro e9 hE L hL f0 sz v2 ((by omega)) 78 0 (va_up (va_up I 5 (-9)) 6 v2) A p12 rfl (by omega) (by omega) ⟨fun z => absurd z (by show ¬ (-9 : Int) = 0; omega), fun _ => ⟨rfl, fun _ => rfl, fun z => by omega, fun z => by omega⟩⟩ (show -9 = 0 → I 12 ≤ 12 by omega) (by omega)

set_option maxRecDepth 100000 in
set_option maxHeartbeats 1000000 in
theorem l59_GM_county (G : jG) (d m : Nat) (q : Int) (I : Nat → Int) (A : Nat → Int → Int) (hI : gSI I) (hA : gSA A) (hq : -2147483648 ≤ q ∧ q ≤ 2147483647) (f0 : jF) (sz : Nat)  : ∀ (n9 : Nat) (n : Int) (a : Int) (b : Int) (c : Int) (e : Int) (k : Int) (J : Nat → Int) (B : Nat → Int → Int), gPo [] [] I A J B → (q ≤ 8 ∨ 15 ≤ q) → (0 ≤ k ∧ k ≤ 768) → (0 ≤ n ∧ n ≤ k) → (-40 ≤ a ∧ a ≤ 31) → (-40 ≤ b ∧ b ≤ 31) → (-40 ≤ c ∧ c ≤ 768) → (-40 ≤ e ∧ e ≤ 768) → (n = cnN (A 45) k.toNat) → (a = edN 1 0 (A 45) k.toNat) → (b = edN 1 1 (A 45) k.toNat) → (c = edN 0 0 (A 45) k.toNat) → (e = edN 0 1 (A 45) k.toNat) → 768 - k < (n9 : Int) → jt (jm G Y_GM_count (gR d) (gQ m f0 sz (fun (rv : Option Value) (I2 : Nat → Int) (A2 : Nat → Int → Int) => ∃ y : Int, rv = some (.int (jI y)) ∧ (-2147483648 ≤ y ∧ y ≤ 2147483647) ∧ gPo [] [] I A I2 A2 ∧ y = ctA q (I 0) (A 45) (I 7) (I 8) (I 2) (fun z => if A 20 z < 0 then -2 else A 20 z)))) 59 [(0, .ref m), (1, .int (jI q)), (2, .int (jI n)), (3, .int (jI a)), (4, .int (jI b)), (5, .int (jI c)), (6, .int (jI e)), (7, .int (jI k))] [] (gmf m f0 J B) sz 0 0 := by
  intro n9
  induction n9 with
  | zero =>
    intro n a b c e k J B hJ q9 k0 n0 a0 b0 c0 e0 hn ha hb hc he hmeas
    have tn := fun (q0 : 0 ≤ k) => Int.tmod_nonneg 32 q0
    replace tn := tn k0.1
    exfalso
    omega
  | succ n9 ih =>
    intro n a b c e k J B hJ q9 k0 n0 a0 b0 c0 e0 hn ha hb hc he hmeas
    have tn := fun (q0 : 0 ≤ k) => Int.tmod_nonneg 32 q0
    replace tn := tn k0.1
    refine jt_iload d_GM_count_59 rfl ?_
    refine jt_sipush d_GM_count_61 (by omega) ?_
    refine jt_icmp_ge (t := 144) d_GM_count_64 rfl (by unfold jRi; omega) (by unfold jRi; omega) (fun c101 => ?_) (fun c101 => ?_)
    · skip
      refine jt_iload_n d_GM_count_144 rfl ?_
      by_cases hsw : q < 0 ∨ 8 < q
      · skip
        refine jt_tableOut (t := 229) d_GM_count_145 (by unfold jRi; omega) hsw rfl ?_
        refine jt_iconst d_GM_count_229 ?_
        exact gm_ret d_GM_count_230 rfl rfl (⟨-1, rfl, by omega, hJ, by unfold ctA; rw [if_neg (by omega), if_neg (by omega), if_neg (by omega), if_neg (by omega), if_neg (by omega), if_neg (by omega), if_neg (by omega), if_neg (by omega), if_neg (by omega), if_neg (by omega)]⟩)
      by_cases hs0 : q = 0
      · skip
        refine jt_tableIn (t := 196) d_GM_count_145 (by unfold jRi; omega) (by omega) (by omega) (by rw [hs0]; rfl) rfl ?_
        refine jt_aload_n d_GM_count_196 rfl ?_
        refine gm_gI (k := 0) (v := J 0) d_GM_count_197 GM_f7 (by decide) rfl ?_
        have rb102 : 0 ≤ J 0 ∧ J 0 ≤ 120 := hJ.1 0
        exact gm_ret d_GM_count_200 rfl rfl (⟨J 0, rfl, by omega, hJ, by unfold ctA; rw [if_pos (by omega)]; exact hJ.2.2.1 0 rfl⟩)
      by_cases hs1 : q = 1
      · skip
        refine jt_tableIn (t := 201) d_GM_count_145 (by unfold jRi; omega) (by omega) (by omega) (by rw [hs1]; rfl) rfl ?_
        refine jt_iload_n d_GM_count_201 rfl ?_
        exact gm_ret d_GM_count_202 rfl rfl (⟨n, rfl, by omega, hJ, by unfold ctA; rw [if_neg (by omega), if_pos (by omega)]; rw [hn, show k.toNat = 768 by omega]⟩)
      by_cases hs2 : q = 2
      · skip
        refine jt_tableIn (t := 203) d_GM_count_145 (by unfold jRi; omega) (by omega) (by omega) (by rw [hs2]; rfl) rfl ?_
        refine jt_iload_n d_GM_count_203 rfl ?_
        exact gm_ret d_GM_count_204 rfl rfl (⟨a, rfl, by omega, hJ, by unfold ctA; rw [if_neg (by omega), if_neg (by omega), if_pos (by omega)]; rw [ha, show k.toNat = 768 by omega]⟩)
      by_cases hs3 : q = 3
      · skip
        refine jt_tableIn (t := 205) d_GM_count_145 (by unfold jRi; omega) (by omega) (by omega) (by rw [hs3]; rfl) rfl ?_
        refine jt_iload d_GM_count_205 rfl ?_
        exact gm_ret d_GM_count_207 rfl rfl (⟨b, rfl, by omega, hJ, by unfold ctA; rw [if_neg (by omega), if_neg (by omega), if_neg (by omega), if_pos (by omega)]; rw [hb, show k.toNat = 768 by omega]⟩)
      by_cases hs4 : q = 4
      · skip
        refine jt_tableIn (t := 208) d_GM_count_145 (by unfold jRi; omega) (by omega) (by omega) (by rw [hs4]; rfl) rfl ?_
        refine jt_iload d_GM_count_208 rfl ?_
        exact gm_ret d_GM_count_210 rfl rfl (⟨c, rfl, by omega, hJ, by unfold ctA; rw [if_neg (by omega), if_neg (by omega), if_neg (by omega), if_neg (by omega), if_pos (by omega)]; rw [hc, show k.toNat = 768 by omega]⟩)
      by_cases hs5 : q = 5
      · skip
        refine jt_tableIn (t := 211) d_GM_count_145 (by unfold jRi; omega) (by omega) (by omega) (by rw [hs5]; rfl) rfl ?_
        refine jt_iload d_GM_count_211 rfl ?_
        exact gm_ret d_GM_count_213 rfl rfl (⟨e, rfl, by omega, hJ, by unfold ctA; rw [if_neg (by omega), if_neg (by omega), if_neg (by omega), if_neg (by omega), if_neg (by omega), if_pos (by omega)]; rw [he, show k.toNat = 768 by omega]⟩)
      by_cases hs6 : q = 6
      · skip
        refine jt_tableIn (t := 214) d_GM_count_145 (by unfold jRi; omega) (by omega) (by omega) (by rw [hs6]; rfl) rfl ?_
        refine jt_aload_n d_GM_count_214 rfl ?_
        refine gm_gI (k := 7) (v := J 7) d_GM_count_215 GM_f31 (by decide) rfl ?_
        have rb103 : -2147483648 ≤ J 7 ∧ J 7 ≤ 2147483647 := hJ.1 7
        exact gm_ret d_GM_count_218 rfl rfl (⟨J 7, rfl, by omega, hJ, by unfold ctA; rw [if_neg (by omega), if_neg (by omega), if_neg (by omega), if_neg (by omega), if_neg (by omega), if_neg (by omega), if_pos (by omega)]; exact hJ.2.2.1 7 rfl⟩)
      by_cases hs7 : q = 7
      · skip
        refine jt_tableIn (t := 219) d_GM_count_145 (by unfold jRi; omega) (by omega) (by omega) (by rw [hs7]; rfl) rfl ?_
        refine jt_aload_n d_GM_count_219 rfl ?_
        refine gm_gI (k := 8) (v := J 8) d_GM_count_220 GM_f34 (by decide) rfl ?_
        have rb104 : -2147483648 ≤ J 8 ∧ J 8 ≤ 2147483647 := hJ.1 8
        exact gm_ret d_GM_count_223 rfl rfl (⟨J 8, rfl, by omega, hJ, by unfold ctA; rw [if_neg (by omega), if_neg (by omega), if_neg (by omega), if_neg (by omega), if_neg (by omega), if_neg (by omega), if_neg (by omega), if_pos (by omega)]; exact hJ.2.2.1 8 rfl⟩)
      by_cases hs8 : q = 8
      · skip
        refine jt_tableIn (t := 224) d_GM_count_145 (by unfold jRi; omega) (by omega) (by omega) (by rw [hs8]; rfl) rfl ?_
        refine jt_aload_n d_GM_count_224 rfl ?_
        refine gm_gI (k := 2) (v := J 2) d_GM_count_225 GM_f16 (by decide) rfl ?_
        have rb105 : -2147483648 ≤ J 2 ∧ J 2 ≤ 2147483647 := hJ.1 2
        exact gm_ret d_GM_count_228 rfl rfl (⟨J 2, rfl, by omega, hJ, by unfold ctA; rw [if_neg (by omega), if_neg (by omega), if_neg (by omega), if_neg (by omega), if_neg (by omega), if_neg (by omega), if_neg (by omega), if_neg (by omega), if_pos (by omega)]; exact hJ.2.2.1 2 rfl⟩)
      exfalso
      omega
    · skip
      refine jt_aload_n d_GM_count_67 rfl ?_
      refine gm_gA (k := 45) (a := m + 30) d_GM_count_68 GM_f148 (by decide) (by decide) rfl ?_
      refine jt_iload d_GM_count_71 rfl ?_
      refine gm_ld2 (k := 45) (n := 768) (v := (B 45) k) d_GM_count_73 rfl (by decide) (by decide) rfl rfl (by omega) (by omega) (by omega) rfl ?_
      refine jt_topi (fun v106 ev106 => ?_)
      have bv106 : 0 ≤ v106 ∧ v106 ≤ 1 := by rw [ev106]; exact hJ.2.1 45 k
      rw [hJ.2.2.2 45 rfl] at ev106
      refine jt_if_ne (t := 80) d_GM_count_74 rfl (by unfold jRi; omega) (fun c107 => ?_) (fun c107 => ?_)
      · skip
        refine jt_iinc (L' := [(0, .ref m), (1, .int (jI q)), (2, .int (jI (n + 1))), (3, .int (jI a)), (4, .int (jI b)), (5, .int (jI c)), (6, .int (jI e)), (7, .int (jI k))]) d_GM_count_80 rfl (Nat.le_of_ble_eq_true rfl) rfl ?_
        refine jt_iload_n d_GM_count_83 rfl ?_
        refine jt_if_lt (t := 96) d_GM_count_84 rfl (by unfold jRi; omega) (fun c108 => ?_) (fun c108 => ?_)
        · skip
          refine jt_iload d_GM_count_96 rfl ?_
          refine jt_bipush d_GM_count_98 (by omega) ?_
          refine jt_irem d_GM_count_100 (by unfold jRi; omega) (by unfold jRi; omega) (by omega) ?_
          have td109 := gtd k 32 (by omega)
          refine jt_topi (fun v110 ev110 => ?_)
          refine jt_istore_n (L' := [(0, .ref m), (1, .int (jI q)), (2, .int (jI (n + 1))), (3, .int (jI v110)), (4, .int (jI b)), (5, .int (jI c)), (6, .int (jI e)), (7, .int (jI k))]) d_GM_count_101 (Nat.le_of_ble_eq_true rfl) rfl ?_
          refine jt_iload d_GM_count_102 rfl ?_
          refine jt_bipush d_GM_count_104 (by omega) ?_
          refine jt_irem d_GM_count_106 (by unfold jRi; omega) (by unfold jRi; omega) (by omega) ?_
          have td111 := gtd k 32 (by omega)
          refine jt_iload d_GM_count_107 rfl ?_
          refine jt_icmp_le (t := 119) d_GM_count_109 rfl (by unfold jRi; omega) (by unfold jRi; omega) (fun c112 => ?_) (fun c112 => ?_)
          · skip
            refine jt_iload d_GM_count_119 rfl ?_
            refine jt_if_ge (t := 131) d_GM_count_121 rfl (by unfold jRi; omega) (fun c113 => ?_) (fun c113 => ?_)
            · skip
              refine jt_iload d_GM_count_131 rfl ?_
              refine jt_bipush d_GM_count_133 (by omega) ?_
              refine jt_idiv d_GM_count_135 (by unfold jRi; omega) (by unfold jRi; omega) (by omega) ?_
              have td114 := gtd k 32 (by omega)
              refine jt_topi (fun v115 ev115 => ?_)
              refine jt_istore (L' := [(0, .ref m), (1, .int (jI q)), (2, .int (jI (n + 1))), (3, .int (jI v110)), (4, .int (jI b)), (5, .int (jI c)), (6, .int (jI v115)), (7, .int (jI k))]) d_GM_count_136 (Nat.le_of_ble_eq_true rfl) rfl ?_
              refine jt_iinc (L' := [(0, .ref m), (1, .int (jI q)), (2, .int (jI (n + 1))), (3, .int (jI v110)), (4, .int (jI b)), (5, .int (jI c)), (6, .int (jI v115)), (7, .int (jI (k + 1)))]) d_GM_count_138 rfl (Nat.le_of_ble_eq_true rfl) rfl ?_
              refine jt_goto (t := 59) d_GM_count_141 rfl ?_
              have hk9 : k = ((k.toNat : Nat) : Int) := by omega
              have w9 : ¬ A 45 k = 0 := by omega
              have hn9 : n + 1 = cnN (A 45) (k + 1).toNat := by rw [show (k + 1).toNat = k.toNat + 1 by omega]; rw [cnN_b (by rw [← hk9]; exact w9), ← hn]
              have la := ed_li (P := A 45) (n := k.toNat) hk9 w9 ha
              have lb := ed_hi (P := A 45) (n := k.toNat) hk9 w9 hb
              have lc := ed_lj (P := A 45) (n := k.toNat) hk9 w9 hc
              have le := ed_hj (P := A 45) (n := k.toNat) hk9 w9
              replace la : Hd _ := la
              replace lb : Hd _ := lb
              replace lc : Hd _ := lc
              have ha9 : v110 = edN 1 0 (A 45) (k + 1).toNat := by rw [show (k + 1).toNat = k.toNat + 1 by omega]; rcases Classical.em (a < 0 ∨ k % 32 < a) with z | z; exact (by have h9 := la.1 z; omega); exact (by have h9 := la.2 z; omega)
              have hb9 : b = edN 1 1 (A 45) (k + 1).toNat := by rw [show (k + 1).toNat = k.toNat + 1 by omega]; rcases Classical.em (b < k % 32) with z | z; exact (by have h9 := lb.1 z; omega); exact (by have h9 := lb.2 z; omega)
              have hc9 : c = edN 0 0 (A 45) (k + 1).toNat := by rw [show (k + 1).toNat = k.toNat + 1 by omega]; rcases Classical.em (c < 0) with z | z; exact (by have h9 := lc.1 z; omega); exact (by have h9 := lc.2 z; omega)
              have he9 : v115 = edN 0 1 (A 45) (k + 1).toNat := by rw [show (k + 1).toNat = k.toNat + 1 by omega]; omega
              exact ih (n + 1) v110 b c v115 (k + 1) J B hJ (by omega) (by omega) (by omega) (by omega) (by omega) (by omega) (by omega) hn9 ha9 hb9 hc9 he9 (by omega)
            · skip
              refine jt_iload d_GM_count_124 rfl ?_
              refine jt_bipush d_GM_count_126 (by omega) ?_
              refine jt_idiv d_GM_count_128 (by unfold jRi; omega) (by unfold jRi; omega) (by omega) ?_
              have td116 := gtd k 32 (by omega)
              refine jt_topi (fun v117 ev117 => ?_)
              refine jt_istore (L' := [(0, .ref m), (1, .int (jI q)), (2, .int (jI (n + 1))), (3, .int (jI v110)), (4, .int (jI b)), (5, .int (jI v117)), (6, .int (jI e)), (7, .int (jI k))]) d_GM_count_129 (Nat.le_of_ble_eq_true rfl) rfl ?_
              refine jt_iload d_GM_count_131 rfl ?_
              refine jt_bipush d_GM_count_133 (by omega) ?_
              refine jt_idiv d_GM_count_135 (by unfold jRi; omega) (by unfold jRi; omega) (by omega) ?_
              have td118 := gtd k 32 (by omega)
              refine jt_topi (fun v119 ev119 => ?_)
              refine jt_istore (L' := [(0, .ref m), (1, .int (jI q)), (2, .int (jI (n + 1))), (3, .int (jI v110)), (4, .int (jI b)), (5, .int (jI v117)), (6, .int (jI v119)), (7, .int (jI k))]) d_GM_count_136 (Nat.le_of_ble_eq_true rfl) rfl ?_
              refine jt_iinc (L' := [(0, .ref m), (1, .int (jI q)), (2, .int (jI (n + 1))), (3, .int (jI v110)), (4, .int (jI b)), (5, .int (jI v117)), (6, .int (jI v119)), (7, .int (jI (k + 1)))]) d_GM_count_138 rfl (Nat.le_of_ble_eq_true rfl) rfl ?_
              refine jt_goto (t := 59) d_GM_count_141 rfl ?_
              have hk9 : k = ((k.toNat : Nat) : Int) := by omega
              have w9 : ¬ A 45 k = 0 := by omega
              have hn9 : n + 1 = cnN (A 45) (k + 1).toNat := by rw [show (k + 1).toNat = k.toNat + 1 by omega]; rw [cnN_b (by rw [← hk9]; exact w9), ← hn]
              have la := ed_li (P := A 45) (n := k.toNat) hk9 w9 ha
              have lb := ed_hi (P := A 45) (n := k.toNat) hk9 w9 hb
              have lc := ed_lj (P := A 45) (n := k.toNat) hk9 w9 hc
              have le := ed_hj (P := A 45) (n := k.toNat) hk9 w9
              replace la : Hd _ := la
              replace lb : Hd _ := lb
              replace lc : Hd _ := lc
              have ha9 : v110 = edN 1 0 (A 45) (k + 1).toNat := by rw [show (k + 1).toNat = k.toNat + 1 by omega]; rcases Classical.em (a < 0 ∨ k % 32 < a) with z | z; exact (by have h9 := la.1 z; omega); exact (by have h9 := la.2 z; omega)
              have hb9 : b = edN 1 1 (A 45) (k + 1).toNat := by rw [show (k + 1).toNat = k.toNat + 1 by omega]; rcases Classical.em (b < k % 32) with z | z; exact (by have h9 := lb.1 z; omega); exact (by have h9 := lb.2 z; omega)
              have hc9 : v117 = edN 0 0 (A 45) (k + 1).toNat := by rw [show (k + 1).toNat = k.toNat + 1 by omega]; rcases Classical.em (c < 0) with z | z; exact (by have h9 := lc.1 z; omega); exact (by have h9 := lc.2 z; omega)
              have he9 : v119 = edN 0 1 (A 45) (k + 1).toNat := by rw [show (k + 1).toNat = k.toNat + 1 by omega]; omega
              exact ih (n + 1) v110 b v117 v119 (k + 1) J B hJ (by omega) (by omega) (by omega) (by omega) (by omega) (by omega) (by omega) hn9 ha9 hb9 hc9 he9 (by omega)
          · skip
            refine jt_iload d_GM_count_112 rfl ?_
            refine jt_bipush d_GM_count_114 (by omega) ?_
            refine jt_irem d_GM_count_116 (by unfold jRi; omega) (by unfold jRi; omega) (by omega) ?_
            have td120 := gtd k 32 (by omega)
            refine jt_topi (fun v121 ev121 => ?_)
            refine jt_istore (L' := [(0, .ref m), (1, .int (jI q)), (2, .int (jI (n + 1))), (3, .int (jI v110)), (4, .int (jI v121)), (5, .int (jI c)), (6, .int (jI e)), (7, .int (jI k))]) d_GM_count_117 (Nat.le_of_ble_eq_true rfl) rfl ?_
            refine jt_iload d_GM_count_119 rfl ?_
            refine jt_if_ge (t := 131) d_GM_count_121 rfl (by unfold jRi; omega) (fun c122 => ?_) (fun c122 => ?_)
            · skip
              refine jt_iload d_GM_count_131 rfl ?_
              refine jt_bipush d_GM_count_133 (by omega) ?_
              refine jt_idiv d_GM_count_135 (by unfold jRi; omega) (by unfold jRi; omega) (by omega) ?_
              have td123 := gtd k 32 (by omega)
              refine jt_topi (fun v124 ev124 => ?_)
              refine jt_istore (L' := [(0, .ref m), (1, .int (jI q)), (2, .int (jI (n + 1))), (3, .int (jI v110)), (4, .int (jI v121)), (5, .int (jI c)), (6, .int (jI v124)), (7, .int (jI k))]) d_GM_count_136 (Nat.le_of_ble_eq_true rfl) rfl ?_
              refine jt_iinc (L' := [(0, .ref m), (1, .int (jI q)), (2, .int (jI (n + 1))), (3, .int (jI v110)), (4, .int (jI v121)), (5, .int (jI c)), (6, .int (jI v124)), (7, .int (jI (k + 1)))]) d_GM_count_138 rfl (Nat.le_of_ble_eq_true rfl) rfl ?_
              refine jt_goto (t := 59) d_GM_count_141 rfl ?_
              have hk9 : k = ((k.toNat : Nat) : Int) := by omega
              have w9 : ¬ A 45 k = 0 := by omega
              have hn9 : n + 1 = cnN (A 45) (k + 1).toNat := by rw [show (k + 1).toNat = k.toNat + 1 by omega]; rw [cnN_b (by rw [← hk9]; exact w9), ← hn]
              have la := ed_li (P := A 45) (n := k.toNat) hk9 w9 ha
              have lb := ed_hi (P := A 45) (n := k.toNat) hk9 w9 hb
              have lc := ed_lj (P := A 45) (n := k.toNat) hk9 w9 hc
              have le := ed_hj (P := A 45) (n := k.toNat) hk9 w9
              replace la : Hd _ := la
              replace lb : Hd _ := lb
              replace lc : Hd _ := lc
              have ha9 : v110 = edN 1 0 (A 45) (k + 1).toNat := by rw [show (k + 1).toNat = k.toNat + 1 by omega]; rcases Classical.em (a < 0 ∨ k % 32 < a) with z | z; exact (by have h9 := la.1 z; omega); exact (by have h9 := la.2 z; omega)
              have hb9 : v121 = edN 1 1 (A 45) (k + 1).toNat := by rw [show (k + 1).toNat = k.toNat + 1 by omega]; rcases Classical.em (b < k % 32) with z | z; exact (by have h9 := lb.1 z; omega); exact (by have h9 := lb.2 z; omega)
              have hc9 : c = edN 0 0 (A 45) (k + 1).toNat := by rw [show (k + 1).toNat = k.toNat + 1 by omega]; rcases Classical.em (c < 0) with z | z; exact (by have h9 := lc.1 z; omega); exact (by have h9 := lc.2 z; omega)
              have he9 : v124 = edN 0 1 (A 45) (k + 1).toNat := by rw [show (k + 1).toNat = k.toNat + 1 by omega]; omega
              exact ih (n + 1) v110 v121 c v124 (k + 1) J B hJ (by omega) (by omega) (by omega) (by omega) (by omega) (by omega) (by omega) hn9 ha9 hb9 hc9 he9 (by omega)
            · skip
              refine jt_iload d_GM_count_124 rfl ?_
              refine jt_bipush d_GM_count_126 (by omega) ?_
              refine jt_idiv d_GM_count_128 (by unfold jRi; omega) (by unfold jRi; omega) (by omega) ?_
              have td125 := gtd k 32 (by omega)
              refine jt_topi (fun v126 ev126 => ?_)
              refine jt_istore (L' := [(0, .ref m), (1, .int (jI q)), (2, .int (jI (n + 1))), (3, .int (jI v110)), (4, .int (jI v121)), (5, .int (jI v126)), (6, .int (jI e)), (7, .int (jI k))]) d_GM_count_129 (Nat.le_of_ble_eq_true rfl) rfl ?_
              refine jt_iload d_GM_count_131 rfl ?_
              refine jt_bipush d_GM_count_133 (by omega) ?_
              refine jt_idiv d_GM_count_135 (by unfold jRi; omega) (by unfold jRi; omega) (by omega) ?_
              have td127 := gtd k 32 (by omega)
              refine jt_topi (fun v128 ev128 => ?_)
              refine jt_istore (L' := [(0, .ref m), (1, .int (jI q)), (2, .int (jI (n + 1))), (3, .int (jI v110)), (4, .int (jI v121)), (5, .int (jI v126)), (6, .int (jI v128)), (7, .int (jI k))]) d_GM_count_136 (Nat.le_of_ble_eq_true rfl) rfl ?_
              refine jt_iinc (L' := [(0, .ref m), (1, .int (jI q)), (2, .int (jI (n + 1))), (3, .int (jI v110)), (4, .int (jI v121)), (5, .int (jI v126)), (6, .int (jI v128)), (7, .int (jI (k + 1)))]) d_GM_count_138 rfl (Nat.le_of_ble_eq_true rfl) rfl ?_
              refine jt_goto (t := 59) d_GM_count_141 rfl ?_
              have hk9 : k = ((k.toNat : Nat) : Int) := by omega
              have w9 : ¬ A 45 k = 0 := by omega
              have hn9 : n + 1 = cnN (A 45) (k + 1).toNat := by rw [show (k + 1).toNat = k.toNat + 1 by omega]; rw [cnN_b (by rw [← hk9]; exact w9), ← hn]
              have la := ed_li (P := A 45) (n := k.toNat) hk9 w9 ha
              have lb := ed_hi (P := A 45) (n := k.toNat) hk9 w9 hb
              have lc := ed_lj (P := A 45) (n := k.toNat) hk9 w9 hc
              have le := ed_hj (P := A 45) (n := k.toNat) hk9 w9
              replace la : Hd _ := la
              replace lb : Hd _ := lb
              replace lc : Hd _ := lc
              have ha9 : v110 = edN 1 0 (A 45) (k + 1).toNat := by rw [show (k + 1).toNat = k.toNat + 1 by omega]; rcases Classical.em (a < 0 ∨ k % 32 < a) with z | z; exact (by have h9 := la.1 z; omega); exact (by have h9 := la.2 z; omega)
              have hb9 : v121 = edN 1 1 (A 45) (k + 1).toNat := by rw [show (k + 1).toNat = k.toNat + 1 by omega]; rcases Classical.em (b < k % 32) with z | z; exact (by have h9 := lb.1 z; omega); exact (by have h9 := lb.2 z; omega)
              have hc9 : v126 = edN 0 0 (A 45) (k + 1).toNat := by rw [show (k + 1).toNat = k.toNat + 1 by omega]; rcases Classical.em (c < 0) with z | z; exact (by have h9 := lc.1 z; omega); exact (by have h9 := lc.2 z; omega)
              have he9 : v128 = edN 0 1 (A 45) (k + 1).toNat := by rw [show (k + 1).toNat = k.toNat + 1 by omega]; omega
              exact ih (n + 1) v110 v121 v126 v128 (k + 1) J B hJ (by omega) (by omega) (by omega) (by omega) (by omega) (by omega) (by omega) hn9 ha9 hb9 hc9 he9 (by omega)
        · skip
          refine jt_iload d_GM_count_87 rfl ?_
          refine jt_bipush d_GM_count_89 (by omega) ?_
          refine jt_irem d_GM_count_91 (by unfold jRi; omega) (by unfold jRi; omega) (by omega) ?_
          have td129 := gtd k 32 (by omega)
          refine jt_iload_n d_GM_count_92 rfl ?_
          refine jt_icmp_ge (t := 102) d_GM_count_93 rfl (by unfold jRi; omega) (by unfold jRi; omega) (fun c130 => ?_) (fun c130 => ?_)
          · skip
            refine jt_iload d_GM_count_102 rfl ?_
            refine jt_bipush d_GM_count_104 (by omega) ?_
            refine jt_irem d_GM_count_106 (by unfold jRi; omega) (by unfold jRi; omega) (by omega) ?_
            have td131 := gtd k 32 (by omega)
            refine jt_iload d_GM_count_107 rfl ?_
            refine jt_icmp_le (t := 119) d_GM_count_109 rfl (by unfold jRi; omega) (by unfold jRi; omega) (fun c132 => ?_) (fun c132 => ?_)
            · skip
              refine jt_iload d_GM_count_119 rfl ?_
              refine jt_if_ge (t := 131) d_GM_count_121 rfl (by unfold jRi; omega) (fun c133 => ?_) (fun c133 => ?_)
              · skip
                refine jt_iload d_GM_count_131 rfl ?_
                refine jt_bipush d_GM_count_133 (by omega) ?_
                refine jt_idiv d_GM_count_135 (by unfold jRi; omega) (by unfold jRi; omega) (by omega) ?_
                have td134 := gtd k 32 (by omega)
                refine jt_topi (fun v135 ev135 => ?_)
                refine jt_istore (L' := [(0, .ref m), (1, .int (jI q)), (2, .int (jI (n + 1))), (3, .int (jI a)), (4, .int (jI b)), (5, .int (jI c)), (6, .int (jI v135)), (7, .int (jI k))]) d_GM_count_136 (Nat.le_of_ble_eq_true rfl) rfl ?_
                refine jt_iinc (L' := [(0, .ref m), (1, .int (jI q)), (2, .int (jI (n + 1))), (3, .int (jI a)), (4, .int (jI b)), (5, .int (jI c)), (6, .int (jI v135)), (7, .int (jI (k + 1)))]) d_GM_count_138 rfl (Nat.le_of_ble_eq_true rfl) rfl ?_
                refine jt_goto (t := 59) d_GM_count_141 rfl ?_
                have hk9 : k = ((k.toNat : Nat) : Int) := by omega
                have w9 : ¬ A 45 k = 0 := by omega
                have hn9 : n + 1 = cnN (A 45) (k + 1).toNat := by rw [show (k + 1).toNat = k.toNat + 1 by omega]; rw [cnN_b (by rw [← hk9]; exact w9), ← hn]
                have la := ed_li (P := A 45) (n := k.toNat) hk9 w9 ha
                have lb := ed_hi (P := A 45) (n := k.toNat) hk9 w9 hb
                have lc := ed_lj (P := A 45) (n := k.toNat) hk9 w9 hc
                have le := ed_hj (P := A 45) (n := k.toNat) hk9 w9
                replace la : Hd _ := la
                replace lb : Hd _ := lb
                replace lc : Hd _ := lc
                have ha9 : a = edN 1 0 (A 45) (k + 1).toNat := by rw [show (k + 1).toNat = k.toNat + 1 by omega]; rcases Classical.em (a < 0 ∨ k % 32 < a) with z | z; exact (by have h9 := la.1 z; omega); exact (by have h9 := la.2 z; omega)
                have hb9 : b = edN 1 1 (A 45) (k + 1).toNat := by rw [show (k + 1).toNat = k.toNat + 1 by omega]; rcases Classical.em (b < k % 32) with z | z; exact (by have h9 := lb.1 z; omega); exact (by have h9 := lb.2 z; omega)
                have hc9 : c = edN 0 0 (A 45) (k + 1).toNat := by rw [show (k + 1).toNat = k.toNat + 1 by omega]; rcases Classical.em (c < 0) with z | z; exact (by have h9 := lc.1 z; omega); exact (by have h9 := lc.2 z; omega)
                have he9 : v135 = edN 0 1 (A 45) (k + 1).toNat := by rw [show (k + 1).toNat = k.toNat + 1 by omega]; omega
                exact ih (n + 1) a b c v135 (k + 1) J B hJ (by omega) (by omega) (by omega) (by omega) (by omega) (by omega) (by omega) hn9 ha9 hb9 hc9 he9 (by omega)
              · skip
                refine jt_iload d_GM_count_124 rfl ?_
                refine jt_bipush d_GM_count_126 (by omega) ?_
                refine jt_idiv d_GM_count_128 (by unfold jRi; omega) (by unfold jRi; omega) (by omega) ?_
                have td136 := gtd k 32 (by omega)
                refine jt_topi (fun v137 ev137 => ?_)
                refine jt_istore (L' := [(0, .ref m), (1, .int (jI q)), (2, .int (jI (n + 1))), (3, .int (jI a)), (4, .int (jI b)), (5, .int (jI v137)), (6, .int (jI e)), (7, .int (jI k))]) d_GM_count_129 (Nat.le_of_ble_eq_true rfl) rfl ?_
                refine jt_iload d_GM_count_131 rfl ?_
                refine jt_bipush d_GM_count_133 (by omega) ?_
                refine jt_idiv d_GM_count_135 (by unfold jRi; omega) (by unfold jRi; omega) (by omega) ?_
                have td138 := gtd k 32 (by omega)
                refine jt_topi (fun v139 ev139 => ?_)
                refine jt_istore (L' := [(0, .ref m), (1, .int (jI q)), (2, .int (jI (n + 1))), (3, .int (jI a)), (4, .int (jI b)), (5, .int (jI v137)), (6, .int (jI v139)), (7, .int (jI k))]) d_GM_count_136 (Nat.le_of_ble_eq_true rfl) rfl ?_
                refine jt_iinc (L' := [(0, .ref m), (1, .int (jI q)), (2, .int (jI (n + 1))), (3, .int (jI a)), (4, .int (jI b)), (5, .int (jI v137)), (6, .int (jI v139)), (7, .int (jI (k + 1)))]) d_GM_count_138 rfl (Nat.le_of_ble_eq_true rfl) rfl ?_
                refine jt_goto (t := 59) d_GM_count_141 rfl ?_
                have hk9 : k = ((k.toNat : Nat) : Int) := by omega
                have w9 : ¬ A 45 k = 0 := by omega
                have hn9 : n + 1 = cnN (A 45) (k + 1).toNat := by rw [show (k + 1).toNat = k.toNat + 1 by omega]; rw [cnN_b (by rw [← hk9]; exact w9), ← hn]
                have la := ed_li (P := A 45) (n := k.toNat) hk9 w9 ha
                have lb := ed_hi (P := A 45) (n := k.toNat) hk9 w9 hb
                have lc := ed_lj (P := A 45) (n := k.toNat) hk9 w9 hc
                have le := ed_hj (P := A 45) (n := k.toNat) hk9 w9
                replace la : Hd _ := la
                replace lb : Hd _ := lb
                replace lc : Hd _ := lc
                have ha9 : a = edN 1 0 (A 45) (k + 1).toNat := by rw [show (k + 1).toNat = k.toNat + 1 by omega]; rcases Classical.em (a < 0 ∨ k % 32 < a) with z | z; exact (by have h9 := la.1 z; omega); exact (by have h9 := la.2 z; omega)
                have hb9 : b = edN 1 1 (A 45) (k + 1).toNat := by rw [show (k + 1).toNat = k.toNat + 1 by omega]; rcases Classical.em (b < k % 32) with z | z; exact (by have h9 := lb.1 z; omega); exact (by have h9 := lb.2 z; omega)
                have hc9 : v137 = edN 0 0 (A 45) (k + 1).toNat := by rw [show (k + 1).toNat = k.toNat + 1 by omega]; rcases Classical.em (c < 0) with z | z; exact (by have h9 := lc.1 z; omega); exact (by have h9 := lc.2 z; omega)
                have he9 : v139 = edN 0 1 (A 45) (k + 1).toNat := by rw [show (k + 1).toNat = k.toNat + 1 by omega]; omega
                exact ih (n + 1) a b v137 v139 (k + 1) J B hJ (by omega) (by omega) (by omega) (by omega) (by omega) (by omega) (by omega) hn9 ha9 hb9 hc9 he9 (by omega)
            · skip
              refine jt_iload d_GM_count_112 rfl ?_
              refine jt_bipush d_GM_count_114 (by omega) ?_
              refine jt_irem d_GM_count_116 (by unfold jRi; omega) (by unfold jRi; omega) (by omega) ?_
              have td140 := gtd k 32 (by omega)
              refine jt_topi (fun v141 ev141 => ?_)
              refine jt_istore (L' := [(0, .ref m), (1, .int (jI q)), (2, .int (jI (n + 1))), (3, .int (jI a)), (4, .int (jI v141)), (5, .int (jI c)), (6, .int (jI e)), (7, .int (jI k))]) d_GM_count_117 (Nat.le_of_ble_eq_true rfl) rfl ?_
              refine jt_iload d_GM_count_119 rfl ?_
              refine jt_if_ge (t := 131) d_GM_count_121 rfl (by unfold jRi; omega) (fun c142 => ?_) (fun c142 => ?_)
              · skip
                refine jt_iload d_GM_count_131 rfl ?_
                refine jt_bipush d_GM_count_133 (by omega) ?_
                refine jt_idiv d_GM_count_135 (by unfold jRi; omega) (by unfold jRi; omega) (by omega) ?_
                have td143 := gtd k 32 (by omega)
                refine jt_topi (fun v144 ev144 => ?_)
                refine jt_istore (L' := [(0, .ref m), (1, .int (jI q)), (2, .int (jI (n + 1))), (3, .int (jI a)), (4, .int (jI v141)), (5, .int (jI c)), (6, .int (jI v144)), (7, .int (jI k))]) d_GM_count_136 (Nat.le_of_ble_eq_true rfl) rfl ?_
                refine jt_iinc (L' := [(0, .ref m), (1, .int (jI q)), (2, .int (jI (n + 1))), (3, .int (jI a)), (4, .int (jI v141)), (5, .int (jI c)), (6, .int (jI v144)), (7, .int (jI (k + 1)))]) d_GM_count_138 rfl (Nat.le_of_ble_eq_true rfl) rfl ?_
                refine jt_goto (t := 59) d_GM_count_141 rfl ?_
                have hk9 : k = ((k.toNat : Nat) : Int) := by omega
                have w9 : ¬ A 45 k = 0 := by omega
                have hn9 : n + 1 = cnN (A 45) (k + 1).toNat := by rw [show (k + 1).toNat = k.toNat + 1 by omega]; rw [cnN_b (by rw [← hk9]; exact w9), ← hn]
                have la := ed_li (P := A 45) (n := k.toNat) hk9 w9 ha
                have lb := ed_hi (P := A 45) (n := k.toNat) hk9 w9 hb
                have lc := ed_lj (P := A 45) (n := k.toNat) hk9 w9 hc
                have le := ed_hj (P := A 45) (n := k.toNat) hk9 w9
                replace la : Hd _ := la
                replace lb : Hd _ := lb
                replace lc : Hd _ := lc
                have ha9 : a = edN 1 0 (A 45) (k + 1).toNat := by rw [show (k + 1).toNat = k.toNat + 1 by omega]; rcases Classical.em (a < 0 ∨ k % 32 < a) with z | z; exact (by have h9 := la.1 z; omega); exact (by have h9 := la.2 z; omega)
                have hb9 : v141 = edN 1 1 (A 45) (k + 1).toNat := by rw [show (k + 1).toNat = k.toNat + 1 by omega]; rcases Classical.em (b < k % 32) with z | z; exact (by have h9 := lb.1 z; omega); exact (by have h9 := lb.2 z; omega)
                have hc9 : c = edN 0 0 (A 45) (k + 1).toNat := by rw [show (k + 1).toNat = k.toNat + 1 by omega]; rcases Classical.em (c < 0) with z | z; exact (by have h9 := lc.1 z; omega); exact (by have h9 := lc.2 z; omega)
                have he9 : v144 = edN 0 1 (A 45) (k + 1).toNat := by rw [show (k + 1).toNat = k.toNat + 1 by omega]; omega
                exact ih (n + 1) a v141 c v144 (k + 1) J B hJ (by omega) (by omega) (by omega) (by omega) (by omega) (by omega) (by omega) hn9 ha9 hb9 hc9 he9 (by omega)
              · skip
                refine jt_iload d_GM_count_124 rfl ?_
                refine jt_bipush d_GM_count_126 (by omega) ?_
                refine jt_idiv d_GM_count_128 (by unfold jRi; omega) (by unfold jRi; omega) (by omega) ?_
                have td145 := gtd k 32 (by omega)
                refine jt_topi (fun v146 ev146 => ?_)
                refine jt_istore (L' := [(0, .ref m), (1, .int (jI q)), (2, .int (jI (n + 1))), (3, .int (jI a)), (4, .int (jI v141)), (5, .int (jI v146)), (6, .int (jI e)), (7, .int (jI k))]) d_GM_count_129 (Nat.le_of_ble_eq_true rfl) rfl ?_
                refine jt_iload d_GM_count_131 rfl ?_
                refine jt_bipush d_GM_count_133 (by omega) ?_
                refine jt_idiv d_GM_count_135 (by unfold jRi; omega) (by unfold jRi; omega) (by omega) ?_
                have td147 := gtd k 32 (by omega)
                refine jt_topi (fun v148 ev148 => ?_)
                refine jt_istore (L' := [(0, .ref m), (1, .int (jI q)), (2, .int (jI (n + 1))), (3, .int (jI a)), (4, .int (jI v141)), (5, .int (jI v146)), (6, .int (jI v148)), (7, .int (jI k))]) d_GM_count_136 (Nat.le_of_ble_eq_true rfl) rfl ?_
                refine jt_iinc (L' := [(0, .ref m), (1, .int (jI q)), (2, .int (jI (n + 1))), (3, .int (jI a)), (4, .int (jI v141)), (5, .int (jI v146)), (6, .int (jI v148)), (7, .int (jI (k + 1)))]) d_GM_count_138 rfl (Nat.le_of_ble_eq_true rfl) rfl ?_
                refine jt_goto (t := 59) d_GM_count_141 rfl ?_
                have hk9 : k = ((k.toNat : Nat) : Int) := by omega
                have w9 : ¬ A 45 k = 0 := by omega
                have hn9 : n + 1 = cnN (A 45) (k + 1).toNat := by rw [show (k + 1).toNat = k.toNat + 1 by omega]; rw [cnN_b (by rw [← hk9]; exact w9), ← hn]
                have la := ed_li (P := A 45) (n := k.toNat) hk9 w9 ha
                have lb := ed_hi (P := A 45) (n := k.toNat) hk9 w9 hb
                have lc := ed_lj (P := A 45) (n := k.toNat) hk9 w9 hc
                have le := ed_hj (P := A 45) (n := k.toNat) hk9 w9
                replace la : Hd _ := la
                replace lb : Hd _ := lb
                replace lc : Hd _ := lc
                have ha9 : a = edN 1 0 (A 45) (k + 1).toNat := by rw [show (k + 1).toNat = k.toNat + 1 by omega]; rcases Classical.em (a < 0 ∨ k % 32 < a) with z | z; exact (by have h9 := la.1 z; omega); exact (by have h9 := la.2 z; omega)
                have hb9 : v141 = edN 1 1 (A 45) (k + 1).toNat := by rw [show (k + 1).toNat = k.toNat + 1 by omega]; rcases Classical.em (b < k % 32) with z | z; exact (by have h9 := lb.1 z; omega); exact (by have h9 := lb.2 z; omega)
                have hc9 : v146 = edN 0 0 (A 45) (k + 1).toNat := by rw [show (k + 1).toNat = k.toNat + 1 by omega]; rcases Classical.em (c < 0) with z | z; exact (by have h9 := lc.1 z; omega); exact (by have h9 := lc.2 z; omega)
                have he9 : v148 = edN 0 1 (A 45) (k + 1).toNat := by rw [show (k + 1).toNat = k.toNat + 1 by omega]; omega
                exact ih (n + 1) a v141 v146 v148 (k + 1) J B hJ (by omega) (by omega) (by omega) (by omega) (by omega) (by omega) (by omega) hn9 ha9 hb9 hc9 he9 (by omega)
          · skip
            refine jt_iload d_GM_count_96 rfl ?_
            refine jt_bipush d_GM_count_98 (by omega) ?_
            refine jt_irem d_GM_count_100 (by unfold jRi; omega) (by unfold jRi; omega) (by omega) ?_
            have td149 := gtd k 32 (by omega)
            refine jt_topi (fun v150 ev150 => ?_)
            refine jt_istore_n (L' := [(0, .ref m), (1, .int (jI q)), (2, .int (jI (n + 1))), (3, .int (jI v150)), (4, .int (jI b)), (5, .int (jI c)), (6, .int (jI e)), (7, .int (jI k))]) d_GM_count_101 (Nat.le_of_ble_eq_true rfl) rfl ?_
            refine jt_iload d_GM_count_102 rfl ?_
            refine jt_bipush d_GM_count_104 (by omega) ?_
            refine jt_irem d_GM_count_106 (by unfold jRi; omega) (by unfold jRi; omega) (by omega) ?_
            have td151 := gtd k 32 (by omega)
            refine jt_iload d_GM_count_107 rfl ?_
            refine jt_icmp_le (t := 119) d_GM_count_109 rfl (by unfold jRi; omega) (by unfold jRi; omega) (fun c152 => ?_) (fun c152 => ?_)
            · skip
              refine jt_iload d_GM_count_119 rfl ?_
              refine jt_if_ge (t := 131) d_GM_count_121 rfl (by unfold jRi; omega) (fun c153 => ?_) (fun c153 => ?_)
              · skip
                refine jt_iload d_GM_count_131 rfl ?_
                refine jt_bipush d_GM_count_133 (by omega) ?_
                refine jt_idiv d_GM_count_135 (by unfold jRi; omega) (by unfold jRi; omega) (by omega) ?_
                have td154 := gtd k 32 (by omega)
                refine jt_topi (fun v155 ev155 => ?_)
                refine jt_istore (L' := [(0, .ref m), (1, .int (jI q)), (2, .int (jI (n + 1))), (3, .int (jI v150)), (4, .int (jI b)), (5, .int (jI c)), (6, .int (jI v155)), (7, .int (jI k))]) d_GM_count_136 (Nat.le_of_ble_eq_true rfl) rfl ?_
                refine jt_iinc (L' := [(0, .ref m), (1, .int (jI q)), (2, .int (jI (n + 1))), (3, .int (jI v150)), (4, .int (jI b)), (5, .int (jI c)), (6, .int (jI v155)), (7, .int (jI (k + 1)))]) d_GM_count_138 rfl (Nat.le_of_ble_eq_true rfl) rfl ?_
                refine jt_goto (t := 59) d_GM_count_141 rfl ?_
                have hk9 : k = ((k.toNat : Nat) : Int) := by omega
                have w9 : ¬ A 45 k = 0 := by omega
                have hn9 : n + 1 = cnN (A 45) (k + 1).toNat := by rw [show (k + 1).toNat = k.toNat + 1 by omega]; rw [cnN_b (by rw [← hk9]; exact w9), ← hn]
                have la := ed_li (P := A 45) (n := k.toNat) hk9 w9 ha
                have lb := ed_hi (P := A 45) (n := k.toNat) hk9 w9 hb
                have lc := ed_lj (P := A 45) (n := k.toNat) hk9 w9 hc
                have le := ed_hj (P := A 45) (n := k.toNat) hk9 w9
                replace la : Hd _ := la
                replace lb : Hd _ := lb
                replace lc : Hd _ := lc
                have ha9 : v150 = edN 1 0 (A 45) (k + 1).toNat := by rw [show (k + 1).toNat = k.toNat + 1 by omega]; rcases Classical.em (a < 0 ∨ k % 32 < a) with z | z; exact (by have h9 := la.1 z; omega); exact (by have h9 := la.2 z; omega)
                have hb9 : b = edN 1 1 (A 45) (k + 1).toNat := by rw [show (k + 1).toNat = k.toNat + 1 by omega]; rcases Classical.em (b < k % 32) with z | z; exact (by have h9 := lb.1 z; omega); exact (by have h9 := lb.2 z; omega)
                have hc9 : c = edN 0 0 (A 45) (k + 1).toNat := by rw [show (k + 1).toNat = k.toNat + 1 by omega]; rcases Classical.em (c < 0) with z | z; exact (by have h9 := lc.1 z; omega); exact (by have h9 := lc.2 z; omega)
                have he9 : v155 = edN 0 1 (A 45) (k + 1).toNat := by rw [show (k + 1).toNat = k.toNat + 1 by omega]; omega
                exact ih (n + 1) v150 b c v155 (k + 1) J B hJ (by omega) (by omega) (by omega) (by omega) (by omega) (by omega) (by omega) hn9 ha9 hb9 hc9 he9 (by omega)
              · skip
                refine jt_iload d_GM_count_124 rfl ?_
                refine jt_bipush d_GM_count_126 (by omega) ?_
                refine jt_idiv d_GM_count_128 (by unfold jRi; omega) (by unfold jRi; omega) (by omega) ?_
                have td156 := gtd k 32 (by omega)
                refine jt_topi (fun v157 ev157 => ?_)
                refine jt_istore (L' := [(0, .ref m), (1, .int (jI q)), (2, .int (jI (n + 1))), (3, .int (jI v150)), (4, .int (jI b)), (5, .int (jI v157)), (6, .int (jI e)), (7, .int (jI k))]) d_GM_count_129 (Nat.le_of_ble_eq_true rfl) rfl ?_
                refine jt_iload d_GM_count_131 rfl ?_
                refine jt_bipush d_GM_count_133 (by omega) ?_
                refine jt_idiv d_GM_count_135 (by unfold jRi; omega) (by unfold jRi; omega) (by omega) ?_
                have td158 := gtd k 32 (by omega)
                refine jt_topi (fun v159 ev159 => ?_)
                refine jt_istore (L' := [(0, .ref m), (1, .int (jI q)), (2, .int (jI (n + 1))), (3, .int (jI v150)), (4, .int (jI b)), (5, .int (jI v157)), (6, .int (jI v159)), (7, .int (jI k))]) d_GM_count_136 (Nat.le_of_ble_eq_true rfl) rfl ?_
                refine jt_iinc (L' := [(0, .ref m), (1, .int (jI q)), (2, .int (jI (n + 1))), (3, .int (jI v150)), (4, .int (jI b)), (5, .int (jI v157)), (6, .int (jI v159)), (7, .int (jI (k + 1)))]) d_GM_count_138 rfl (Nat.le_of_ble_eq_true rfl) rfl ?_
                refine jt_goto (t := 59) d_GM_count_141 rfl ?_
                have hk9 : k = ((k.toNat : Nat) : Int) := by omega
                have w9 : ¬ A 45 k = 0 := by omega
                have hn9 : n + 1 = cnN (A 45) (k + 1).toNat := by rw [show (k + 1).toNat = k.toNat + 1 by omega]; rw [cnN_b (by rw [← hk9]; exact w9), ← hn]
                have la := ed_li (P := A 45) (n := k.toNat) hk9 w9 ha
                have lb := ed_hi (P := A 45) (n := k.toNat) hk9 w9 hb
                have lc := ed_lj (P := A 45) (n := k.toNat) hk9 w9 hc
                have le := ed_hj (P := A 45) (n := k.toNat) hk9 w9
                replace la : Hd _ := la
                replace lb : Hd _ := lb
                replace lc : Hd _ := lc
                have ha9 : v150 = edN 1 0 (A 45) (k + 1).toNat := by rw [show (k + 1).toNat = k.toNat + 1 by omega]; rcases Classical.em (a < 0 ∨ k % 32 < a) with z | z; exact (by have h9 := la.1 z; omega); exact (by have h9 := la.2 z; omega)
                have hb9 : b = edN 1 1 (A 45) (k + 1).toNat := by rw [show (k + 1).toNat = k.toNat + 1 by omega]; rcases Classical.em (b < k % 32) with z | z; exact (by have h9 := lb.1 z; omega); exact (by have h9 := lb.2 z; omega)
                have hc9 : v157 = edN 0 0 (A 45) (k + 1).toNat := by rw [show (k + 1).toNat = k.toNat + 1 by omega]; rcases Classical.em (c < 0) with z | z; exact (by have h9 := lc.1 z; omega); exact (by have h9 := lc.2 z; omega)
                have he9 : v159 = edN 0 1 (A 45) (k + 1).toNat := by rw [show (k + 1).toNat = k.toNat + 1 by omega]; omega
                exact ih (n + 1) v150 b v157 v159 (k + 1) J B hJ (by omega) (by omega) (by omega) (by omega) (by omega) (by omega) (by omega) hn9 ha9 hb9 hc9 he9 (by omega)
            · skip
              refine jt_iload d_GM_count_112 rfl ?_
              refine jt_bipush d_GM_count_114 (by omega) ?_
              refine jt_irem d_GM_count_116 (by unfold jRi; omega) (by unfold jRi; omega) (by omega) ?_
              have td160 := gtd k 32 (by omega)
              refine jt_topi (fun v161 ev161 => ?_)
              refine jt_istore (L' := [(0, .ref m), (1, .int (jI q)), (2, .int (jI (n + 1))), (3, .int (jI v150)), (4, .int (jI v161)), (5, .int (jI c)), (6, .int (jI e)), (7, .int (jI k))]) d_GM_count_117 (Nat.le_of_ble_eq_true rfl) rfl ?_
              refine jt_iload d_GM_count_119 rfl ?_
              refine jt_if_ge (t := 131) d_GM_count_121 rfl (by unfold jRi; omega) (fun c162 => ?_) (fun c162 => ?_)
              · skip
                refine jt_iload d_GM_count_131 rfl ?_
                refine jt_bipush d_GM_count_133 (by omega) ?_
                refine jt_idiv d_GM_count_135 (by unfold jRi; omega) (by unfold jRi; omega) (by omega) ?_
                have td163 := gtd k 32 (by omega)
                refine jt_topi (fun v164 ev164 => ?_)
                refine jt_istore (L' := [(0, .ref m), (1, .int (jI q)), (2, .int (jI (n + 1))), (3, .int (jI v150)), (4, .int (jI v161)), (5, .int (jI c)), (6, .int (jI v164)), (7, .int (jI k))]) d_GM_count_136 (Nat.le_of_ble_eq_true rfl) rfl ?_
                refine jt_iinc (L' := [(0, .ref m), (1, .int (jI q)), (2, .int (jI (n + 1))), (3, .int (jI v150)), (4, .int (jI v161)), (5, .int (jI c)), (6, .int (jI v164)), (7, .int (jI (k + 1)))]) d_GM_count_138 rfl (Nat.le_of_ble_eq_true rfl) rfl ?_
                refine jt_goto (t := 59) d_GM_count_141 rfl ?_
                have hk9 : k = ((k.toNat : Nat) : Int) := by omega
                have w9 : ¬ A 45 k = 0 := by omega
                have hn9 : n + 1 = cnN (A 45) (k + 1).toNat := by rw [show (k + 1).toNat = k.toNat + 1 by omega]; rw [cnN_b (by rw [← hk9]; exact w9), ← hn]
                have la := ed_li (P := A 45) (n := k.toNat) hk9 w9 ha
                have lb := ed_hi (P := A 45) (n := k.toNat) hk9 w9 hb
                have lc := ed_lj (P := A 45) (n := k.toNat) hk9 w9 hc
                have le := ed_hj (P := A 45) (n := k.toNat) hk9 w9
                replace la : Hd _ := la
                replace lb : Hd _ := lb
                replace lc : Hd _ := lc
                have ha9 : v150 = edN 1 0 (A 45) (k + 1).toNat := by rw [show (k + 1).toNat = k.toNat + 1 by omega]; rcases Classical.em (a < 0 ∨ k % 32 < a) with z | z; exact (by have h9 := la.1 z; omega); exact (by have h9 := la.2 z; omega)
                have hb9 : v161 = edN 1 1 (A 45) (k + 1).toNat := by rw [show (k + 1).toNat = k.toNat + 1 by omega]; rcases Classical.em (b < k % 32) with z | z; exact (by have h9 := lb.1 z; omega); exact (by have h9 := lb.2 z; omega)
                have hc9 : c = edN 0 0 (A 45) (k + 1).toNat := by rw [show (k + 1).toNat = k.toNat + 1 by omega]; rcases Classical.em (c < 0) with z | z; exact (by have h9 := lc.1 z; omega); exact (by have h9 := lc.2 z; omega)
                have he9 : v164 = edN 0 1 (A 45) (k + 1).toNat := by rw [show (k + 1).toNat = k.toNat + 1 by omega]; omega
                exact ih (n + 1) v150 v161 c v164 (k + 1) J B hJ (by omega) (by omega) (by omega) (by omega) (by omega) (by omega) (by omega) hn9 ha9 hb9 hc9 he9 (by omega)
              · skip
                refine jt_iload d_GM_count_124 rfl ?_
                refine jt_bipush d_GM_count_126 (by omega) ?_
                refine jt_idiv d_GM_count_128 (by unfold jRi; omega) (by unfold jRi; omega) (by omega) ?_
                have td165 := gtd k 32 (by omega)
                refine jt_topi (fun v166 ev166 => ?_)
                refine jt_istore (L' := [(0, .ref m), (1, .int (jI q)), (2, .int (jI (n + 1))), (3, .int (jI v150)), (4, .int (jI v161)), (5, .int (jI v166)), (6, .int (jI e)), (7, .int (jI k))]) d_GM_count_129 (Nat.le_of_ble_eq_true rfl) rfl ?_
                refine jt_iload d_GM_count_131 rfl ?_
                refine jt_bipush d_GM_count_133 (by omega) ?_
                refine jt_idiv d_GM_count_135 (by unfold jRi; omega) (by unfold jRi; omega) (by omega) ?_
                have td167 := gtd k 32 (by omega)
                refine jt_topi (fun v168 ev168 => ?_)
                refine jt_istore (L' := [(0, .ref m), (1, .int (jI q)), (2, .int (jI (n + 1))), (3, .int (jI v150)), (4, .int (jI v161)), (5, .int (jI v166)), (6, .int (jI v168)), (7, .int (jI k))]) d_GM_count_136 (Nat.le_of_ble_eq_true rfl) rfl ?_
                refine jt_iinc (L' := [(0, .ref m), (1, .int (jI q)), (2, .int (jI (n + 1))), (3, .int (jI v150)), (4, .int (jI v161)), (5, .int (jI v166)), (6, .int (jI v168)), (7, .int (jI (k + 1)))]) d_GM_count_138 rfl (Nat.le_of_ble_eq_true rfl) rfl ?_
                refine jt_goto (t := 59) d_GM_count_141 rfl ?_
                have hk9 : k = ((k.toNat : Nat) : Int) := by omega
                have w9 : ¬ A 45 k = 0 := by omega
                have hn9 : n + 1 = cnN (A 45) (k + 1).toNat := by rw [show (k + 1).toNat = k.toNat + 1 by omega]; rw [cnN_b (by rw [← hk9]; exact w9), ← hn]
                have la := ed_li (P := A 45) (n := k.toNat) hk9 w9 ha
                have lb := ed_hi (P := A 45) (n := k.toNat) hk9 w9 hb
                have lc := ed_lj (P := A 45) (n := k.toNat) hk9 w9 hc
                have le := ed_hj (P := A 45) (n := k.toNat) hk9 w9
                replace la : Hd _ := la
                replace lb : Hd _ := lb
                replace lc : Hd _ := lc
                have ha9 : v150 = edN 1 0 (A 45) (k + 1).toNat := by rw [show (k + 1).toNat = k.toNat + 1 by omega]; rcases Classical.em (a < 0 ∨ k % 32 < a) with z | z; exact (by have h9 := la.1 z; omega); exact (by have h9 := la.2 z; omega)
                have hb9 : v161 = edN 1 1 (A 45) (k + 1).toNat := by rw [show (k + 1).toNat = k.toNat + 1 by omega]; rcases Classical.em (b < k % 32) with z | z; exact (by have h9 := lb.1 z; omega); exact (by have h9 := lb.2 z; omega)
                have hc9 : v166 = edN 0 0 (A 45) (k + 1).toNat := by rw [show (k + 1).toNat = k.toNat + 1 by omega]; rcases Classical.em (c < 0) with z | z; exact (by have h9 := lc.1 z; omega); exact (by have h9 := lc.2 z; omega)
                have he9 : v168 = edN 0 1 (A 45) (k + 1).toNat := by rw [show (k + 1).toNat = k.toNat + 1 by omega]; omega
                exact ih (n + 1) v150 v161 v166 v168 (k + 1) J B hJ (by omega) (by omega) (by omega) (by omega) (by omega) (by omega) (by omega) hn9 ha9 hb9 hc9 he9 (by omega)
      · skip
        refine jt_goto (t := 138) d_GM_count_77 rfl ?_
        refine jt_iinc (L' := [(0, .ref m), (1, .int (jI q)), (2, .int (jI n)), (3, .int (jI a)), (4, .int (jI b)), (5, .int (jI c)), (6, .int (jI e)), (7, .int (jI (k + 1)))]) d_GM_count_138 rfl (Nat.le_of_ble_eq_true rfl) rfl ?_
        refine jt_goto (t := 59) d_GM_count_141 rfl ?_
        have hk9 : k = ((k.toNat : Nat) : Int) := by omega
        have w9 : A 45 ((k.toNat : Nat) : Int) = 0 := by rw [← hk9]; omega
        have hn9 : n = cnN (A 45) (k + 1).toNat := by rw [show (k + 1).toNat = k.toNat + 1 by omega]; rw [cnN_w w9]; exact hn
        have ha9 : a = edN 1 0 (A 45) (k + 1).toNat := by rw [show (k + 1).toNat = k.toNat + 1 by omega]; rw [edN_w w9]; exact ha
        have hb9 : b = edN 1 1 (A 45) (k + 1).toNat := by rw [show (k + 1).toNat = k.toNat + 1 by omega]; rw [edN_w w9]; exact hb
        have hc9 : c = edN 0 0 (A 45) (k + 1).toNat := by rw [show (k + 1).toNat = k.toNat + 1 by omega]; rw [edN_w w9]; exact hc
        have he9 : e = edN 0 1 (A 45) (k + 1).toNat := by rw [show (k + 1).toNat = k.toNat + 1 by omega]; rw [edN_w w9]; exact he
        exact ih n a b c e (k + 1) J B hJ (by omega) (by omega) (by omega) (by omega) (by omega) (by omega) (by omega) hn9 ha9 hb9 hc9 he9 (by omega)
set_option maxRecDepth 100000 in
set_option maxHeartbeats 1000000 in
theorem y_GM_count (G : jG) (d m : Nat) (q : Int) (I : Nat → Int) (A : Nat → Int → Int) (hI : gSI I) (hA : gSA A) (hq : -2147483648 ≤ q ∧ q ≤ 2147483647) : gct G Y_GM_count d m [.int (jI q)] I A (fun (rv : Option Value) (I2 : Nat → Int) (A2 : Nat → Int → Int) => ∃ y : Int, rv = some (.int (jI y)) ∧ (-2147483648 ≤ y ∧ y ≤ 2147483647) ∧ gPo [] [] I A I2 A2 ∧ y = ctA q (I 0) (A 45) (I 7) (I 8) (I 2) (fun z => if A 20 z < 0 then -2 else A 20 z)) := by
  refine gct_of (by decide) (Nat.le_of_ble_eq_true rfl) (fun f0 sz => ?_)
  show jt _ 0 [(0, .ref m), (1, .int (jI q))] [] _ _ _ _
  have hz0 : gPo [] [] I A I A := gPo.refl hI hA
  refine jt_iload_n d_GM_count_0 rfl ?_
  refine jt_bipush d_GM_count_1 (by omega) ?_
  refine jt_icmp_le (t := 39) d_GM_count_3 rfl (by unfold jRi; omega) (by unfold jRi; omega) (fun c1 => ?_) (fun c1 => ?_)
  · skip
    refine jt_iconst d_GM_count_39 ?_
    refine jt_istore_n (L' := [(0, .ref m), (1, .int (jI q)), (2, .int (jI 0))]) d_GM_count_40 (Nat.le_of_ble_eq_true rfl) rfl ?_
    refine jt_bipush d_GM_count_41 (by omega) ?_
    refine jt_istore_n (L' := [(0, .ref m), (1, .int (jI q)), (2, .int (jI 0)), (3, .int (jI (-2)))]) d_GM_count_43 (Nat.le_of_ble_eq_true rfl) rfl ?_
    refine jt_bipush d_GM_count_44 (by omega) ?_
    refine jt_istore (L' := [(0, .ref m), (1, .int (jI q)), (2, .int (jI 0)), (3, .int (jI (-2))), (4, .int (jI (-2)))]) d_GM_count_46 (Nat.le_of_ble_eq_true rfl) rfl ?_
    refine jt_bipush d_GM_count_48 (by omega) ?_
    refine jt_istore (L' := [(0, .ref m), (1, .int (jI q)), (2, .int (jI 0)), (3, .int (jI (-2))), (4, .int (jI (-2))), (5, .int (jI (-2)))]) d_GM_count_50 (Nat.le_of_ble_eq_true rfl) rfl ?_
    refine jt_bipush d_GM_count_52 (by omega) ?_
    refine jt_istore (L' := [(0, .ref m), (1, .int (jI q)), (2, .int (jI 0)), (3, .int (jI (-2))), (4, .int (jI (-2))), (5, .int (jI (-2))), (6, .int (jI (-2)))]) d_GM_count_54 (Nat.le_of_ble_eq_true rfl) rfl ?_
    refine jt_iconst d_GM_count_56 ?_
    refine jt_istore (L' := [(0, .ref m), (1, .int (jI q)), (2, .int (jI 0)), (3, .int (jI (-2))), (4, .int (jI (-2))), (5, .int (jI (-2))), (6, .int (jI (-2))), (7, .int (jI 0))]) d_GM_count_57 (Nat.le_of_ble_eq_true rfl) rfl ?_
    exact l59_GM_county G d m q I A hI hA hq f0 sz  769 0 (-2) (-2) (-2) (-2) 0 I A hz0 (by omega) (by omega) (by omega) (by omega) (by omega) (by omega) (by omega) (by rfl) (by rfl) (by rfl) (by rfl) (by rfl) (by omega)
  · skip
    refine jt_iload_n d_GM_count_6 rfl ?_
    refine jt_bipush d_GM_count_7 (by omega) ?_
    refine jt_icmp_ge (t := 39) d_GM_count_9 rfl (by unfold jRi; omega) (by unfold jRi; omega) (fun c2 => ?_) (fun c2 => ?_)
    · skip
      refine jt_iconst d_GM_count_39 ?_
      refine jt_istore_n (L' := [(0, .ref m), (1, .int (jI q)), (2, .int (jI 0))]) d_GM_count_40 (Nat.le_of_ble_eq_true rfl) rfl ?_
      refine jt_bipush d_GM_count_41 (by omega) ?_
      refine jt_istore_n (L' := [(0, .ref m), (1, .int (jI q)), (2, .int (jI 0)), (3, .int (jI (-2)))]) d_GM_count_43 (Nat.le_of_ble_eq_true rfl) rfl ?_
      refine jt_bipush d_GM_count_44 (by omega) ?_
      refine jt_istore (L' := [(0, .ref m), (1, .int (jI q)), (2, .int (jI 0)), (3, .int (jI (-2))), (4, .int (jI (-2)))]) d_GM_count_46 (Nat.le_of_ble_eq_true rfl) rfl ?_
      refine jt_bipush d_GM_count_48 (by omega) ?_
      refine jt_istore (L' := [(0, .ref m), (1, .int (jI q)), (2, .int (jI 0)), (3, .int (jI (-2))), (4, .int (jI (-2))), (5, .int (jI (-2)))]) d_GM_count_50 (Nat.le_of_ble_eq_true rfl) rfl ?_
      refine jt_bipush d_GM_count_52 (by omega) ?_
      refine jt_istore (L' := [(0, .ref m), (1, .int (jI q)), (2, .int (jI 0)), (3, .int (jI (-2))), (4, .int (jI (-2))), (5, .int (jI (-2))), (6, .int (jI (-2)))]) d_GM_count_54 (Nat.le_of_ble_eq_true rfl) rfl ?_
      refine jt_iconst d_GM_count_56 ?_
      refine jt_istore (L' := [(0, .ref m), (1, .int (jI q)), (2, .int (jI 0)), (3, .int (jI (-2))), (4, .int (jI (-2))), (5, .int (jI (-2))), (6, .int (jI (-2))), (7, .int (jI 0))]) d_GM_count_57 (Nat.le_of_ble_eq_true rfl) rfl ?_
      exact l59_GM_county G d m q I A hI hA hq f0 sz  769 0 (-2) (-2) (-2) (-2) 0 I A hz0 (by omega) (by omega) (by omega) (by omega) (by omega) (by omega) (by omega) (by rfl) (by rfl) (by rfl) (by rfl) (by rfl) (by omega)
    · skip
      refine jt_aload_n d_GM_count_12 rfl ?_
      refine gm_gA (k := 20) (a := m + 5) d_GM_count_13 GM_f72 (by decide) (by decide) rfl ?_
      refine jt_iload_n d_GM_count_16 rfl ?_
      refine jt_bipush d_GM_count_17 (by omega) ?_
      refine jt_isub d_GM_count_19 ?_
      refine gm_ld0 (k := 20) (n := 6) (v := (A 20) (q - 9)) d_GM_count_20 rfl (by decide) (by decide) rfl rfl (by omega) (by omega) (by omega) rfl ?_
      refine jt_topi (fun v3 ev3 => ?_)
      have bv3 : (-2147483648) ≤ v3 ∧ v3 ≤ 2147483647 := by rw [ev3]; exact hz0.2.1 20 (q - 9)
      refine jt_if_ge (t := 29) d_GM_count_21 rfl (by unfold jRi; omega) (fun c4 => ?_) (fun c4 => ?_)
      · skip
        refine jt_aload_n d_GM_count_29 rfl ?_
        refine gm_gA (k := 20) (a := m + 5) d_GM_count_30 GM_f72 (by decide) (by decide) rfl ?_
        refine jt_iload_n d_GM_count_33 rfl ?_
        refine jt_bipush d_GM_count_34 (by omega) ?_
        refine jt_isub d_GM_count_36 ?_
        refine gm_ld0 (k := 20) (n := 6) (v := (A 20) (q - 9)) d_GM_count_37 rfl (by decide) (by decide) rfl rfl (by omega) (by omega) (by omega) rfl ?_
        refine jt_topi (fun v5 ev5 => ?_)
        have bv5 : (-2147483648) ≤ v5 ∧ v5 ≤ 2147483647 := by rw [ev5]; exact hz0.2.1 20 (q - 9)
        exact gm_ret d_GM_count_38 rfl rfl (⟨v5, rfl, by omega, hz0, by unfold ctA; rw [if_neg (by omega), if_neg (by omega), if_neg (by omega), if_neg (by omega), if_neg (by omega), if_neg (by omega), if_neg (by omega), if_neg (by omega), if_neg (by omega), if_pos (by omega)]; show _ = if A 20 (q - 9) < 0 then -2 else A 20 (q - 9); rw [if_neg (by omega)]; omega⟩)
      · skip
        refine jt_bipush d_GM_count_24 (by omega) ?_
        refine jt_goto (t := 38) d_GM_count_26 rfl ?_
        exact gm_ret d_GM_count_38 rfl rfl (⟨-2, rfl, by omega, hz0, by unfold ctA; rw [if_neg (by omega), if_neg (by omega), if_neg (by omega), if_neg (by omega), if_neg (by omega), if_neg (by omega), if_neg (by omega), if_neg (by omega), if_neg (by omega), if_pos (by omega)]; show _ = if A 20 (q - 9) < 0 then -2 else A 20 (q - 9); rw [if_pos (by omega)]⟩)

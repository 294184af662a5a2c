theorem w_GM_kept (G : jG) (d m : Nat) (v : Int) (I : Nat → Int) (A : Nat → Int → Int) (hI : gSI I) (hA : gSA A) (hv : -9223372036854775808 ≤ v ∧ v ≤ 9223372036854775807) : gct G Y_GM_kept d m [.long (jL v)] I A (fun rv I2 A2 => ∃ y : Int, rv = some (.long (jL y)) ∧ (-9223372036854775808 ≤ y ∧ y ≤ 9223372036854775807) ∧ gPo [15] [] I A I2 A2) := by
  refine gct_mono (c_GM_kept G d m v I A hv) (fun rv J B h => Or.inl ?_)
  obtain ⟨h1, rfl, rfl⟩ := h
  have b : (0 : Int) ≤ I 15 ∧ I 15 ≤ 1 := hI 15
  refine ⟨gkp v, h1, by unfold gkp; split <;> omega, gPo.I 15 _ (gPo.refl hI hA) rfl (show 0 ≤ gkr v (I 15) ∧ gkr v (I 15) ≤ 1 by unfold gkr; split <;> omega)⟩
theorem gA35 {S T : List Nat} {I : Nat → Int} {A : Nat → Int → Int} {W : Int → Int} (hI : gSI I) (hA : gSA A) (hT : T.contains 35 = true) (hW : ∀ z, -9223372036854775808 ≤ W z ∧ W z ≤ 9223372036854775807) : gPo S T I A I (va_up A 35 W) := gPo.A 35 W (gPo.refl hI hA) hT hW
theorem w_GM_clear (G : jG) (d m : Nat) (f : Int) (I : Nat → Int) (A : Nat → Int → Int) (hI : gSI I) (hA : gSA A) (h0 : 0 ≤ f) (h1 : f < 400) : gct G Y_GM_clear d m [.int (jI f)] I A (fun rv I2 A2 => rv = none ∧ gPo [] [35] I A I2 A2) := by
  refine gct_mono (c_GM_clear G d m f I A h0 h1) (fun rv J B h => Or.inl ?_)
  obtain ⟨h1, rfl, W, rfl, hW⟩ := h
  refine ⟨h1, gA35 hI hA rfl (fun z => ?_)⟩
  rw [hW]
  split
  · omega
  · exact hA 35 z
theorem w_GM_copyForm (G : jG) (d m : Nat) (f g : Int) (I : Nat → Int) (A : Nat → Int → Int) (hI : gSI I) (hA : gSA A) (h0 : 0 ≤ f) (h1 : f < 400) (h2 : 0 ≤ g) (h3 : g < 400) (hne : f ≠ g) : gct G Y_GM_copyForm d m [.int (jI f), .int (jI g)] I A (fun rv I2 A2 => rv = none ∧ gPo [] [35] I A I2 A2) := by
  refine gct_mono (c_GM_copyForm G d m f g I A h0 h1 h2 h3 hne) (fun rv J B h => Or.inl ?_)
  obtain ⟨h1, rfl, W, rfl, hW⟩ := h
  refine ⟨h1, gA35 hI hA rfl (fun z => ?_)⟩
  rw [hW]
  split
  · exact hA 35 _
  · exact hA 35 z
/-- a value that its cell bears stays as it is -/
theorem gNm_v {A : Nat → Int → Int} {k : Nat} {z : Int} (h : aLo k ≤ A k z ∧ A k z ≤ aHi k) : gNm A k z = A k z := by
  have hr : (gmk k = 1 → -9223372036854775808 ≤ aLo k ∧ aHi k ≤ 9223372036854775807) ∧ (gmk k = 0 → -2147483648 ≤ aLo k ∧ aHi k ≤ 2147483647) := by
    unfold aLo aHi
    by_cases h1 : k = 44
    · rw [if_pos h1, if_pos h1]; omega
    · rw [if_neg h1, if_neg h1]
      by_cases h1 : k = 45
      · rw [if_pos h1, if_pos h1]; omega
      · rw [if_neg h1, if_neg h1]
        by_cases h1 : k = 36
        · rw [if_pos h1, if_pos h1]; omega
        · rw [if_neg h1, if_neg h1]
          by_cases h1 : k = 38
          · rw [if_pos h1, if_pos h1, h1]; exact ⟨fun _ => by omega, fun z => absurd z (by decide)⟩
          · rw [if_neg h1, if_neg h1]
            by_cases h2 : gmk k = 1
            · rw [if_pos h2, if_pos h2]; omega
            · rw [if_neg h2, if_neg h2]; omega
  unfold gNm
  by_cases h1 : gmk k = 1
  · have := hr.1 h1
    rw [if_pos h1]; exact jNl_i (by omega) (by omega)
  · by_cases h0 : gmk k = 0
    · have := hr.2 h0
      rw [if_neg h1, if_pos h0]; exact jNi_i (by omega) (by omega)
    · rw [if_neg h1, if_neg h0]
/-- arrays that are changed in wide places alone, made such as their cells bear -/
theorem gPo_nm {S T : List Nat} {I J : Nat → Int} {A B : Nat → Int → Int} (hJ : gSI J) (hA : gSA A) (hS : ∀ k, S.contains k = false → J k = I k) (hB : ∀ k, T.contains k = false → B k = A k) (hT : T.all (fun k => [16, 17, 18, 19, 20, 21, 22, 23, 24, 25, 26, 27, 28, 29, 30, 31, 32, 33, 34, 35, 37, 39, 40, 41, 42, 43].contains k) = true) : gPo S T I A J (gNm B) := by
  have key : ∀ k, T.contains k = false → gNm B k = A k := by
    intro k hk
    funext z
    rw [← hB k hk]
    exact gNm_v (by rw [hB k hk]; exact hA k z)
  refine ⟨hJ, fun k z => ?_, hS, key⟩
  cases hk : T.contains k with
  | false => rw [key k hk]; exact hA k z
  | true =>
    have h1 := List.all_eq_true.mp hT k (List.contains_iff_mem.mp hk)
    have h2 : k = 16 ∨ k = 17 ∨ k = 18 ∨ k = 19 ∨ k = 20 ∨ k = 21 ∨ k = 22 ∨ k = 23 ∨ k = 24 ∨ k = 25 ∨ k = 26 ∨ k = 27 ∨ k = 28 ∨ k = 29 ∨ k = 30 ∨ k = 31 ∨ k = 32 ∨ k = 33 ∨ k = 34 ∨ k = 35 ∨ k = 37 ∨ k = 39 ∨ k = 40 ∨ k = 41 ∨ k = 42 ∨ k = 43 := by
      have := List.contains_iff_mem.mp h1
      simpa using this
    have h3 : (gmk k = 1 ∧ aLo k = -9223372036854775808 ∧ aHi k = 9223372036854775807) ∨ (gmk k = 0 ∧ aLo k = -2147483648 ∧ aHi k = 2147483647) := by
      rcases h2 with rfl | rfl | rfl | rfl | rfl | rfl | rfl | rfl | rfl | rfl | rfl | rfl | rfl | rfl | rfl | rfl | rfl | rfl | rfl | rfl | rfl | rfl | rfl | rfl | rfl | rfl <;> decide
    rcases h3 with h3 | h3
    · rw [h3.2.1, h3.2.2]
      unfold gNm
      rw [if_pos h3.1]
      exact jNl_r _
    · rw [h3.2.1, h3.2.2]
      unfold gNm
      rw [if_neg (by rw [h3.1]; decide), if_pos h3.1]
      exact jNi_r _
theorem gup_o {α : Type} {f : Nat → α} {T : List Nat} {k q : Nat} {x : α} (hk : T.contains k = true) (hq : T.contains q = false) : va_up f k x q = f q := va_up_ne _ _ (fun e => by subst e; rw [hk] at hq; cases hq)
theorem w_GM_addForm (G : jG) (d m : Nat) (f g s : Int) (I : Nat → Int) (A : Nat → Int → Int) (hI : gSI I) (hA : gSA A) (h0 : 0 ≤ f) (h1 : f < 400) (h2 : 0 ≤ g) (h3 : g < 400) (hne : f ≠ g) (hs : jRi s) : gct G Y_GM_addForm d m [.int (jI f), .int (jI g), .int (jI s)] I A (fun rv I2 A2 => rv = none ∧ gPo [] [35] I A I2 A2) := by
  refine gct_mono (c_GM_addForm G d m f g s I A h0 h1 h2 h3 hne hs) (fun rv J B h => Or.inr ?_)
  obtain ⟨h1, rfl, W, rfl, hW⟩ := h
  exact ⟨h1, gPo_nm hI hA (fun _ _ => rfl) (fun k hk => gup_o (T := [35]) rfl hk) rfl⟩
theorem w_GM_beginSums (G : jG) (d m : Nat) (I : Nat → Int) (A : Nat → Int → Int) (hI : gSI I) (hA : gSA A) : gct G Y_GM_beginSums d m [] I A (fun rv I2 A2 => rv = none ∧ gPo [] [33, 34] I A I2 A2) := by
  refine gct_mono (c_GM_beginSums G d m I A) (fun rv J B h => Or.inr ?_)
  obtain ⟨h1, rfl, X, Y, rfl, hX, hY⟩ := h
  exact ⟨h1, gPo_nm hI hA (fun _ _ => rfl) (fun k hk => (gup_o (T := [33, 34]) rfl hk).trans (gup_o (T := [33, 34]) rfl hk)) rfl⟩
theorem w_GM_replaceIn (G : jG) (d m : Nat) (f v g : Int) (I : Nat → Int) (A : Nat → Int → Int) (hI : gSI I) (hA : gSA A) (h0 : 0 ≤ f) (h1 : f < 400) (w0 : 0 ≤ v) (w1 : v < 12) (g0 : 0 ≤ g) (g1 : g < 400) (hne : f ≠ g) : gct G Y_GM_replaceIn d m [.int (jI f), .int (jI v), .int (jI g)] I A (fun rv I2 A2 => rv = none ∧ gPo [] [33, 34, 35] I A I2 A2) := by
  refine gct_mono (c_GM_replaceIn G d m f v g I A h0 h1 w0 w1 g0 g1 hne (hA 35 _)) (fun rv J B h => Or.inr ?_)
  obtain ⟨h1, rfl, X, Y, rfl, hX, hY⟩ := h
  exact ⟨h1, gPo_nm hI hA (fun _ _ => rfl) (fun k hk => (gup_o (T := [33, 34, 35]) rfl hk).trans ((gup_o (T := [33, 34, 35]) rfl hk).trans (gup_o (T := [33, 34, 35]) rfl hk))) rfl⟩
theorem w_GM_check (G : jG) (d m : Nat) (f : Int) (I : Nat → Int) (A : Nat → Int → Int) (hI : gSI I) (hA : gSA A) (h0 : 0 ≤ f) (h1 : f < 400) : gct G Y_GM_check (d + 1) m [.int (jI f)] I A (fun rv I2 A2 => rv = none ∧ gPo [15] [35] I A I2 A2) := by
  refine gct_mono (c_GM_check G d m f I A h0 h1 (fun j _ _ => hA 35 _)) (fun rv J B h => Or.inl ?_)
  obtain ⟨h1, r, W, rfl, rfl, hW, ha, hb⟩ := h
  have b : (0 : Int) ≤ I 15 ∧ I 15 ≤ 1 := hI 15
  have hr : 0 ≤ r ∧ r ≤ 1 := by
    by_cases hc : ∀ j, 0 ≤ j → j < 13 → gin (A 35 (f * 13 + j))
    · rw [ha hc]; exact b
    · rw [hb hc]; omega
  refine ⟨h1, gPo.A 35 W (gPo.I 15 r (gPo.refl hI hA) rfl hr) rfl (fun z => ?_)⟩
  show -9223372036854775808 ≤ W z ∧ W z ≤ 9223372036854775807
  rw [hW]
  split
  · unfold gkp; split
    · omega
    · omega
  · exact hA 35 z
theorem w_GM_loadVariable (G : jG) (d m : Nat) (f v : Int) (I : Nat → Int) (A : Nat → Int → Int) (hI : gSI I) (hA : gSA A) (h0 : 0 ≤ f) (h1 : f < 400) (v0 : 0 ≤ v) (v1 : v < 12) : gct G Y_GM_loadVariable (d + 1) m [.int (jI f), .int (jI v)] I A (fun rv I2 A2 => rv = none ∧ gPo [] [35] I A I2 A2) := by
  refine gct_mono (c_GM_loadVariable G d m f v I A h0 h1 v0 v1 (hA 30 v)) (fun rv J B h => Or.inl ?_)
  obtain ⟨h1, rfl, W, rfl, hW⟩ := h
  refine ⟨h1, gA35 hI hA rfl (fun z => ?_)⟩
  rw [hW]
  split
  · split
    · split <;> omega
    · exact hA 31 _
  · exact hA 35 z
theorem gdiv1 (a s : Int) (h : 0 < s) (h2 : s ≤ a) : 1 ≤ Int.tdiv a s ∧ Int.tdiv a s ≤ a := by
  have h3 := Int.tmod_def a s
  have h4 := tmod_bounds (a := a) h
  have h5 : Int.tdiv a s = a / s := Int.tdiv_eq_ediv_of_nonneg (by omega)
  rw [h5]
  exact ⟨(Int.le_ediv_iff_mul_le h).mpr (by omega), Int.ediv_le_self _ (by omega)⟩
set_option maxRecDepth 100000 in
set_option maxHeartbeats 1000000 in
theorem l6_GM_windingw (G : jG) (d m : Nat) (x : Int) (y : Int) (I : Nat → Int) (A : Nat → Int → Int) (hI : gSI I) (hA : gSA A) (hx : -9223372036854775808 ≤ x ∧ x ≤ 9223372036854775807) (hy : -9223372036854775808 ≤ y ∧ y ≤ 9223372036854775807) (f0 : jF) (sz : Nat)  : ∀ (n9 : Nat) (n : Int) (k : Int) (J : Nat → Int) (B : Nat → Int → Int), gPo [] [] I A J B → (0 ≤ k) → (k ≤ J 10) → (-k ≤ n) → (n ≤ k) → 110 - k < (n9 : Int) → jt (jm G Y_GM_winding (gR d) (gQ m f0 sz (fun (rv : Option Value) (I2 : Nat → Int) (A2 : Nat → Int → Int) => ∃ w : Int, rv = some (.int (jI w)) ∧ (-110 ≤ w ∧ w ≤ 110) ∧ gPo [] [] I A I2 A2))) 6 [(0, .ref m), (1, .long (jL x)), (3, .long (jL y)), (5, .int (jI n)), (6, .int (jI k))] [] (gmf m f0 J B) sz 0 0 := by
  intro n9
  induction n9 with
  | zero =>
    intro n k J B hJ k0 k1 n0 n1 hmeas
    have b10 : 0 ≤ J 10 ∧ J 10 ≤ 110 := hJ.1 10
    exfalso
    omega
  | succ n9 ih =>
    intro n k J B hJ k0 k1 n0 n1 hmeas
    have b10 : 0 ≤ J 10 ∧ J 10 ≤ 110 := hJ.1 10
    refine jt_iload d_GM_winding_6 rfl ?_
    refine jt_aload_n d_GM_winding_8 rfl ?_
    refine gm_gI (k := 10) (v := J 10) d_GM_winding_9 GM_f40 (by decide) rfl ?_
    have rb101 : 0 ≤ J 10 ∧ J 10 ≤ 110 := hJ.1 10
    refine jt_icmp_ge (t := 142) d_GM_winding_12 rfl (by unfold jRi; omega) (by unfold jRi; omega) (fun c102 => ?_) (fun c102 => ?_)
    · skip
      refine jt_iload d_GM_winding_142 rfl ?_
      exact gm_ret d_GM_winding_144 rfl rfl (⟨n, rfl, by omega, hJ⟩)
    · skip
      refine jt_aload_n d_GM_winding_15 rfl ?_
      refine gm_gA (k := 42) (a := m + 27) d_GM_winding_16 GM_f139 (by decide) (by decide) rfl ?_
      refine jt_iload d_GM_winding_19 rfl ?_
      refine gm_ld1 (k := 42) (n := 110) (v := (B 42) k) d_GM_winding_21 rfl (by decide) (by decide) rfl rfl (by omega) (by omega) (by omega) rfl ?_
      refine jt_topl (fun v103 ev103 => ?_)
      have bv103 : (-9223372036854775808) ≤ v103 ∧ v103 ≤ 9223372036854775807 := by rw [ev103]; exact hJ.2.1 42 k
      refine jt_aload_n d_GM_winding_22 rfl ?_
      refine gm_gA (k := 40) (a := m + 25) d_GM_winding_23 GM_f133 (by decide) (by decide) rfl ?_
      refine jt_iload d_GM_winding_26 rfl ?_
      refine gm_ld1 (k := 40) (n := 110) (v := (B 40) k) d_GM_winding_28 rfl (by decide) (by decide) rfl rfl (by omega) (by omega) (by omega) rfl ?_
      refine jt_topl (fun v104 ev104 => ?_)
      have bv104 : (-9223372036854775808) ≤ v104 ∧ v104 ≤ 9223372036854775807 := by rw [ev104]; exact hJ.2.1 40 k
      refine jt_lsub d_GM_winding_29 ?_
      refine jt_toplw (fun v105 bv105 => ?_)
      refine jt_lload_n d_GM_winding_30 rfl ?_
      refine jt_aload_n d_GM_winding_31 rfl ?_
      refine gm_gA (k := 41) (a := m + 26) d_GM_winding_32 GM_f136 (by decide) (by decide) rfl ?_
      refine jt_iload d_GM_winding_35 rfl ?_
      refine gm_ld1 (k := 41) (n := 110) (v := (B 41) k) d_GM_winding_37 rfl (by decide) (by decide) rfl rfl (by omega) (by omega) (by omega) rfl ?_
      refine jt_topl (fun v106 ev106 => ?_)
      have bv106 : (-9223372036854775808) ≤ v106 ∧ v106 ≤ 9223372036854775807 := by rw [ev106]; exact hJ.2.1 41 k
      refine jt_lsub d_GM_winding_38 ?_
      refine jt_toplw (fun v107 bv107 => ?_)
      refine jt_lmul d_GM_winding_39 ?_
      refine jt_toplw (fun v108 bv108 => ?_)
      refine jt_lload_n d_GM_winding_40 rfl ?_
      refine jt_aload_n d_GM_winding_41 rfl ?_
      refine gm_gA (k := 40) (a := m + 25) d_GM_winding_42 GM_f133 (by decide) (by decide) rfl ?_
      refine jt_iload d_GM_winding_45 rfl ?_
      refine gm_ld1 (k := 40) (n := 110) (v := (B 40) k) d_GM_winding_47 rfl (by decide) (by decide) rfl rfl (by omega) (by omega) (by omega) rfl ?_
      refine jt_topl (fun v109 ev109 => ?_)
      have bv109 : (-9223372036854775808) ≤ v109 ∧ v109 ≤ 9223372036854775807 := by rw [ev109]; exact hJ.2.1 40 k
      refine jt_lsub d_GM_winding_48 ?_
      refine jt_toplw (fun v110 bv110 => ?_)
      refine jt_aload_n d_GM_winding_49 rfl ?_
      refine gm_gA (k := 43) (a := m + 28) d_GM_winding_50 GM_f142 (by decide) (by decide) rfl ?_
      refine jt_iload d_GM_winding_53 rfl ?_
      refine gm_ld1 (k := 43) (n := 110) (v := (B 43) k) d_GM_winding_55 rfl (by decide) (by decide) rfl rfl (by omega) (by omega) (by omega) rfl ?_
      refine jt_topl (fun v111 ev111 => ?_)
      have bv111 : (-9223372036854775808) ≤ v111 ∧ v111 ≤ 9223372036854775807 := by rw [ev111]; exact hJ.2.1 43 k
      refine jt_aload_n d_GM_winding_56 rfl ?_
      refine gm_gA (k := 41) (a := m + 26) d_GM_winding_57 GM_f136 (by decide) (by decide) rfl ?_
      refine jt_iload d_GM_winding_60 rfl ?_
      refine gm_ld1 (k := 41) (n := 110) (v := (B 41) k) d_GM_winding_62 rfl (by decide) (by decide) rfl rfl (by omega) (by omega) (by omega) rfl ?_
      refine jt_topl (fun v112 ev112 => ?_)
      have bv112 : (-9223372036854775808) ≤ v112 ∧ v112 ≤ 9223372036854775807 := by rw [ev112]; exact hJ.2.1 41 k
      refine jt_lsub d_GM_winding_63 ?_
      refine jt_toplw (fun v113 bv113 => ?_)
      refine jt_lmul d_GM_winding_64 ?_
      refine jt_toplw (fun v114 bv114 => ?_)
      refine jt_lsub d_GM_winding_65 ?_
      refine jt_toplw (fun v115 bv115 => ?_)
      refine jt_lstore (L' := [(0, .ref m), (1, .long (jL x)), (3, .long (jL y)), (5, .int (jI n)), (6, .int (jI k)), (7, .long (jL v115))]) d_GM_winding_66 (Nat.le_of_ble_eq_true rfl) rfl ?_
      refine jt_aload_n d_GM_winding_68 rfl ?_
      refine gm_gA (k := 41) (a := m + 26) d_GM_winding_69 GM_f136 (by decide) (by decide) rfl ?_
      refine jt_iload d_GM_winding_72 rfl ?_
      refine gm_ld1 (k := 41) (n := 110) (v := (B 41) k) d_GM_winding_74 rfl (by decide) (by decide) rfl rfl (by omega) (by omega) (by omega) rfl ?_
      refine jt_topl (fun v116 ev116 => ?_)
      have bv116 : (-9223372036854775808) ≤ v116 ∧ v116 ≤ 9223372036854775807 := by rw [ev116]; exact hJ.2.1 41 k
      refine jt_lload_n d_GM_winding_75 rfl ?_
      refine jt_lif_gt (t := 102) d_GM_winding_76 d_GM_winding_77 rfl (by unfold jRl; omega) (by unfold jRl; omega) (fun c117 => ?_) (fun c117 => ?_)
      · skip
        refine jt_aload_n d_GM_winding_102 rfl ?_
        refine gm_gA (k := 43) (a := m + 28) d_GM_winding_103 GM_f142 (by decide) (by decide) rfl ?_
        refine jt_iload d_GM_winding_106 rfl ?_
        refine gm_ld1 (k := 43) (n := 110) (v := (B 43) k) d_GM_winding_108 rfl (by decide) (by decide) rfl rfl (by omega) (by omega) (by omega) rfl ?_
        refine jt_topl (fun v118 ev118 => ?_)
        have bv118 : (-9223372036854775808) ≤ v118 ∧ v118 ≤ 9223372036854775807 := by rw [ev118]; exact hJ.2.1 43 k
        refine jt_lload_n d_GM_winding_109 rfl ?_
        refine jt_lif_gt (t := 136) d_GM_winding_110 d_GM_winding_111 rfl (by unfold jRl; omega) (by unfold jRl; omega) (fun c119 => ?_) (fun c119 => ?_)
        · skip
          refine jt_iinc (L' := [(0, .ref m), (1, .long (jL x)), (3, .long (jL y)), (5, .int (jI n)), (6, .int (jI (k + 1))), (7, .long (jL v115))]) d_GM_winding_136 rfl (Nat.le_of_ble_eq_true rfl) rfl ?_
          refine jt_goto (t := 6) d_GM_winding_139 rfl ?_
          refine jt_sub (L' := [(0, .ref m), (1, .long (jL x)), (3, .long (jL y)), (5, .int (jI n)), (6, .int (jI (k + 1)))]) (fun _ h => List.mem_append_left [(7, Value.long (jL v115))] h) ?_
          exact ih n (k + 1) J B hJ (by omega) (by omega) (by omega) (by omega) (by omega)
        · skip
          refine jt_lload_n d_GM_winding_114 rfl ?_
          refine jt_aload_n d_GM_winding_115 rfl ?_
          refine gm_gA (k := 41) (a := m + 26) d_GM_winding_116 GM_f136 (by decide) (by decide) rfl ?_
          refine jt_iload d_GM_winding_119 rfl ?_
          refine gm_ld1 (k := 41) (n := 110) (v := (B 41) k) d_GM_winding_121 rfl (by decide) (by decide) rfl rfl (by omega) (by omega) (by omega) rfl ?_
          refine jt_topl (fun v120 ev120 => ?_)
          have bv120 : (-9223372036854775808) ≤ v120 ∧ v120 ≤ 9223372036854775807 := by rw [ev120]; exact hJ.2.1 41 k
          refine jt_lif_ge (t := 136) d_GM_winding_122 d_GM_winding_123 rfl (by unfold jRl; omega) (by unfold jRl; omega) (fun c121 => ?_) (fun c121 => ?_)
          · skip
            refine jt_iinc (L' := [(0, .ref m), (1, .long (jL x)), (3, .long (jL y)), (5, .int (jI n)), (6, .int (jI (k + 1))), (7, .long (jL v115))]) d_GM_winding_136 rfl (Nat.le_of_ble_eq_true rfl) rfl ?_
            refine jt_goto (t := 6) d_GM_winding_139 rfl ?_
            refine jt_sub (L' := [(0, .ref m), (1, .long (jL x)), (3, .long (jL y)), (5, .int (jI n)), (6, .int (jI (k + 1)))]) (fun _ h => List.mem_append_left [(7, Value.long (jL v115))] h) ?_
            exact ih n (k + 1) J B hJ (by omega) (by omega) (by omega) (by omega) (by omega)
          · skip
            refine jt_lload d_GM_winding_126 rfl ?_
            refine jt_lconst (z := 0) d_GM_winding_128 (by decide) ?_
            refine jt_lif_ge (t := 136) d_GM_winding_129 d_GM_winding_130 rfl (by unfold jRl; omega) (by unfold jRl; omega) (fun c122 => ?_) (fun c122 => ?_)
            · skip
              refine jt_iinc (L' := [(0, .ref m), (1, .long (jL x)), (3, .long (jL y)), (5, .int (jI n)), (6, .int (jI (k + 1))), (7, .long (jL v115))]) d_GM_winding_136 rfl (Nat.le_of_ble_eq_true rfl) rfl ?_
              refine jt_goto (t := 6) d_GM_winding_139 rfl ?_
              refine jt_sub (L' := [(0, .ref m), (1, .long (jL x)), (3, .long (jL y)), (5, .int (jI n)), (6, .int (jI (k + 1)))]) (fun _ h => List.mem_append_left [(7, Value.long (jL v115))] h) ?_
              exact ih n (k + 1) J B hJ (by omega) (by omega) (by omega) (by omega) (by omega)
            · skip
              refine jt_iinc (L' := [(0, .ref m), (1, .long (jL x)), (3, .long (jL y)), (5, .int (jI (n + (-1)))), (6, .int (jI k)), (7, .long (jL v115))]) d_GM_winding_133 rfl (Nat.le_of_ble_eq_true rfl) rfl ?_
              refine jt_iinc (L' := [(0, .ref m), (1, .long (jL x)), (3, .long (jL y)), (5, .int (jI (n + (-1)))), (6, .int (jI (k + 1))), (7, .long (jL v115))]) d_GM_winding_136 rfl (Nat.le_of_ble_eq_true rfl) rfl ?_
              refine jt_goto (t := 6) d_GM_winding_139 rfl ?_
              refine jt_sub (L' := [(0, .ref m), (1, .long (jL x)), (3, .long (jL y)), (5, .int (jI (n + (-1)))), (6, .int (jI (k + 1)))]) (fun _ h => List.mem_append_left [(7, Value.long (jL v115))] h) ?_
              exact ih (n + (-1)) (k + 1) J B hJ (by omega) (by omega) (by omega) (by omega) (by omega)
      · skip
        refine jt_lload_n d_GM_winding_80 rfl ?_
        refine jt_aload_n d_GM_winding_81 rfl ?_
        refine gm_gA (k := 43) (a := m + 28) d_GM_winding_82 GM_f142 (by decide) (by decide) rfl ?_
        refine jt_iload d_GM_winding_85 rfl ?_
        refine gm_ld1 (k := 43) (n := 110) (v := (B 43) k) d_GM_winding_87 rfl (by decide) (by decide) rfl rfl (by omega) (by omega) (by omega) rfl ?_
        refine jt_topl (fun v123 ev123 => ?_)
        have bv123 : (-9223372036854775808) ≤ v123 ∧ v123 ≤ 9223372036854775807 := by rw [ev123]; exact hJ.2.1 43 k
        refine jt_lif_ge (t := 102) d_GM_winding_88 d_GM_winding_89 rfl (by unfold jRl; omega) (by unfold jRl; omega) (fun c124 => ?_) (fun c124 => ?_)
        · skip
          refine jt_aload_n d_GM_winding_102 rfl ?_
          refine gm_gA (k := 43) (a := m + 28) d_GM_winding_103 GM_f142 (by decide) (by decide) rfl ?_
          refine jt_iload d_GM_winding_106 rfl ?_
          refine gm_ld1 (k := 43) (n := 110) (v := (B 43) k) d_GM_winding_108 rfl (by decide) (by decide) rfl rfl (by omega) (by omega) (by omega) rfl ?_
          refine jt_topl (fun v125 ev125 => ?_)
          have bv125 : (-9223372036854775808) ≤ v125 ∧ v125 ≤ 9223372036854775807 := by rw [ev125]; exact hJ.2.1 43 k
          refine jt_lload_n d_GM_winding_109 rfl ?_
          refine jt_lif_gt (t := 136) d_GM_winding_110 d_GM_winding_111 rfl (by unfold jRl; omega) (by unfold jRl; omega) (fun c126 => ?_) (fun c126 => ?_)
          · skip
            refine jt_iinc (L' := [(0, .ref m), (1, .long (jL x)), (3, .long (jL y)), (5, .int (jI n)), (6, .int (jI (k + 1))), (7, .long (jL v115))]) d_GM_winding_136 rfl (Nat.le_of_ble_eq_true rfl) rfl ?_
            refine jt_goto (t := 6) d_GM_winding_139 rfl ?_
            refine jt_sub (L' := [(0, .ref m), (1, .long (jL x)), (3, .long (jL y)), (5, .int (jI n)), (6, .int (jI (k + 1)))]) (fun _ h => List.mem_append_left [(7, Value.long (jL v115))] h) ?_
            exact ih n (k + 1) J B hJ (by omega) (by omega) (by omega) (by omega) (by omega)
          · skip
            refine jt_lload_n d_GM_winding_114 rfl ?_
            refine jt_aload_n d_GM_winding_115 rfl ?_
            refine gm_gA (k := 41) (a := m + 26) d_GM_winding_116 GM_f136 (by decide) (by decide) rfl ?_
            refine jt_iload d_GM_winding_119 rfl ?_
            refine gm_ld1 (k := 41) (n := 110) (v := (B 41) k) d_GM_winding_121 rfl (by decide) (by decide) rfl rfl (by omega) (by omega) (by omega) rfl ?_
            refine jt_topl (fun v127 ev127 => ?_)
            have bv127 : (-9223372036854775808) ≤ v127 ∧ v127 ≤ 9223372036854775807 := by rw [ev127]; exact hJ.2.1 41 k
            refine jt_lif_ge (t := 136) d_GM_winding_122 d_GM_winding_123 rfl (by unfold jRl; omega) (by unfold jRl; omega) (fun c128 => ?_) (fun c128 => ?_)
            · skip
              refine jt_iinc (L' := [(0, .ref m), (1, .long (jL x)), (3, .long (jL y)), (5, .int (jI n)), (6, .int (jI (k + 1))), (7, .long (jL v115))]) d_GM_winding_136 rfl (Nat.le_of_ble_eq_true rfl) rfl ?_
              refine jt_goto (t := 6) d_GM_winding_139 rfl ?_
              refine jt_sub (L' := [(0, .ref m), (1, .long (jL x)), (3, .long (jL y)), (5, .int (jI n)), (6, .int (jI (k + 1)))]) (fun _ h => List.mem_append_left [(7, Value.long (jL v115))] h) ?_
              exact ih n (k + 1) J B hJ (by omega) (by omega) (by omega) (by omega) (by omega)
            · skip
              refine jt_lload d_GM_winding_126 rfl ?_
              refine jt_lconst (z := 0) d_GM_winding_128 (by decide) ?_
              refine jt_lif_ge (t := 136) d_GM_winding_129 d_GM_winding_130 rfl (by unfold jRl; omega) (by unfold jRl; omega) (fun c129 => ?_) (fun c129 => ?_)
              · skip
                refine jt_iinc (L' := [(0, .ref m), (1, .long (jL x)), (3, .long (jL y)), (5, .int (jI n)), (6, .int (jI (k + 1))), (7, .long (jL v115))]) d_GM_winding_136 rfl (Nat.le_of_ble_eq_true rfl) rfl ?_
                refine jt_goto (t := 6) d_GM_winding_139 rfl ?_
                refine jt_sub (L' := [(0, .ref m), (1, .long (jL x)), (3, .long (jL y)), (5, .int (jI n)), (6, .int (jI (k + 1)))]) (fun _ h => List.mem_append_left [(7, Value.long (jL v115))] h) ?_
                exact ih n (k + 1) J B hJ (by omega) (by omega) (by omega) (by omega) (by omega)
              · skip
                refine jt_iinc (L' := [(0, .ref m), (1, .long (jL x)), (3, .long (jL y)), (5, .int (jI (n + (-1)))), (6, .int (jI k)), (7, .long (jL v115))]) d_GM_winding_133 rfl (Nat.le_of_ble_eq_true rfl) rfl ?_
                refine jt_iinc (L' := [(0, .ref m), (1, .long (jL x)), (3, .long (jL y)), (5, .int (jI (n + (-1)))), (6, .int (jI (k + 1))), (7, .long (jL v115))]) d_GM_winding_136 rfl (Nat.le_of_ble_eq_true rfl) rfl ?_
                refine jt_goto (t := 6) d_GM_winding_139 rfl ?_
                refine jt_sub (L' := [(0, .ref m), (1, .long (jL x)), (3, .long (jL y)), (5, .int (jI (n + (-1)))), (6, .int (jI (k + 1)))]) (fun _ h => List.mem_append_left [(7, Value.long (jL v115))] h) ?_
                exact ih (n + (-1)) (k + 1) J B hJ (by omega) (by omega) (by omega) (by omega) (by omega)
        · skip
          refine jt_lload d_GM_winding_92 rfl ?_
          refine jt_lconst (z := 0) d_GM_winding_94 (by decide) ?_
          refine jt_lif_le (t := 102) d_GM_winding_95 d_GM_winding_96 rfl (by unfold jRl; omega) (by unfold jRl; omega) (fun c130 => ?_) (fun c130 => ?_)
          · skip
            refine jt_aload_n d_GM_winding_102 rfl ?_
            refine gm_gA (k := 43) (a := m + 28) d_GM_winding_103 GM_f142 (by decide) (by decide) rfl ?_
            refine jt_iload d_GM_winding_106 rfl ?_
            refine gm_ld1 (k := 43) (n := 110) (v := (B 43) k) d_GM_winding_108 rfl (by decide) (by decide) rfl rfl (by omega) (by omega) (by omega) rfl ?_
            refine jt_topl (fun v131 ev131 => ?_)
            have bv131 : (-9223372036854775808) ≤ v131 ∧ v131 ≤ 9223372036854775807 := by rw [ev131]; exact hJ.2.1 43 k
            refine jt_lload_n d_GM_winding_109 rfl ?_
            refine jt_lif_gt (t := 136) d_GM_winding_110 d_GM_winding_111 rfl (by unfold jRl; omega) (by unfold jRl; omega) (fun c132 => ?_) (fun c132 => ?_)
            · skip
              refine jt_iinc (L' := [(0, .ref m), (1, .long (jL x)), (3, .long (jL y)), (5, .int (jI n)), (6, .int (jI (k + 1))), (7, .long (jL v115))]) d_GM_winding_136 rfl (Nat.le_of_ble_eq_true rfl) rfl ?_
              refine jt_goto (t := 6) d_GM_winding_139 rfl ?_
              refine jt_sub (L' := [(0, .ref m), (1, .long (jL x)), (3, .long (jL y)), (5, .int (jI n)), (6, .int (jI (k + 1)))]) (fun _ h => List.mem_append_left [(7, Value.long (jL v115))] h) ?_
              exact ih n (k + 1) J B hJ (by omega) (by omega) (by omega) (by omega) (by omega)
            · skip
              refine jt_lload_n d_GM_winding_114 rfl ?_
              refine jt_aload_n d_GM_winding_115 rfl ?_
              refine gm_gA (k := 41) (a := m + 26) d_GM_winding_116 GM_f136 (by decide) (by decide) rfl ?_
              refine jt_iload d_GM_winding_119 rfl ?_
              refine gm_ld1 (k := 41) (n := 110) (v := (B 41) k) d_GM_winding_121 rfl (by decide) (by decide) rfl rfl (by omega) (by omega) (by omega) rfl ?_
              refine jt_topl (fun v133 ev133 => ?_)
              have bv133 : (-9223372036854775808) ≤ v133 ∧ v133 ≤ 9223372036854775807 := by rw [ev133]; exact hJ.2.1 41 k
              refine jt_lif_ge (t := 136) d_GM_winding_122 d_GM_winding_123 rfl (by unfold jRl; omega) (by unfold jRl; omega) (fun c134 => ?_) (fun c134 => ?_)
              · skip
                refine jt_iinc (L' := [(0, .ref m), (1, .long (jL x)), (3, .long (jL y)), (5, .int (jI n)), (6, .int (jI (k + 1))), (7, .long (jL v115))]) d_GM_winding_136 rfl (Nat.le_of_ble_eq_true rfl) rfl ?_
                refine jt_goto (t := 6) d_GM_winding_139 rfl ?_
                refine jt_sub (L' := [(0, .ref m), (1, .long (jL x)), (3, .long (jL y)), (5, .int (jI n)), (6, .int (jI (k + 1)))]) (fun _ h => List.mem_append_left [(7, Value.long (jL v115))] h) ?_
                exact ih n (k + 1) J B hJ (by omega) (by omega) (by omega) (by omega) (by omega)
              · skip
                refine jt_lload d_GM_winding_126 rfl ?_
                refine jt_lconst (z := 0) d_GM_winding_128 (by decide) ?_
                refine jt_lif_ge (t := 136) d_GM_winding_129 d_GM_winding_130 rfl (by unfold jRl; omega) (by unfold jRl; omega) (fun c135 => ?_) (fun c135 => ?_)
                · skip
                  refine jt_iinc (L' := [(0, .ref m), (1, .long (jL x)), (3, .long (jL y)), (5, .int (jI n)), (6, .int (jI (k + 1))), (7, .long (jL v115))]) d_GM_winding_136 rfl (Nat.le_of_ble_eq_true rfl) rfl ?_
                  refine jt_goto (t := 6) d_GM_winding_139 rfl ?_
                  refine jt_sub (L' := [(0, .ref m), (1, .long (jL x)), (3, .long (jL y)), (5, .int (jI n)), (6, .int (jI (k + 1)))]) (fun _ h => List.mem_append_left [(7, Value.long (jL v115))] h) ?_
                  exact ih n (k + 1) J B hJ (by omega) (by omega) (by omega) (by omega) (by omega)
                · skip
                  refine jt_iinc (L' := [(0, .ref m), (1, .long (jL x)), (3, .long (jL y)), (5, .int (jI (n + (-1)))), (6, .int (jI k)), (7, .long (jL v115))]) d_GM_winding_133 rfl (Nat.le_of_ble_eq_true rfl) rfl ?_
                  refine jt_iinc (L' := [(0, .ref m), (1, .long (jL x)), (3, .long (jL y)), (5, .int (jI (n + (-1)))), (6, .int (jI (k + 1))), (7, .long (jL v115))]) d_GM_winding_136 rfl (Nat.le_of_ble_eq_true rfl) rfl ?_
                  refine jt_goto (t := 6) d_GM_winding_139 rfl ?_
                  refine jt_sub (L' := [(0, .ref m), (1, .long (jL x)), (3, .long (jL y)), (5, .int (jI (n + (-1)))), (6, .int (jI (k + 1)))]) (fun _ h => List.mem_append_left [(7, Value.long (jL v115))] h) ?_
                  exact ih (n + (-1)) (k + 1) J B hJ (by omega) (by omega) (by omega) (by omega) (by omega)
          · skip
            refine jt_iinc (L' := [(0, .ref m), (1, .long (jL x)), (3, .long (jL y)), (5, .int (jI (n + 1))), (6, .int (jI k)), (7, .long (jL v115))]) d_GM_winding_99 rfl (Nat.le_of_ble_eq_true rfl) rfl ?_
            refine jt_aload_n d_GM_winding_102 rfl ?_
            refine gm_gA (k := 43) (a := m + 28) d_GM_winding_103 GM_f142 (by decide) (by decide) rfl ?_
            refine jt_iload d_GM_winding_106 rfl ?_
            refine gm_ld1 (k := 43) (n := 110) (v := (B 43) k) d_GM_winding_108 rfl (by decide) (by decide) rfl rfl (by omega) (by omega) (by omega) rfl ?_
            refine jt_topl (fun v136 ev136 => ?_)
            have bv136 : (-9223372036854775808) ≤ v136 ∧ v136 ≤ 9223372036854775807 := by rw [ev136]; exact hJ.2.1 43 k
            refine jt_lload_n d_GM_winding_109 rfl ?_
            refine jt_lif_gt (t := 136) d_GM_winding_110 d_GM_winding_111 rfl (by unfold jRl; omega) (by unfold jRl; omega) (fun c137 => ?_) (fun c137 => ?_)
            · skip
              refine jt_iinc (L' := [(0, .ref m), (1, .long (jL x)), (3, .long (jL y)), (5, .int (jI (n + 1))), (6, .int (jI (k + 1))), (7, .long (jL v115))]) d_GM_winding_136 rfl (Nat.le_of_ble_eq_true rfl) rfl ?_
              refine jt_goto (t := 6) d_GM_winding_139 rfl ?_
              refine jt_sub (L' := [(0, .ref m), (1, .long (jL x)), (3, .long (jL y)), (5, .int (jI (n + 1))), (6, .int (jI (k + 1)))]) (fun _ h => List.mem_append_left [(7, Value.long (jL v115))] h) ?_
              exact ih (n + 1) (k + 1) J B hJ (by omega) (by omega) (by omega) (by omega) (by omega)
            · skip
              refine jt_lload_n d_GM_winding_114 rfl ?_
              refine jt_aload_n d_GM_winding_115 rfl ?_
              refine gm_gA (k := 41) (a := m + 26) d_GM_winding_116 GM_f136 (by decide) (by decide) rfl ?_
              refine jt_iload d_GM_winding_119 rfl ?_
              refine gm_ld1 (k := 41) (n := 110) (v := (B 41) k) d_GM_winding_121 rfl (by decide) (by decide) rfl rfl (by omega) (by omega) (by omega) rfl ?_
              refine jt_topl (fun v138 ev138 => ?_)
              have bv138 : (-9223372036854775808) ≤ v138 ∧ v138 ≤ 9223372036854775807 := by rw [ev138]; exact hJ.2.1 41 k
              refine jt_lif_ge (t := 136) d_GM_winding_122 d_GM_winding_123 rfl (by unfold jRl; omega) (by unfold jRl; omega) (fun c139 => ?_) (fun c139 => ?_)
              · skip
                refine jt_iinc (L' := [(0, .ref m), (1, .long (jL x)), (3, .long (jL y)), (5, .int (jI (n + 1))), (6, .int (jI (k + 1))), (7, .long (jL v115))]) d_GM_winding_136 rfl (Nat.le_of_ble_eq_true rfl) rfl ?_
                refine jt_goto (t := 6) d_GM_winding_139 rfl ?_
                refine jt_sub (L' := [(0, .ref m), (1, .long (jL x)), (3, .long (jL y)), (5, .int (jI (n + 1))), (6, .int (jI (k + 1)))]) (fun _ h => List.mem_append_left [(7, Value.long (jL v115))] h) ?_
                exact ih (n + 1) (k + 1) J B hJ (by omega) (by omega) (by omega) (by omega) (by omega)
              · skip
                refine jt_lload d_GM_winding_126 rfl ?_
                refine jt_lconst (z := 0) d_GM_winding_128 (by decide) ?_
                refine jt_lif_ge (t := 136) d_GM_winding_129 d_GM_winding_130 rfl (by unfold jRl; omega) (by unfold jRl; omega) (fun c140 => ?_) (fun c140 => ?_)
                · skip
                  refine jt_iinc (L' := [(0, .ref m), (1, .long (jL x)), (3, .long (jL y)), (5, .int (jI (n + 1))), (6, .int (jI (k + 1))), (7, .long (jL v115))]) d_GM_winding_136 rfl (Nat.le_of_ble_eq_true rfl) rfl ?_
                  refine jt_goto (t := 6) d_GM_winding_139 rfl ?_
                  refine jt_sub (L' := [(0, .ref m), (1, .long (jL x)), (3, .long (jL y)), (5, .int (jI (n + 1))), (6, .int (jI (k + 1)))]) (fun _ h => List.mem_append_left [(7, Value.long (jL v115))] h) ?_
                  exact ih (n + 1) (k + 1) J B hJ (by omega) (by omega) (by omega) (by omega) (by omega)
                · skip
                  refine jt_iinc (L' := [(0, .ref m), (1, .long (jL x)), (3, .long (jL y)), (5, .int (jI ((n + 1) + (-1)))), (6, .int (jI k)), (7, .long (jL v115))]) d_GM_winding_133 rfl (Nat.le_of_ble_eq_true rfl) rfl ?_
                  refine jt_iinc (L' := [(0, .ref m), (1, .long (jL x)), (3, .long (jL y)), (5, .int (jI ((n + 1) + (-1)))), (6, .int (jI (k + 1))), (7, .long (jL v115))]) d_GM_winding_136 rfl (Nat.le_of_ble_eq_true rfl) rfl ?_
                  refine jt_goto (t := 6) d_GM_winding_139 rfl ?_
                  refine jt_sub (L' := [(0, .ref m), (1, .long (jL x)), (3, .long (jL y)), (5, .int (jI ((n + 1) + (-1)))), (6, .int (jI (k + 1)))]) (fun _ h => List.mem_append_left [(7, Value.long (jL v115))] h) ?_
                  exact ih ((n + 1) + (-1)) (k + 1) J B hJ (by omega) (by omega) (by omega) (by omega) (by omega)
set_option maxRecDepth 100000 in
set_option maxHeartbeats 1000000 in
theorem w_GM_winding (G : jG) (d m : Nat) (x : Int) (y : Int) (I : Nat → Int) (A : Nat → Int → Int) (hI : gSI I) (hA : gSA A) (hx : -9223372036854775808 ≤ x ∧ x ≤ 9223372036854775807) (hy : -9223372036854775808 ≤ y ∧ y ≤ 9223372036854775807) : gct G Y_GM_winding d m [.long (jL x), .long (jL y)] I A (fun (rv : Option Value) (I2 : Nat → Int) (A2 : Nat → Int → Int) => ∃ w : Int, rv = some (.int (jI w)) ∧ (-110 ≤ w ∧ w ≤ 110) ∧ gPo [] [] I A I2 A2) := by
  refine gct_of (by decide) (Nat.le_of_ble_eq_true rfl) (fun f0 sz => ?_)
  show jt _ 0 [(0, .ref m), (1, .long (jL x)), (3, .long (jL y))] [] _ _ _ _
  have hz0 : gPo [] [] I A I A := gPo.refl hI hA
  refine jt_iconst d_GM_winding_0 ?_
  refine jt_istore (L' := [(0, .ref m), (1, .long (jL x)), (3, .long (jL y)), (5, .int (jI 0))]) d_GM_winding_1 (Nat.le_of_ble_eq_true rfl) rfl ?_
  refine jt_iconst d_GM_winding_3 ?_
  refine jt_istore (L' := [(0, .ref m), (1, .long (jL x)), (3, .long (jL y)), (5, .int (jI 0)), (6, .int (jI 0))]) d_GM_winding_4 (Nat.le_of_ble_eq_true rfl) rfl ?_
  exact l6_GM_windingw G d m x y I A hI hA hx hy f0 sz  111 0 0 I A hz0 (by omega) ((hz0.1 10).1) (by omega) (by omega) (by omega)
set_option maxRecDepth 100000 in
set_option maxHeartbeats 1000000 in
theorem l66_GM_makePiecesw (G : jG) (d m : Nat)  (I : Nat → Int) (A : Nat → Int → Int) (hI : gSI I) (hA : gSA A) (hl : 0 ≤ I 12 ∧ I 12 ≤ 12) (f0 : jF) (sz : Nat) (k : Int) (l : Int) (k0 : 0 ≤ k) (k1 : k ≤ 3 * (l - 1)) (l0 : 1 ≤ l) (l1 : l ≤ 12) (hout : ∀ (t : Int) (J : Nat → Int) (B : Nat → Int → Int), gPo [10] [40, 41, 42, 43] I A J B → (0 ≤ t) → (t ≤ 8) → (0 ≤ J 10) → (J 10 ≤ 8 * (l - 1) + t) → jt (jm G Y_GM_makePieces (gR (d + 1)) (gQ m f0 sz (fun (rv : Option Value) (I2 : Nat → Int) (A2 : Nat → Int → Int) => rv = none ∧ gPo [10] [40, 41, 42, 43] I A I2 A2))) 114 [(0, .ref m), (1, .int (jI k)), (2, .int (jI l)), (3, .int (jI t))] [] (gmf m f0 J B) sz 0 0) : ∀ (n9 : Nat) (t : Int) (J : Nat → Int) (B : Nat → Int → Int), gPo [10] [40, 41, 42, 43] I A J B → (0 ≤ t) → (t ≤ 8) → (0 ≤ J 10) → (J 10 ≤ 8 * (l - 1) + t) → 8 - t < (n9 : Int) → jt (jm G Y_GM_makePieces (gR (d + 1)) (gQ m f0 sz (fun (rv : Option Value) (I2 : Nat → Int) (A2 : Nat → Int → Int) => rv = none ∧ gPo [10] [40, 41, 42, 43] I A I2 A2))) 66 [(0, .ref m), (1, .int (jI k)), (2, .int (jI l)), (3, .int (jI t))] [] (gmf m f0 J B) sz 0 0 := by
  intro n9
  induction n9 with
  | zero =>
    intro t J B hJ t0 t1 p0 p1 hmeas
    exfalso
    omega
  | succ n9 ih =>
    intro t J B hJ t0 t1 p0 p1 hmeas
    refine jt_iload_n d_GM_makePieces_66 rfl ?_
    refine jt_bipush d_GM_makePieces_67 (by omega) ?_
    refine jt_icmp_ge (t := 114) d_GM_makePieces_69 rfl (by unfold jRi; omega) (by unfold jRi; omega) (fun c101 => ?_) (fun c101 => ?_)
    · skip
      exact hout t J B hJ t0 t1 p0 p1 
    · skip
      refine jt_aload_n d_GM_makePieces_72 rfl ?_
      refine jt_aload_n d_GM_makePieces_73 rfl ?_
      refine jt_iload_n d_GM_makePieces_74 rfl ?_
      refine jt_iconst d_GM_makePieces_75 ?_
      refine jt_iload_n d_GM_makePieces_76 rfl ?_
      refine gct_call (Y := Y_GM_bend) (As := [.int (jI k), .int (jI 0), .int (jI t)]) (rest := [.ref m]) d_GM_makePieces_77 GM_c282 yk_GM_bend yv_GM_bend rfl (Nat.le_of_ble_eq_true rfl) rfl rfl (Nat.le_of_ble_eq_true rfl) (c_GM_bend G _ m k 0 t J B (by omega) (by omega) (by omega) (by omega) (by omega) (by omega)) (fun rvq102 Iq102 Aq102 hq102 => ?_)
      obtain ⟨rfl, hIq102, hAq102⟩ := hq102
      rw [hIq102, hAq102]
      show jt _ 80 [(0, .ref m), (1, .int (jI k)), (2, .int (jI l)), (3, .int (jI t))] [.long (jL ((8 - t) * (8 - t) * (8 - t) * (B 39) (2 * k + 0) + 3 * (8 - t) * (8 - t) * t * (B 39) (2 * k + 2 + 0) + 3 * (8 - t) * t * t * (B 39) (2 * k + 4 + 0) + t * t * t * (B 39) (2 * k + 6 + 0))), .ref m] (gmf m f0 J B) _ _ _
      refine jt_toplw (fun v103 bv103 => ?_)
      refine jt_aload_n d_GM_makePieces_80 rfl ?_
      refine jt_iload_n d_GM_makePieces_81 rfl ?_
      refine jt_iconst d_GM_makePieces_82 ?_
      refine jt_iload_n d_GM_makePieces_83 rfl ?_
      refine gct_call (Y := Y_GM_bend) (As := [.int (jI k), .int (jI 1), .int (jI t)]) (rest := [.long (jL v103), .ref m]) d_GM_makePieces_84 GM_c282 yk_GM_bend yv_GM_bend rfl (Nat.le_of_ble_eq_true rfl) rfl rfl (Nat.le_of_ble_eq_true rfl) (c_GM_bend G _ m k 1 t J B (by omega) (by omega) (by omega) (by omega) (by omega) (by omega)) (fun rvq104 Iq104 Aq104 hq104 => ?_)
      obtain ⟨rfl, hIq104, hAq104⟩ := hq104
      rw [hIq104, hAq104]
      show jt _ 87 [(0, .ref m), (1, .int (jI k)), (2, .int (jI l)), (3, .int (jI t))] [.long (jL ((8 - t) * (8 - t) * (8 - t) * (B 39) (2 * k + 1) + 3 * (8 - t) * (8 - t) * t * (B 39) (2 * k + 2 + 1) + 3 * (8 - t) * t * t * (B 39) (2 * k + 4 + 1) + t * t * t * (B 39) (2 * k + 6 + 1))), .long (jL v103), .ref m] (gmf m f0 J B) _ _ _
      refine jt_toplw (fun v105 bv105 => ?_)
      refine jt_aload_n d_GM_makePieces_87 rfl ?_
      refine jt_iload_n d_GM_makePieces_88 rfl ?_
      refine jt_iconst d_GM_makePieces_89 ?_
      refine jt_iload_n d_GM_makePieces_90 rfl ?_
      refine jt_iconst d_GM_makePieces_91 ?_
      refine jt_iadd d_GM_makePieces_92 ?_
      refine gct_call (Y := Y_GM_bend) (As := [.int (jI k), .int (jI 0), .int (jI (t + 1))]) (rest := [.long (jL v105), .long (jL v103), .ref m]) d_GM_makePieces_93 GM_c282 yk_GM_bend yv_GM_bend rfl (Nat.le_of_ble_eq_true rfl) rfl rfl (Nat.le_of_ble_eq_true rfl) (c_GM_bend G _ m k 0 (t + 1) J B (by omega) (by omega) (by omega) (by omega) (by omega) (by omega)) (fun rvq106 Iq106 Aq106 hq106 => ?_)
      obtain ⟨rfl, hIq106, hAq106⟩ := hq106
      rw [hIq106, hAq106]
      show jt _ 96 [(0, .ref m), (1, .int (jI k)), (2, .int (jI l)), (3, .int (jI t))] [.long (jL ((8 - (t + 1)) * (8 - (t + 1)) * (8 - (t + 1)) * (B 39) (2 * k + 0) + 3 * (8 - (t + 1)) * (8 - (t + 1)) * (t + 1) * (B 39) (2 * k + 2 + 0) + 3 * (8 - (t + 1)) * (t + 1) * (t + 1) * (B 39) (2 * k + 4 + 0) + (t + 1) * (t + 1) * (t + 1) * (B 39) (2 * k + 6 + 0))), .long (jL v105), .long (jL v103), .ref m] (gmf m f0 J B) _ _ _
      refine jt_toplw (fun v107 bv107 => ?_)
      refine jt_aload_n d_GM_makePieces_96 rfl ?_
      refine jt_iload_n d_GM_makePieces_97 rfl ?_
      refine jt_iconst d_GM_makePieces_98 ?_
      refine jt_iload_n d_GM_makePieces_99 rfl ?_
      refine jt_iconst d_GM_makePieces_100 ?_
      refine jt_iadd d_GM_makePieces_101 ?_
      refine gct_call (Y := Y_GM_bend) (As := [.int (jI k), .int (jI 1), .int (jI (t + 1))]) (rest := [.long (jL v107), .long (jL v105), .long (jL v103), .ref m]) d_GM_makePieces_102 GM_c282 yk_GM_bend yv_GM_bend rfl (Nat.le_of_ble_eq_true rfl) rfl rfl (Nat.le_of_ble_eq_true rfl) (c_GM_bend G _ m k 1 (t + 1) J B (by omega) (by omega) (by omega) (by omega) (by omega) (by omega)) (fun rvq108 Iq108 Aq108 hq108 => ?_)
      obtain ⟨rfl, hIq108, hAq108⟩ := hq108
      rw [hIq108, hAq108]
      show jt _ 105 [(0, .ref m), (1, .int (jI k)), (2, .int (jI l)), (3, .int (jI t))] [.long (jL ((8 - (t + 1)) * (8 - (t + 1)) * (8 - (t + 1)) * (B 39) (2 * k + 1) + 3 * (8 - (t + 1)) * (8 - (t + 1)) * (t + 1) * (B 39) (2 * k + 2 + 1) + 3 * (8 - (t + 1)) * (t + 1) * (t + 1) * (B 39) (2 * k + 4 + 1) + (t + 1) * (t + 1) * (t + 1) * (B 39) (2 * k + 6 + 1))), .long (jL v107), .long (jL v105), .long (jL v103), .ref m] (gmf m f0 J B) _ _ _
      refine jt_toplw (fun v109 bv109 => ?_)
      refine gct_call (Y := Y_GM_piece) (As := [.long (jL v103), .long (jL v105), .long (jL v107), .long (jL v109)]) (rest := []) d_GM_makePieces_105 GM_c278 yk_GM_piece yv_GM_piece rfl (Nat.le_of_ble_eq_true rfl) rfl rfl (Nat.le_of_ble_eq_true rfl) (c_GM_piece G _ m v103 v105 v107 v109 J B (show 0 ≤ J 10 by omega) (show J 10 < 110 by omega)) (fun rvq110 Iq110 Aq110 hq110 => ?_)
      obtain ⟨rfl, hIq110, hAq110⟩ := hq110
      rw [hIq110, hAq110]
      have p111 := gPo.I 10 ((J 10) + 1) hJ rfl (show 0 ≤ (J 10) + 1 ∧ (J 10) + 1 ≤ 110 by omega)
      have p112 := gPo.A 40 (ju (B 40) (J 10) v103) p111 rfl (gju (p111.2.1 40) (show -9223372036854775808 ≤ v103 ∧ v103 ≤ 9223372036854775807 by omega))
      have p113 := gPo.A 41 (ju (B 41) (J 10) v105) p112 rfl (gju (p112.2.1 41) (show -9223372036854775808 ≤ v105 ∧ v105 ≤ 9223372036854775807 by omega))
      have p114 := gPo.A 42 (ju (B 42) (J 10) v107) p113 rfl (gju (p113.2.1 42) (show -9223372036854775808 ≤ v107 ∧ v107 ≤ 9223372036854775807 by omega))
      have p115 := gPo.A 43 (ju (B 43) (J 10) v109) p114 rfl (gju (p114.2.1 43) (show -9223372036854775808 ≤ v109 ∧ v109 ≤ 9223372036854775807 by omega))
      show jt _ 108 [(0, .ref m), (1, .int (jI k)), (2, .int (jI l)), (3, .int (jI t))] [] (gmf m f0 (va_up J 10 ((J 10) + 1)) (va_up (va_up (va_up (va_up B 40 (ju (B 40) (J 10) v103)) 41 (ju (B 41) (J 10) v105)) 42 (ju (B 42) (J 10) v107)) 43 (ju (B 43) (J 10) v109))) _ _ _
      refine jt_iinc (L' := [(0, .ref m), (1, .int (jI k)), (2, .int (jI l)), (3, .int (jI (t + 1)))]) d_GM_makePieces_108 rfl (Nat.le_of_ble_eq_true rfl) rfl ?_
      refine jt_goto (t := 66) d_GM_makePieces_111 rfl ?_
      exact ih (t + 1) (va_up J 10 ((J 10) + 1)) (va_up (va_up (va_up (va_up B 40 (ju (B 40) (J 10) v103)) 41 (ju (B 41) (J 10) v105)) 42 (ju (B 42) (J 10) v107)) 43 (ju (B 43) (J 10) v109)) p115 (by omega) (by omega) (show 0 ≤ (J 10) + 1 by omega) (show (J 10) + 1 ≤ 8 * (l - 1) + (t + 1) by omega) (by omega)
set_option maxRecDepth 100000 in
set_option maxHeartbeats 1000000 in
theorem l9_GM_makePiecesw (G : jG) (d m : Nat)  (I : Nat → Int) (A : Nat → Int → Int) (hI : gSI I) (hA : gSA A) (hl : 0 ≤ I 12 ∧ I 12 ≤ 12) (f0 : jF) (sz : Nat)  : ∀ (n9 : Nat) (k : Int) (l : Int) (J : Nat → Int) (B : Nat → Int → Int), gPo [10] [40, 41, 42, 43] I A J B → (1 ≤ l) → (l ≤ 13) → (0 ≤ k) → (k ≤ 3 * (l - 1)) → (0 ≤ J 10) → (J 10 ≤ 8 * (l - 1)) → 13 - l < (n9 : Int) → jt (jm G Y_GM_makePieces (gR (d + 1)) (gQ m f0 sz (fun (rv : Option Value) (I2 : Nat → Int) (A2 : Nat → Int → Int) => rv = none ∧ gPo [10] [40, 41, 42, 43] I A I2 A2))) 9 [(0, .ref m), (1, .int (jI k)), (2, .int (jI l))] [] (gmf m f0 J B) sz 0 0 := by
  intro n9
  induction n9 with
  | zero =>
    intro k l J B hJ l0 l1 k0 k1 p0 p1 hmeas
    have f12 : J 12 = I 12 := hJ.2.2.1 12 rfl
    exfalso
    omega
  | succ n9 ih =>
    intro k l J B hJ l0 l1 k0 k1 p0 p1 hmeas
    have f12 : J 12 = I 12 := hJ.2.2.1 12 rfl
    refine jt_iload_n d_GM_makePieces_9 rfl ?_
    refine jt_aload_n d_GM_makePieces_10 rfl ?_
    refine gm_gI (k := 12) (v := J 12) d_GM_makePieces_11 GM_f46 (by decide) rfl ?_
    have rb201 : 0 ≤ J 12 ∧ J 12 ≤ 300 := hJ.1 12
    refine jt_icmp_gt (t := 123) d_GM_makePieces_14 rfl (by unfold jRi; omega) (by unfold jRi; omega) (fun c202 => ?_) (fun c202 => ?_)
    · skip
      refine jt_aload_n d_GM_makePieces_123 rfl ?_
      refine jt_aload_n d_GM_makePieces_124 rfl ?_
      refine jt_iload_n d_GM_makePieces_125 rfl ?_
      refine jt_iconst d_GM_makePieces_126 ?_
      refine gct_call (Y := Y_GM_coordinate) (As := [.int (jI k), .int (jI 0)]) (rest := [.ref m]) d_GM_makePieces_127 GM_c274 yk_GM_coordinate yv_GM_coordinate rfl (Nat.le_of_ble_eq_true rfl) rfl rfl (Nat.le_of_ble_eq_true rfl) (c_GM_coordinate G _ m k 0 J B (by omega) (by omega)) (fun rvq203 Iq203 Aq203 hq203 => ?_)
      obtain ⟨rfl, hIq203, hAq203⟩ := hq203
      rw [hIq203, hAq203]
      show jt _ 130 [(0, .ref m), (1, .int (jI k)), (2, .int (jI l))] [.long (jL ((B 39) (2 * k + 0) * 512)), .ref m] (gmf m f0 J B) _ _ _
      refine jt_toplw (fun v204 bv204 => ?_)
      refine jt_aload_n d_GM_makePieces_130 rfl ?_
      refine jt_iload_n d_GM_makePieces_131 rfl ?_
      refine jt_iconst d_GM_makePieces_132 ?_
      refine gct_call (Y := Y_GM_coordinate) (As := [.int (jI k), .int (jI 1)]) (rest := [.long (jL v204), .ref m]) d_GM_makePieces_133 GM_c274 yk_GM_coordinate yv_GM_coordinate rfl (Nat.le_of_ble_eq_true rfl) rfl rfl (Nat.le_of_ble_eq_true rfl) (c_GM_coordinate G _ m k 1 J B (by omega) (by omega)) (fun rvq205 Iq205 Aq205 hq205 => ?_)
      obtain ⟨rfl, hIq205, hAq205⟩ := hq205
      rw [hIq205, hAq205]
      show jt _ 136 [(0, .ref m), (1, .int (jI k)), (2, .int (jI l))] [.long (jL ((B 39) (2 * k + 1) * 512)), .long (jL v204), .ref m] (gmf m f0 J B) _ _ _
      refine jt_toplw (fun v206 bv206 => ?_)
      refine jt_aload_n d_GM_makePieces_136 rfl ?_
      refine jt_iconst d_GM_makePieces_137 ?_
      refine jt_iconst d_GM_makePieces_138 ?_
      refine gct_call (Y := Y_GM_coordinate) (As := [.int (jI 0), .int (jI 0)]) (rest := [.long (jL v206), .long (jL v204), .ref m]) d_GM_makePieces_139 GM_c274 yk_GM_coordinate yv_GM_coordinate rfl (Nat.le_of_ble_eq_true rfl) rfl rfl (Nat.le_of_ble_eq_true rfl) (c_GM_coordinate G _ m 0 0 J B (by omega) (by omega)) (fun rvq207 Iq207 Aq207 hq207 => ?_)
      obtain ⟨rfl, hIq207, hAq207⟩ := hq207
      rw [hIq207, hAq207]
      show jt _ 142 [(0, .ref m), (1, .int (jI k)), (2, .int (jI l))] [.long (jL ((B 39) (2 * 0 + 0) * 512)), .long (jL v206), .long (jL v204), .ref m] (gmf m f0 J B) _ _ _
      refine jt_toplw (fun v208 bv208 => ?_)
      refine jt_aload_n d_GM_makePieces_142 rfl ?_
      refine jt_iconst d_GM_makePieces_143 ?_
      refine jt_iconst d_GM_makePieces_144 ?_
      refine gct_call (Y := Y_GM_coordinate) (As := [.int (jI 0), .int (jI 1)]) (rest := [.long (jL v208), .long (jL v206), .long (jL v204), .ref m]) d_GM_makePieces_145 GM_c274 yk_GM_coordinate yv_GM_coordinate rfl (Nat.le_of_ble_eq_true rfl) rfl rfl (Nat.le_of_ble_eq_true rfl) (c_GM_coordinate G _ m 0 1 J B (by omega) (by omega)) (fun rvq209 Iq209 Aq209 hq209 => ?_)
      obtain ⟨rfl, hIq209, hAq209⟩ := hq209
      rw [hIq209, hAq209]
      show jt _ 148 [(0, .ref m), (1, .int (jI k)), (2, .int (jI l))] [.long (jL ((B 39) (2 * 0 + 1) * 512)), .long (jL v208), .long (jL v206), .long (jL v204), .ref m] (gmf m f0 J B) _ _ _
      refine jt_toplw (fun v210 bv210 => ?_)
      refine gct_call (Y := Y_GM_piece) (As := [.long (jL v204), .long (jL v206), .long (jL v208), .long (jL v210)]) (rest := []) d_GM_makePieces_148 GM_c278 yk_GM_piece yv_GM_piece rfl (Nat.le_of_ble_eq_true rfl) rfl rfl (Nat.le_of_ble_eq_true rfl) (c_GM_piece G _ m v204 v206 v208 v210 J B (show 0 ≤ J 10 by omega) (show J 10 < 110 by omega)) (fun rvq211 Iq211 Aq211 hq211 => ?_)
      obtain ⟨rfl, hIq211, hAq211⟩ := hq211
      rw [hIq211, hAq211]
      have p212 := gPo.I 10 ((J 10) + 1) hJ rfl (show 0 ≤ (J 10) + 1 ∧ (J 10) + 1 ≤ 110 by omega)
      have p213 := gPo.A 40 (ju (B 40) (J 10) v204) p212 rfl (gju (p212.2.1 40) (show -9223372036854775808 ≤ v204 ∧ v204 ≤ 9223372036854775807 by omega))
      have p214 := gPo.A 41 (ju (B 41) (J 10) v206) p213 rfl (gju (p213.2.1 41) (show -9223372036854775808 ≤ v206 ∧ v206 ≤ 9223372036854775807 by omega))
      have p215 := gPo.A 42 (ju (B 42) (J 10) v208) p214 rfl (gju (p214.2.1 42) (show -9223372036854775808 ≤ v208 ∧ v208 ≤ 9223372036854775807 by omega))
      have p216 := gPo.A 43 (ju (B 43) (J 10) v210) p215 rfl (gju (p215.2.1 43) (show -9223372036854775808 ≤ v210 ∧ v210 ≤ 9223372036854775807 by omega))
      show jt _ 151 [(0, .ref m), (1, .int (jI k)), (2, .int (jI l))] [] (gmf m f0 (va_up J 10 ((J 10) + 1)) (va_up (va_up (va_up (va_up B 40 (ju (B 40) (J 10) v204)) 41 (ju (B 41) (J 10) v206)) 42 (ju (B 42) (J 10) v208)) 43 (ju (B 43) (J 10) v210))) _ _ _
      exact gm_vret d_GM_makePieces_151 rfl (⟨rfl, p216⟩)
    · skip
      refine jt_aload_n d_GM_makePieces_17 rfl ?_
      refine gm_gA (k := 44) (a := m + 29) d_GM_makePieces_18 GM_f145 (by decide) (by decide) rfl ?_
      refine jt_iload_n d_GM_makePieces_21 rfl ?_
      refine gm_ld0 (k := 44) (n := 14) (v := (B 44) l) d_GM_makePieces_22 rfl (by decide) (by decide) rfl rfl (by omega) (by omega) (by omega) rfl ?_
      refine jt_topi (fun v217 ev217 => ?_)
      have bv217 : 0 ≤ v217 ∧ v217 ≤ 1 := by rw [ev217]; exact hJ.2.1 44 l
      refine jt_if_ne (t := 64) d_GM_makePieces_23 rfl (by unfold jRi; omega) (fun c218 => ?_) (fun c218 => ?_)
      · skip
        refine jt_iconst d_GM_makePieces_64 ?_
        refine jt_istore_n (L' := [(0, .ref m), (1, .int (jI k)), (2, .int (jI l)), (3, .int (jI 0))]) d_GM_makePieces_65 (Nat.le_of_ble_eq_true rfl) rfl ?_
        refine l66_GM_makePiecesw G d m  I A hI hA hl f0 sz k l ((by omega)) ((by omega)) ((by omega)) ((by omega)) (fun to219 Jo219 Bo219 hJo219 t0o219 t1o219 p0o219 p1o219 => ?_) 9 0 J B hJ (by omega) (by omega) (show 0 ≤ J 10 by omega) (show J 10 ≤ 8 * (l - 1) + (0) by omega) (by omega)
        refine jt_iinc (L' := [(0, .ref m), (1, .int (jI (k + 3))), (2, .int (jI l)), (3, .int (jI to219))]) d_GM_makePieces_114 rfl (Nat.le_of_ble_eq_true rfl) rfl ?_
        refine jt_iinc (L' := [(0, .ref m), (1, .int (jI (k + 3))), (2, .int (jI (l + 1))), (3, .int (jI to219))]) d_GM_makePieces_117 rfl (Nat.le_of_ble_eq_true rfl) rfl ?_
        refine jt_goto (t := 9) d_GM_makePieces_120 rfl ?_
        refine jt_sub (L' := [(0, .ref m), (1, .int (jI (k + 3))), (2, .int (jI (l + 1)))]) (fun _ h => List.mem_append_left [(3, Value.int (jI to219))] h) ?_
        exact ih (k + 3) (l + 1) Jo219 Bo219 hJo219 (by omega) (by omega) (by omega) (by omega) (show 0 ≤ Jo219 10 by omega) (show Jo219 10 ≤ 8 * (l + 1 - 1) by omega) (by omega)
      · skip
        refine jt_aload_n d_GM_makePieces_26 rfl ?_
        refine jt_aload_n d_GM_makePieces_27 rfl ?_
        refine jt_iload_n d_GM_makePieces_28 rfl ?_
        refine jt_iconst d_GM_makePieces_29 ?_
        refine gct_call (Y := Y_GM_coordinate) (As := [.int (jI k), .int (jI 0)]) (rest := [.ref m]) d_GM_makePieces_30 GM_c274 yk_GM_coordinate yv_GM_coordinate rfl (Nat.le_of_ble_eq_true rfl) rfl rfl (Nat.le_of_ble_eq_true rfl) (c_GM_coordinate G _ m k 0 J B (by omega) (by omega)) (fun rvq220 Iq220 Aq220 hq220 => ?_)
        obtain ⟨rfl, hIq220, hAq220⟩ := hq220
        rw [hIq220, hAq220]
        show jt _ 33 [(0, .ref m), (1, .int (jI k)), (2, .int (jI l))] [.long (jL ((B 39) (2 * k + 0) * 512)), .ref m] (gmf m f0 J B) _ _ _
        refine jt_toplw (fun v221 bv221 => ?_)
        refine jt_aload_n d_GM_makePieces_33 rfl ?_
        refine jt_iload_n d_GM_makePieces_34 rfl ?_
        refine jt_iconst d_GM_makePieces_35 ?_
        refine gct_call (Y := Y_GM_coordinate) (As := [.int (jI k), .int (jI 1)]) (rest := [.long (jL v221), .ref m]) d_GM_makePieces_36 GM_c274 yk_GM_coordinate yv_GM_coordinate rfl (Nat.le_of_ble_eq_true rfl) rfl rfl (Nat.le_of_ble_eq_true rfl) (c_GM_coordinate G _ m k 1 J B (by omega) (by omega)) (fun rvq222 Iq222 Aq222 hq222 => ?_)
        obtain ⟨rfl, hIq222, hAq222⟩ := hq222
        rw [hIq222, hAq222]
        show jt _ 39 [(0, .ref m), (1, .int (jI k)), (2, .int (jI l))] [.long (jL ((B 39) (2 * k + 1) * 512)), .long (jL v221), .ref m] (gmf m f0 J B) _ _ _
        refine jt_toplw (fun v223 bv223 => ?_)
        refine jt_aload_n d_GM_makePieces_39 rfl ?_
        refine jt_iload_n d_GM_makePieces_40 rfl ?_
        refine jt_iconst d_GM_makePieces_41 ?_
        refine jt_iadd d_GM_makePieces_42 ?_
        refine jt_iconst d_GM_makePieces_43 ?_
        refine gct_call (Y := Y_GM_coordinate) (As := [.int (jI (k + 1)), .int (jI 0)]) (rest := [.long (jL v223), .long (jL v221), .ref m]) d_GM_makePieces_44 GM_c274 yk_GM_coordinate yv_GM_coordinate rfl (Nat.le_of_ble_eq_true rfl) rfl rfl (Nat.le_of_ble_eq_true rfl) (c_GM_coordinate G _ m (k + 1) 0 J B (by omega) (by omega)) (fun rvq224 Iq224 Aq224 hq224 => ?_)
        obtain ⟨rfl, hIq224, hAq224⟩ := hq224
        rw [hIq224, hAq224]
        show jt _ 47 [(0, .ref m), (1, .int (jI k)), (2, .int (jI l))] [.long (jL ((B 39) (2 * (k + 1) + 0) * 512)), .long (jL v223), .long (jL v221), .ref m] (gmf m f0 J B) _ _ _
        refine jt_toplw (fun v225 bv225 => ?_)
        refine jt_aload_n d_GM_makePieces_47 rfl ?_
        refine jt_iload_n d_GM_makePieces_48 rfl ?_
        refine jt_iconst d_GM_makePieces_49 ?_
        refine jt_iadd d_GM_makePieces_50 ?_
        refine jt_iconst d_GM_makePieces_51 ?_
        refine gct_call (Y := Y_GM_coordinate) (As := [.int (jI (k + 1)), .int (jI 1)]) (rest := [.long (jL v225), .long (jL v223), .long (jL v221), .ref m]) d_GM_makePieces_52 GM_c274 yk_GM_coordinate yv_GM_coordinate rfl (Nat.le_of_ble_eq_true rfl) rfl rfl (Nat.le_of_ble_eq_true rfl) (c_GM_coordinate G _ m (k + 1) 1 J B (by omega) (by omega)) (fun rvq226 Iq226 Aq226 hq226 => ?_)
        obtain ⟨rfl, hIq226, hAq226⟩ := hq226
        rw [hIq226, hAq226]
        show jt _ 55 [(0, .ref m), (1, .int (jI k)), (2, .int (jI l))] [.long (jL ((B 39) (2 * (k + 1) + 1) * 512)), .long (jL v225), .long (jL v223), .long (jL v221), .ref m] (gmf m f0 J B) _ _ _
        refine jt_toplw (fun v227 bv227 => ?_)
        refine gct_call (Y := Y_GM_piece) (As := [.long (jL v221), .long (jL v223), .long (jL v225), .long (jL v227)]) (rest := []) d_GM_makePieces_55 GM_c278 yk_GM_piece yv_GM_piece rfl (Nat.le_of_ble_eq_true rfl) rfl rfl (Nat.le_of_ble_eq_true rfl) (c_GM_piece G _ m v221 v223 v225 v227 J B (show 0 ≤ J 10 by omega) (show J 10 < 110 by omega)) (fun rvq228 Iq228 Aq228 hq228 => ?_)
        obtain ⟨rfl, hIq228, hAq228⟩ := hq228
        rw [hIq228, hAq228]
        have p229 := gPo.I 10 ((J 10) + 1) hJ rfl (show 0 ≤ (J 10) + 1 ∧ (J 10) + 1 ≤ 110 by omega)
        have p230 := gPo.A 40 (ju (B 40) (J 10) v221) p229 rfl (gju (p229.2.1 40) (show -9223372036854775808 ≤ v221 ∧ v221 ≤ 9223372036854775807 by omega))
        have p231 := gPo.A 41 (ju (B 41) (J 10) v223) p230 rfl (gju (p230.2.1 41) (show -9223372036854775808 ≤ v223 ∧ v223 ≤ 9223372036854775807 by omega))
        have p232 := gPo.A 42 (ju (B 42) (J 10) v225) p231 rfl (gju (p231.2.1 42) (show -9223372036854775808 ≤ v225 ∧ v225 ≤ 9223372036854775807 by omega))
        have p233 := gPo.A 43 (ju (B 43) (J 10) v227) p232 rfl (gju (p232.2.1 43) (show -9223372036854775808 ≤ v227 ∧ v227 ≤ 9223372036854775807 by omega))
        show jt _ 58 [(0, .ref m), (1, .int (jI k)), (2, .int (jI l))] [] (gmf m f0 (va_up J 10 ((J 10) + 1)) (va_up (va_up (va_up (va_up B 40 (ju (B 40) (J 10) v221)) 41 (ju (B 41) (J 10) v223)) 42 (ju (B 42) (J 10) v225)) 43 (ju (B 43) (J 10) v227))) _ _ _
        refine jt_iinc (L' := [(0, .ref m), (1, .int (jI (k + 1))), (2, .int (jI l))]) d_GM_makePieces_58 rfl (Nat.le_of_ble_eq_true rfl) rfl ?_
        refine jt_goto (t := 117) d_GM_makePieces_61 rfl ?_
        refine jt_iinc (L' := [(0, .ref m), (1, .int (jI (k + 1))), (2, .int (jI (l + 1)))]) d_GM_makePieces_117 rfl (Nat.le_of_ble_eq_true rfl) rfl ?_
        refine jt_goto (t := 9) d_GM_makePieces_120 rfl ?_
        exact ih (k + 1) (l + 1) (va_up J 10 ((J 10) + 1)) (va_up (va_up (va_up (va_up B 40 (ju (B 40) (J 10) v221)) 41 (ju (B 41) (J 10) v223)) 42 (ju (B 42) (J 10) v225)) 43 (ju (B 43) (J 10) v227)) p233 (by omega) (by omega) (by omega) (by omega) (show 0 ≤ (J 10) + 1 by omega) (show (J 10) + 1 ≤ 8 * (l + 1 - 1) by omega) (by omega)
set_option maxRecDepth 100000 in
set_option maxHeartbeats 1000000 in
theorem w_GM_makePieces (G : jG) (d m : Nat)  (I : Nat → Int) (A : Nat → Int → Int) (hI : gSI I) (hA : gSA A) (hl : 0 ≤ I 12 ∧ I 12 ≤ 12) : gct G Y_GM_makePieces (d + 1) m [] I A (fun (rv : Option Value) (I2 : Nat → Int) (A2 : Nat → Int → Int) => rv = none ∧ gPo [10] [40, 41, 42, 43] I A I2 A2) := by
  refine gct_of (by decide) (Nat.le_of_ble_eq_true rfl) (fun f0 sz => ?_)
  show jt _ 0 [(0, .ref m)] [] _ _ _ _
  have hz0 : gPo [10] [40, 41, 42, 43] I A I A := gPo.refl hI hA
  refine jt_iconst d_GM_makePieces_0 ?_
  refine jt_istore_n (L' := [(0, .ref m), (1, .int (jI 0))]) d_GM_makePieces_1 (Nat.le_of_ble_eq_true rfl) rfl ?_
  refine jt_aload_n d_GM_makePieces_2 rfl ?_
  refine jt_iconst d_GM_makePieces_3 ?_
  refine gm_pI (k := 10) (v := 0) (J := va_up I 10 0) d_GM_makePieces_4 (GM_w40 _ rfl) (by decide) rfl rfl rfl ?_
  have p1 := gPo.I 10 0 hz0 rfl (show 0 ≤ 0 ∧ 0 ≤ 110 by omega)
  refine jt_iconst d_GM_makePieces_7 ?_
  refine jt_istore_n (L' := [(0, .ref m), (1, .int (jI 0)), (2, .int (jI 1))]) d_GM_makePieces_8 (Nat.le_of_ble_eq_true rfl) rfl ?_
  exact l9_GM_makePiecesw G d m  I A hI hA hl f0 sz  14 0 1 (va_up I 10 0) A p1 (by omega) (by omega) (by omega) (by omega) (show 0 ≤ 0 by omega) (show 0 ≤ 8 * (1 - 1) by omega) (by omega)
set_option maxRecDepth 100000 in
set_option maxHeartbeats 1000000 in
theorem l14_GM_paintw (G : jG) (d m : Nat) (f : Int) (I : Nat → Int) (A : Nat → Int → Int) (hI : gSI I) (hA : gSA A) (hf : 0 ≤ f ∧ f ≤ 1) (hl : 0 ≤ I 12 ∧ I 12 ≤ 12) (f0 : jF) (sz : Nat) (j : Int) (j0 : 0 ≤ j) (j1 : j < 24) (hout : ∀ (i : Int) (J : Nat → Int) (B : Nat → Int → Int), gPo [10] [40, 41, 42, 43, 45] I A J B → (0 ≤ i) → (i ≤ 32) → jt (jm G Y_GM_paint (gR (d + 2)) (gQ m f0 sz (fun (rv : Option Value) (I2 : Nat → Int) (A2 : Nat → Int → Int) => rv = none ∧ gPo [10] [40, 41, 42, 43, 45] I A I2 A2))) 65 [(0, .ref m), (1, .int (jI f)), (2, .int (jI j)), (3, .int (jI i))] [] (gmf m f0 J B) sz 0 0) : ∀ (n9 : Nat) (i : Int) (J : Nat → Int) (B : Nat → Int → Int), gPo [10] [40, 41, 42, 43, 45] I A J B → (0 ≤ i) → (i ≤ 32) → 32 - i < (n9 : Int) → jt (jm G Y_GM_paint (gR (d + 2)) (gQ m f0 sz (fun (rv : Option Value) (I2 : Nat → Int) (A2 : Nat → Int → Int) => rv = none ∧ gPo [10] [40, 41, 42, 43, 45] I A I2 A2))) 14 [(0, .ref m), (1, .int (jI f)), (2, .int (jI j)), (3, .int (jI i))] [] (gmf m f0 J B) sz 0 0 := by
  intro n9
  induction n9 with
  | zero =>
    intro i J B hJ i0 i1 hmeas
    exfalso
    omega
  | succ n9 ih =>
    intro i J B hJ i0 i1 hmeas
    refine jt_iload_n d_GM_paint_14 rfl ?_
    refine jt_bipush d_GM_paint_15 (by omega) ?_
    refine jt_icmp_ge (t := 65) d_GM_paint_17 rfl (by unfold jRi; omega) (by unfold jRi; omega) (fun c101 => ?_) (fun c101 => ?_)
    · skip
      exact hout i J B hJ i0 i1 
    · skip
      refine jt_aload_n d_GM_paint_20 rfl ?_
      refine jt_iload_n d_GM_paint_21 rfl ?_
      refine jt_i2l d_GM_paint_22 (by unfold jRi; omega) ?_
      refine jt_ldc2 (z := 8192) d_GM_paint_23 GM_k289 ?_
      refine jt_lmul d_GM_paint_26 ?_
      refine jt_toplw (fun v102 bv102 => ?_)
      refine jt_ldc2 (z := 4096) d_GM_paint_27 GM_k211 ?_
      refine jt_ladd d_GM_paint_30 ?_
      refine jt_toplw (fun v103 bv103 => ?_)
      refine jt_iload_n d_GM_paint_31 rfl ?_
      refine jt_i2l d_GM_paint_32 (by unfold jRi; omega) ?_
      refine jt_ldc2 (z := 8192) d_GM_paint_33 GM_k289 ?_
      refine jt_lmul d_GM_paint_36 ?_
      refine jt_toplw (fun v104 bv104 => ?_)
      refine jt_ldc2 (z := 4096) d_GM_paint_37 GM_k211 ?_
      refine jt_ladd d_GM_paint_40 ?_
      refine jt_toplw (fun v105 bv105 => ?_)
      refine gct_call (Y := Y_GM_winding) (As := [.long (jL v103), .long (jL v105)]) (rest := []) d_GM_paint_41 GM_c291 yk_GM_winding yv_GM_winding rfl (Nat.le_of_ble_eq_true rfl) rfl rfl (Nat.le_of_ble_eq_true rfl) (w_GM_winding G _ m v103 v105 J B hJ.1 hJ.2.1 (by omega) (by omega)) (fun rvq106 Iq106 Aq106 hq106 => ?_)
      obtain ⟨yq106, rfl, ryq106, hqq106⟩ := hq106
      have hpq106 := gPo.trans hJ hqq106 rfl rfl
      have f1q106 : Iq106 1 = I 1 := hpq106.2.2.1 1 rfl
      show jt _ 44 [(0, .ref m), (1, .int (jI f)), (2, .int (jI j)), (3, .int (jI i))] [.int (jI yq106)] (gmf m f0 Iq106 Aq106) _ _ _
      refine jt_if_eq (t := 59) d_GM_paint_44 rfl (by unfold jRi; omega) (fun c107 => ?_) (fun c107 => ?_)
      · skip
        refine jt_iinc (L' := [(0, .ref m), (1, .int (jI f)), (2, .int (jI j)), (3, .int (jI (i + 1)))]) d_GM_paint_59 rfl (Nat.le_of_ble_eq_true rfl) rfl ?_
        refine jt_goto (t := 14) d_GM_paint_62 rfl ?_
        exact ih (i + 1) Iq106 Aq106 hpq106 (by omega) (by omega) (by omega)
      · skip
        refine jt_aload_n d_GM_paint_47 rfl ?_
        refine gm_gA (k := 45) (a := m + 30) d_GM_paint_48 GM_f148 (by decide) (by decide) rfl ?_
        refine jt_iload_n d_GM_paint_51 rfl ?_
        refine jt_bipush d_GM_paint_52 (by omega) ?_
        refine jt_imul d_GM_paint_54 ?_
        refine jt_iload_n d_GM_paint_55 rfl ?_
        refine jt_iadd d_GM_paint_56 ?_
        refine jt_iload_n d_GM_paint_57 rfl ?_
        refine gm_st2 (k := 45) (n := 768) (B := va_up Aq106 45 (ju (Aq106 45) ((j * 32) + i) f)) d_GM_paint_58 rfl (by decide) (by decide) rfl rfl (by omega) (by omega) (by omega) (by omega) rfl ?_
        have p108 := gPo.A 45 (ju (Aq106 45) ((j * 32) + i) f) hpq106 rfl (gju (hpq106.2.1 45) (show 0 ≤ f ∧ f ≤ 1 by omega))
        refine jt_iinc (L' := [(0, .ref m), (1, .int (jI f)), (2, .int (jI j)), (3, .int (jI (i + 1)))]) d_GM_paint_59 rfl (Nat.le_of_ble_eq_true rfl) rfl ?_
        refine jt_goto (t := 14) d_GM_paint_62 rfl ?_
        exact ih (i + 1) Iq106 (va_up Aq106 45 (ju (Aq106 45) ((j * 32) + i) f)) p108 (by omega) (by omega) (by omega)
set_option maxRecDepth 100000 in
set_option maxHeartbeats 1000000 in
theorem l6_GM_paintw (G : jG) (d m : Nat) (f : Int) (I : Nat → Int) (A : Nat → Int → Int) (hI : gSI I) (hA : gSA A) (hf : 0 ≤ f ∧ f ≤ 1) (hl : 0 ≤ I 12 ∧ I 12 ≤ 12) (f0 : jF) (sz : Nat)  : ∀ (n9 : Nat) (j : Int) (J : Nat → Int) (B : Nat → Int → Int), gPo [10] [40, 41, 42, 43, 45] I A J B → (0 ≤ j) → (j ≤ 24) → 24 - j < (n9 : Int) → jt (jm G Y_GM_paint (gR (d + 2)) (gQ m f0 sz (fun (rv : Option Value) (I2 : Nat → Int) (A2 : Nat → Int → Int) => rv = none ∧ gPo [10] [40, 41, 42, 43, 45] I A I2 A2))) 6 [(0, .ref m), (1, .int (jI f)), (2, .int (jI j))] [] (gmf m f0 J B) sz 0 0 := by
  intro n9
  induction n9 with
  | zero =>
    intro j J B hJ j0 j1 hmeas
    exfalso
    omega
  | succ n9 ih =>
    intro j J B hJ j0 j1 hmeas
    refine jt_iload_n d_GM_paint_6 rfl ?_
    refine jt_bipush d_GM_paint_7 (by omega) ?_
    refine jt_icmp_ge (t := 71) d_GM_paint_9 rfl (by unfold jRi; omega) (by unfold jRi; omega) (fun c201 => ?_) (fun c201 => ?_)
    · skip
      exact gm_vret d_GM_paint_71 rfl (⟨rfl, hJ⟩)
    · skip
      refine jt_iconst d_GM_paint_12 ?_
      refine jt_istore_n (L' := [(0, .ref m), (1, .int (jI f)), (2, .int (jI j)), (3, .int (jI 0))]) d_GM_paint_13 (Nat.le_of_ble_eq_true rfl) rfl ?_
      refine l14_GM_paintw G d m f I A hI hA hf hl f0 sz j ((by omega)) ((by omega)) (fun io202 Jo202 Bo202 hJo202 i0o202 i1o202 => ?_) 33 0 J B hJ (by omega) (by omega) (by omega)
      refine jt_iinc (L' := [(0, .ref m), (1, .int (jI f)), (2, .int (jI (j + 1))), (3, .int (jI io202))]) d_GM_paint_65 rfl (Nat.le_of_ble_eq_true rfl) rfl ?_
      refine jt_goto (t := 6) d_GM_paint_68 rfl ?_
      refine jt_sub (L' := [(0, .ref m), (1, .int (jI f)), (2, .int (jI (j + 1)))]) (fun _ h => List.mem_append_left [(3, Value.int (jI io202))] h) ?_
      exact ih (j + 1) Jo202 Bo202 hJo202 (by omega) (by omega) (by omega)
set_option maxRecDepth 100000 in
set_option maxHeartbeats 1000000 in
theorem w_GM_paint (G : jG) (d m : Nat) (f : Int) (I : Nat → Int) (A : Nat → Int → Int) (hI : gSI I) (hA : gSA A) (hf : 0 ≤ f ∧ f ≤ 1) (hl : 0 ≤ I 12 ∧ I 12 ≤ 12) : gct G Y_GM_paint (d + 2) m [.int (jI f)] I A (fun (rv : Option Value) (I2 : Nat → Int) (A2 : Nat → Int → Int) => rv = none ∧ gPo [10] [40, 41, 42, 43, 45] I A I2 A2) := by
  refine gct_of (by decide) (Nat.le_of_ble_eq_true rfl) (fun f0 sz => ?_)
  show jt _ 0 [(0, .ref m), (1, .int (jI f))] [] _ _ _ _
  have hz0 : gPo [10] [40, 41, 42, 43, 45] I A I A := gPo.refl hI hA
  refine jt_aload_n d_GM_paint_0 rfl ?_
  refine gct_call (Y := Y_GM_makePieces) (As := []) (rest := []) d_GM_paint_1 GM_c286 yk_GM_makePieces yv_GM_makePieces rfl (Nat.le_of_ble_eq_true rfl) rfl rfl (Nat.le_of_ble_eq_true rfl) (w_GM_makePieces G _ m  I A hz0.1 hz0.2.1 (by omega)) (fun rvq1 Iq1 Aq1 hq1 => ?_)
  obtain ⟨rfl, hqq1⟩ := hq1
  have hpq1 := gPo.trans hz0 hqq1 rfl rfl
  have f1q1 : Iq1 1 = I 1 := hpq1.2.2.1 1 rfl
  show jt _ 4 [(0, .ref m), (1, .int (jI f))] [] (gmf m f0 Iq1 Aq1) _ _ _
  refine jt_iconst d_GM_paint_4 ?_
  refine jt_istore_n (L' := [(0, .ref m), (1, .int (jI f)), (2, .int (jI 0))]) d_GM_paint_5 (Nat.le_of_ble_eq_true rfl) rfl ?_
  exact l6_GM_paintw G d m f I A hI hA hf hl f0 sz  25 0 Iq1 Aq1 hpq1 (by omega) (by omega) (by omega)
set_option maxRecDepth 100000 in
set_option maxHeartbeats 1000000 in
theorem l7_GM_pivotw (G : jG) (d m : Nat) (f : Int) (I : Nat → Int) (A : Nat → Int → Int) (hI : gSI I) (hA : gSA A) (h0 : 0 ≤ f) (h1 : f < 400) (f0 : jF) (sz : Nat)  : ∀ (n9 : Nat) (b : Int) (q : Int) (v : Int) (J : Nat → Int) (B : Nat → Int → Int), gPo [] [] I A J B → (-1 ≤ b) → (b ≤ 11) → (0 ≤ q ∧ q ≤ 9223372036854775807) → (0 ≤ v) → (v ≤ 12) → (0 ≤ b → A 35 (f * 13 + b) ≠ 0 ∧ -68719476736 ≤ A 35 (f * 13 + b) ∧ A 35 (f * 13 + b) ≤ 68719476736) → 12 - v < (n9 : Int) → jt (jm G Y_GM_pivot (gR d) (gQ m f0 sz (fun (rv : Option Value) (I2 : Nat → Int) (A2 : Nat → Int → Int) => ∃ y : Int, rv = some (.int (jI y)) ∧ (-1 ≤ y ∧ y ≤ 11) ∧ gPo [] [] I A I2 A2 ∧ (0 ≤ y → A 35 (f * 13 + y) ≠ 0 ∧ -68719476736 ≤ A 35 (f * 13 + y) ∧ A 35 (f * 13 + y) ≤ 68719476736)))) 7 [(0, .ref m), (1, .int (jI f)), (2, .int (jI b)), (3, .long (jL q)), (5, .int (jI v))] [] (gmf m f0 J B) sz 0 0 := by
  intro n9
  induction n9 with
  | zero =>
    intro b q v J B hJ b0 b1 q0 v0 v1 hb hmeas
    have f35 : B 35 = A 35 := hJ.2.2.2 35 rfl
    exfalso
    omega
  | succ n9 ih =>
    intro b q v J B hJ b0 b1 q0 v0 v1 hb hmeas
    have f35 : B 35 = A 35 := hJ.2.2.2 35 rfl
    refine jt_iload d_GM_pivot_7 rfl ?_
    refine jt_bipush d_GM_pivot_9 (by omega) ?_
    refine jt_icmp_ge (t := 95) d_GM_pivot_11 rfl (by unfold jRi; omega) (by unfold jRi; omega) (fun c101 => ?_) (fun c101 => ?_)
    · skip
      refine jt_iload_n d_GM_pivot_95 rfl ?_
      exact gm_ret d_GM_pivot_96 rfl rfl (⟨b, rfl, by omega, hJ, hb⟩)
    · skip
      refine jt_aload_n d_GM_pivot_14 rfl ?_
      refine gm_gA (k := 35) (a := m + 20) d_GM_pivot_15 GM_f118 (by decide) (by decide) rfl ?_
      refine jt_iload_n d_GM_pivot_18 rfl ?_
      refine jt_bipush d_GM_pivot_19 (by omega) ?_
      refine jt_imul d_GM_pivot_21 ?_
      refine jt_iload d_GM_pivot_22 rfl ?_
      refine jt_iadd d_GM_pivot_24 ?_
      refine gm_ld1 (k := 35) (n := 5200) (v := (B 35) ((f * 13) + v)) d_GM_pivot_25 rfl (by decide) (by decide) rfl rfl (by omega) (by omega) (by omega) rfl ?_
      refine jt_topl (fun v102 ev102 => ?_)
      have bv102 : (-9223372036854775808) ≤ v102 ∧ v102 ≤ 9223372036854775807 := by rw [ev102]; exact hJ.2.1 35 ((f * 13) + v)
      refine jt_lstore (L' := [(0, .ref m), (1, .int (jI f)), (2, .int (jI b)), (3, .long (jL q)), (5, .int (jI v)), (6, .long (jL v102))]) d_GM_pivot_26 (Nat.le_of_ble_eq_true rfl) rfl ?_
      refine jt_lload d_GM_pivot_28 rfl ?_
      refine jt_lconst (z := 0) d_GM_pivot_30 (by decide) ?_
      refine jt_lif_ge (t := 41) d_GM_pivot_31 d_GM_pivot_32 rfl (by unfold jRl; omega) (by unfold jRl; omega) (fun c103 => ?_) (fun c103 => ?_)
      · skip
        refine jt_lload d_GM_pivot_41 rfl ?_
        refine jt_lstore (L' := [(0, .ref m), (1, .int (jI f)), (2, .int (jI b)), (3, .long (jL q)), (5, .int (jI v)), (6, .long (jL v102)), (8, .long (jL v102))]) d_GM_pivot_43 (Nat.le_of_ble_eq_true rfl) rfl ?_
        refine jt_lload d_GM_pivot_45 rfl ?_
        refine jt_lconst (z := 0) d_GM_pivot_47 (by decide) ?_
        refine jt_lif_eq (t := 89) d_GM_pivot_48 d_GM_pivot_49 rfl (by unfold jRl; omega) (by unfold jRl; omega) (fun c104 => ?_) (fun c104 => ?_)
        · skip
          refine jt_iinc (L' := [(0, .ref m), (1, .int (jI f)), (2, .int (jI b)), (3, .long (jL q)), (5, .int (jI (v + 1))), (6, .long (jL v102)), (8, .long (jL v102))]) d_GM_pivot_89 rfl (Nat.le_of_ble_eq_true rfl) rfl ?_
          refine jt_goto (t := 7) d_GM_pivot_92 rfl ?_
          refine jt_sub (L' := [(0, .ref m), (1, .int (jI f)), (2, .int (jI b)), (3, .long (jL q)), (5, .int (jI (v + 1)))]) (fun _ h => List.mem_append_left [(6, Value.long (jL v102)), (8, Value.long (jL v102))] h) ?_
          exact ih b q (v + 1) J B hJ (by omega) (by omega) (by omega) (by omega) (by omega) hb (by omega)
        · skip
          refine jt_lload d_GM_pivot_52 rfl ?_
          refine jt_ldc2 (z := 68719476736) d_GM_pivot_54 GM_k179 ?_
          refine jt_lif_gt (t := 89) d_GM_pivot_57 d_GM_pivot_58 rfl (by unfold jRl; omega) (by unfold jRl; omega) (fun c105 => ?_) (fun c105 => ?_)
          · skip
            refine jt_iinc (L' := [(0, .ref m), (1, .int (jI f)), (2, .int (jI b)), (3, .long (jL q)), (5, .int (jI (v + 1))), (6, .long (jL v102)), (8, .long (jL v102))]) d_GM_pivot_89 rfl (Nat.le_of_ble_eq_true rfl) rfl ?_
            refine jt_goto (t := 7) d_GM_pivot_92 rfl ?_
            refine jt_sub (L' := [(0, .ref m), (1, .int (jI f)), (2, .int (jI b)), (3, .long (jL q)), (5, .int (jI (v + 1)))]) (fun _ h => List.mem_append_left [(6, Value.long (jL v102)), (8, Value.long (jL v102))] h) ?_
            exact ih b q (v + 1) J B hJ (by omega) (by omega) (by omega) (by omega) (by omega) hb (by omega)
          · skip
            refine jt_lload d_GM_pivot_61 rfl ?_
            refine jt_lload d_GM_pivot_63 rfl ?_
            refine jt_lconst (z := 1) d_GM_pivot_65 (by decide) ?_
            refine jt_lsub d_GM_pivot_66 ?_
            refine jt_topln (fun v106 bv106 ev106 => ?_)
            refine jt_landW d_GM_pivot_67 (fun v107 bv107 => ?_)
            refine jt_lconst (z := 0) d_GM_pivot_68 (by decide) ?_
            refine jt_lif_ne (t := 89) d_GM_pivot_69 d_GM_pivot_70 rfl (by unfold jRl; omega) (by unfold jRl; omega) (fun c108 => ?_) (fun c108 => ?_)
            · skip
              refine jt_iinc (L' := [(0, .ref m), (1, .int (jI f)), (2, .int (jI b)), (3, .long (jL q)), (5, .int (jI (v + 1))), (6, .long (jL v102)), (8, .long (jL v102))]) d_GM_pivot_89 rfl (Nat.le_of_ble_eq_true rfl) rfl ?_
              refine jt_goto (t := 7) d_GM_pivot_92 rfl ?_
              refine jt_sub (L' := [(0, .ref m), (1, .int (jI f)), (2, .int (jI b)), (3, .long (jL q)), (5, .int (jI (v + 1)))]) (fun _ h => List.mem_append_left [(6, Value.long (jL v102)), (8, Value.long (jL v102))] h) ?_
              exact ih b q (v + 1) J B hJ (by omega) (by omega) (by omega) (by omega) (by omega) hb (by omega)
            · skip
              refine jt_lload d_GM_pivot_73 rfl ?_
              refine jt_lload_n d_GM_pivot_75 rfl ?_
              refine jt_lif_gt (t := 83) d_GM_pivot_76 d_GM_pivot_77 rfl (by unfold jRl; omega) (by unfold jRl; omega) (fun c109 => ?_) (fun c109 => ?_)
              · skip
                refine jt_iload d_GM_pivot_83 rfl ?_
                refine jt_istore_n (L' := [(0, .ref m), (1, .int (jI f)), (2, .int (jI v)), (3, .long (jL q)), (5, .int (jI v)), (6, .long (jL v102)), (8, .long (jL v102))]) d_GM_pivot_85 (Nat.le_of_ble_eq_true rfl) rfl ?_
                refine jt_lload d_GM_pivot_86 rfl ?_
                refine jt_lstore_n (L' := [(0, .ref m), (1, .int (jI f)), (2, .int (jI v)), (3, .long (jL v102)), (5, .int (jI v)), (6, .long (jL v102)), (8, .long (jL v102))]) d_GM_pivot_88 (Nat.le_of_ble_eq_true rfl) rfl ?_
                refine jt_iinc (L' := [(0, .ref m), (1, .int (jI f)), (2, .int (jI v)), (3, .long (jL v102)), (5, .int (jI (v + 1))), (6, .long (jL v102)), (8, .long (jL v102))]) d_GM_pivot_89 rfl (Nat.le_of_ble_eq_true rfl) rfl ?_
                refine jt_goto (t := 7) d_GM_pivot_92 rfl ?_
                refine jt_sub (L' := [(0, .ref m), (1, .int (jI f)), (2, .int (jI v)), (3, .long (jL v102)), (5, .int (jI (v + 1)))]) (fun _ h => List.mem_append_left [(6, Value.long (jL v102)), (8, Value.long (jL v102))] h) ?_
                exact ih v v102 (v + 1) J B hJ (by omega) (by omega) (by omega) (by omega) (by omega) (fun _ => by rw [← f35, ← ev102]; omega) (by omega)
              · skip
                refine jt_goto (t := 89) d_GM_pivot_80 rfl ?_
                refine jt_iinc (L' := [(0, .ref m), (1, .int (jI f)), (2, .int (jI b)), (3, .long (jL q)), (5, .int (jI (v + 1))), (6, .long (jL v102)), (8, .long (jL v102))]) d_GM_pivot_89 rfl (Nat.le_of_ble_eq_true rfl) rfl ?_
                refine jt_goto (t := 7) d_GM_pivot_92 rfl ?_
                refine jt_sub (L' := [(0, .ref m), (1, .int (jI f)), (2, .int (jI b)), (3, .long (jL q)), (5, .int (jI (v + 1)))]) (fun _ h => List.mem_append_left [(6, Value.long (jL v102)), (8, Value.long (jL v102))] h) ?_
                exact ih b q (v + 1) J B hJ (by omega) (by omega) (by omega) (by omega) (by omega) hb (by omega)
      · skip
        refine jt_lload d_GM_pivot_35 rfl ?_
        refine jt_lneg d_GM_pivot_37 ?_
        refine jt_topln (fun v110 bv110 ev110 => ?_)
        refine jt_goto (t := 43) d_GM_pivot_38 rfl ?_
        refine jt_lstore (L' := [(0, .ref m), (1, .int (jI f)), (2, .int (jI b)), (3, .long (jL q)), (5, .int (jI v)), (6, .long (jL v102)), (8, .long (jL v110))]) d_GM_pivot_43 (Nat.le_of_ble_eq_true rfl) rfl ?_
        refine jt_lload d_GM_pivot_45 rfl ?_
        refine jt_lconst (z := 0) d_GM_pivot_47 (by decide) ?_
        refine jt_lif_eq (t := 89) d_GM_pivot_48 d_GM_pivot_49 rfl (by unfold jRl; omega) (by unfold jRl; omega) (fun c111 => ?_) (fun c111 => ?_)
        · skip
          refine jt_iinc (L' := [(0, .ref m), (1, .int (jI f)), (2, .int (jI b)), (3, .long (jL q)), (5, .int (jI (v + 1))), (6, .long (jL v102)), (8, .long (jL v110))]) d_GM_pivot_89 rfl (Nat.le_of_ble_eq_true rfl) rfl ?_
          refine jt_goto (t := 7) d_GM_pivot_92 rfl ?_
          refine jt_sub (L' := [(0, .ref m), (1, .int (jI f)), (2, .int (jI b)), (3, .long (jL q)), (5, .int (jI (v + 1)))]) (fun _ h => List.mem_append_left [(6, Value.long (jL v102)), (8, Value.long (jL v110))] h) ?_
          exact ih b q (v + 1) J B hJ (by omega) (by omega) (by omega) (by omega) (by omega) hb (by omega)
        · skip
          refine jt_lload d_GM_pivot_52 rfl ?_
          refine jt_ldc2 (z := 68719476736) d_GM_pivot_54 GM_k179 ?_
          refine jt_lif_gt (t := 89) d_GM_pivot_57 d_GM_pivot_58 rfl (by unfold jRl; omega) (by unfold jRl; omega) (fun c112 => ?_) (fun c112 => ?_)
          · skip
            refine jt_iinc (L' := [(0, .ref m), (1, .int (jI f)), (2, .int (jI b)), (3, .long (jL q)), (5, .int (jI (v + 1))), (6, .long (jL v102)), (8, .long (jL v110))]) d_GM_pivot_89 rfl (Nat.le_of_ble_eq_true rfl) rfl ?_
            refine jt_goto (t := 7) d_GM_pivot_92 rfl ?_
            refine jt_sub (L' := [(0, .ref m), (1, .int (jI f)), (2, .int (jI b)), (3, .long (jL q)), (5, .int (jI (v + 1)))]) (fun _ h => List.mem_append_left [(6, Value.long (jL v102)), (8, Value.long (jL v110))] h) ?_
            exact ih b q (v + 1) J B hJ (by omega) (by omega) (by omega) (by omega) (by omega) hb (by omega)
          · skip
            refine jt_lload d_GM_pivot_61 rfl ?_
            refine jt_lload d_GM_pivot_63 rfl ?_
            refine jt_lconst (z := 1) d_GM_pivot_65 (by decide) ?_
            refine jt_lsub d_GM_pivot_66 ?_
            refine jt_topln (fun v113 bv113 ev113 => ?_)
            refine jt_landW d_GM_pivot_67 (fun v114 bv114 => ?_)
            refine jt_lconst (z := 0) d_GM_pivot_68 (by decide) ?_
            refine jt_lif_ne (t := 89) d_GM_pivot_69 d_GM_pivot_70 rfl (by unfold jRl; omega) (by unfold jRl; omega) (fun c115 => ?_) (fun c115 => ?_)
            · skip
              refine jt_iinc (L' := [(0, .ref m), (1, .int (jI f)), (2, .int (jI b)), (3, .long (jL q)), (5, .int (jI (v + 1))), (6, .long (jL v102)), (8, .long (jL v110))]) d_GM_pivot_89 rfl (Nat.le_of_ble_eq_true rfl) rfl ?_
              refine jt_goto (t := 7) d_GM_pivot_92 rfl ?_
              refine jt_sub (L' := [(0, .ref m), (1, .int (jI f)), (2, .int (jI b)), (3, .long (jL q)), (5, .int (jI (v + 1)))]) (fun _ h => List.mem_append_left [(6, Value.long (jL v102)), (8, Value.long (jL v110))] h) ?_
              exact ih b q (v + 1) J B hJ (by omega) (by omega) (by omega) (by omega) (by omega) hb (by omega)
            · skip
              refine jt_lload d_GM_pivot_73 rfl ?_
              refine jt_lload_n d_GM_pivot_75 rfl ?_
              refine jt_lif_gt (t := 83) d_GM_pivot_76 d_GM_pivot_77 rfl (by unfold jRl; omega) (by unfold jRl; omega) (fun c116 => ?_) (fun c116 => ?_)
              · skip
                refine jt_iload d_GM_pivot_83 rfl ?_
                refine jt_istore_n (L' := [(0, .ref m), (1, .int (jI f)), (2, .int (jI v)), (3, .long (jL q)), (5, .int (jI v)), (6, .long (jL v102)), (8, .long (jL v110))]) d_GM_pivot_85 (Nat.le_of_ble_eq_true rfl) rfl ?_
                refine jt_lload d_GM_pivot_86 rfl ?_
                refine jt_lstore_n (L' := [(0, .ref m), (1, .int (jI f)), (2, .int (jI v)), (3, .long (jL v110)), (5, .int (jI v)), (6, .long (jL v102)), (8, .long (jL v110))]) d_GM_pivot_88 (Nat.le_of_ble_eq_true rfl) rfl ?_
                refine jt_iinc (L' := [(0, .ref m), (1, .int (jI f)), (2, .int (jI v)), (3, .long (jL v110)), (5, .int (jI (v + 1))), (6, .long (jL v102)), (8, .long (jL v110))]) d_GM_pivot_89 rfl (Nat.le_of_ble_eq_true rfl) rfl ?_
                refine jt_goto (t := 7) d_GM_pivot_92 rfl ?_
                refine jt_sub (L' := [(0, .ref m), (1, .int (jI f)), (2, .int (jI v)), (3, .long (jL v110)), (5, .int (jI (v + 1)))]) (fun _ h => List.mem_append_left [(6, Value.long (jL v102)), (8, Value.long (jL v110))] h) ?_
                exact ih v v110 (v + 1) J B hJ (by omega) (by omega) (by omega) (by omega) (by omega) (fun _ => by rw [← f35, ← ev102]; omega) (by omega)
              · skip
                refine jt_goto (t := 89) d_GM_pivot_80 rfl ?_
                refine jt_iinc (L' := [(0, .ref m), (1, .int (jI f)), (2, .int (jI b)), (3, .long (jL q)), (5, .int (jI (v + 1))), (6, .long (jL v102)), (8, .long (jL v110))]) d_GM_pivot_89 rfl (Nat.le_of_ble_eq_true rfl) rfl ?_
                refine jt_goto (t := 7) d_GM_pivot_92 rfl ?_
                refine jt_sub (L' := [(0, .ref m), (1, .int (jI f)), (2, .int (jI b)), (3, .long (jL q)), (5, .int (jI (v + 1)))]) (fun _ h => List.mem_append_left [(6, Value.long (jL v102)), (8, Value.long (jL v110))] h) ?_
                exact ih b q (v + 1) J B hJ (by omega) (by omega) (by omega) (by omega) (by omega) hb (by omega)
set_option maxRecDepth 100000 in
set_option maxHeartbeats 1000000 in
theorem w_GM_pivot (G : jG) (d m : Nat) (f : Int) (I : Nat → Int) (A : Nat → Int → Int) (hI : gSI I) (hA : gSA A) (h0 : 0 ≤ f) (h1 : f < 400) : gct G Y_GM_pivot d m [.int (jI f)] I A (fun (rv : Option Value) (I2 : Nat → Int) (A2 : Nat → Int → Int) => ∃ y : Int, rv = some (.int (jI y)) ∧ (-1 ≤ y ∧ y ≤ 11) ∧ gPo [] [] I A I2 A2 ∧ (0 ≤ y → A 35 (f * 13 + y) ≠ 0 ∧ -68719476736 ≤ A 35 (f * 13 + y) ∧ A 35 (f * 13 + y) ≤ 68719476736)) := by
  refine gct_of (by decide) (Nat.le_of_ble_eq_true rfl) (fun f0 sz => ?_)
  show jt _ 0 [(0, .ref m), (1, .int (jI f))] [] _ _ _ _
  have hz0 : gPo [] [] I A I A := gPo.refl hI hA
  refine jt_iconst d_GM_pivot_0 ?_
  refine jt_istore_n (L' := [(0, .ref m), (1, .int (jI f)), (2, .int (jI (-1)))]) d_GM_pivot_1 (Nat.le_of_ble_eq_true rfl) rfl ?_
  refine jt_lconst (z := 0) d_GM_pivot_2 (by decide) ?_
  refine jt_lstore_n (L' := [(0, .ref m), (1, .int (jI f)), (2, .int (jI (-1))), (3, .long (jL 0))]) d_GM_pivot_3 (Nat.le_of_ble_eq_true rfl) rfl ?_
  refine jt_iconst d_GM_pivot_4 ?_
  refine jt_istore (L' := [(0, .ref m), (1, .int (jI f)), (2, .int (jI (-1))), (3, .long (jL 0)), (5, .int (jI 0))]) d_GM_pivot_5 (Nat.le_of_ble_eq_true rfl) rfl ?_
  exact l7_GM_pivotw G d m f I A hI hA h0 h1 f0 sz  13 (-1) 0 0 I A hz0 (by omega) (by omega) (by omega) (by omega) (by omega) (fun z => by omega) (by omega)
set_option maxRecDepth 100000 in
set_option maxHeartbeats 1000000 in
theorem w_GM_over (G : jG) (d m : Nat) (x : Int) (c : Int) (I : Nat → Int) (A : Nat → Int → Int) (hI : gSI I) (hA : gSA A) (hx : -9223372036854775808 ≤ x ∧ x ≤ 9223372036854775807) (c0 : c ≠ 0) (c1 : -68719476736 ≤ c) (c2 : c ≤ 68719476736) : gct G Y_GM_over (d + 1) m [.long (jL x), .long (jL c)] I A (fun (rv : Option Value) (I2 : Nat → Int) (A2 : Nat → Int → Int) => ∃ y : Int, rv = some (.long (jL y)) ∧ (-9223372036854775808 ≤ y ∧ y ≤ 9223372036854775807) ∧ gPo [15] [] I A I2 A2) := by
  refine gct_of (by decide) (Nat.le_of_ble_eq_true rfl) (fun f0 sz => ?_)
  show jt _ 0 [(0, .ref m), (1, .long (jL x)), (3, .long (jL c))] [] _ _ _ _
  have hz0 : gPo [15] [] I A I A := gPo.refl hI hA
  refine jt_lload_n d_GM_over_0 rfl ?_
  refine jt_lconst (z := 0) d_GM_over_1 (by decide) ?_
  refine jt_lif_ge (t := 11) d_GM_over_2 d_GM_over_3 rfl (by unfold jRl; omega) (by unfold jRl; omega) (fun c1 => ?_) (fun c1 => ?_)
  · skip
    refine jt_lload_n d_GM_over_11 rfl ?_
    refine jt_lstore (L' := [(0, .ref m), (1, .long (jL x)), (3, .long (jL c)), (5, .long (jL c))]) d_GM_over_12 (Nat.le_of_ble_eq_true rfl) rfl ?_
    refine jt_lload_n d_GM_over_14 rfl ?_
    refine jt_lconst (z := 0) d_GM_over_15 (by decide) ?_
    refine jt_lif_ge (t := 25) d_GM_over_16 d_GM_over_17 rfl (by unfold jRl; omega) (by unfold jRl; omega) (fun c2 => ?_) (fun c2 => ?_)
    · skip
      refine jt_lload_n d_GM_over_25 rfl ?_
      refine jt_lstore (L' := [(0, .ref m), (1, .long (jL x)), (3, .long (jL c)), (5, .long (jL c)), (7, .long (jL x))]) d_GM_over_26 (Nat.le_of_ble_eq_true rfl) rfl ?_
      refine jt_lload d_GM_over_28 rfl ?_
      refine jt_ldc2 (z := 65536) d_GM_over_30 GM_k197 ?_
      refine jt_lif_gt (t := 82) d_GM_over_33 d_GM_over_34 rfl (by unfold jRl; omega) (by unfold jRl; omega) (fun c3 => ?_) (fun c3 => ?_)
      · skip
        refine jt_lload d_GM_over_82 rfl ?_
        refine jt_ldc2 (z := 65536) d_GM_over_84 GM_k197 ?_
        refine jt_ldiv d_GM_over_87 (by unfold jRl; omega) (by unfold jRl; omega) (by omega) ?_
        have td4 := gtd c 65536 (by omega)
        refine jt_topln (fun v5 bv5 ev5 => ?_)
        refine jt_lstore (L' := [(0, .ref m), (1, .long (jL x)), (3, .long (jL c)), (5, .long (jL c)), (7, .long (jL x)), (9, .long (jL v5))]) d_GM_over_88 (Nat.le_of_ble_eq_true rfl) rfl ?_
        refine jt_lload d_GM_over_90 rfl ?_
        refine jt_lload d_GM_over_92 rfl ?_
        refine jt_lrem d_GM_over_94 (by unfold jRl; omega) (by unfold jRl; omega) (by omega) ?_
        refine jt_topln (fun v6 bv6 ev6 => ?_)
        refine jt_lconst (z := 0) d_GM_over_95 (by decide) ?_
        refine jt_lif_eq (t := 105) d_GM_over_96 d_GM_over_97 rfl (by unfold jRl; omega) (by unfold jRl; omega) (fun c7 => ?_) (fun c7 => ?_)
        · skip
          refine jt_aload_n d_GM_over_105 rfl ?_
          refine jt_lload d_GM_over_106 rfl ?_
          refine jt_lload d_GM_over_108 rfl ?_
          refine jt_ldiv d_GM_over_110 (by unfold jRl; omega) (by unfold jRl; omega) (by omega) ?_
          refine jt_topln (fun v8 bv8 ev8 => ?_)
          refine gct_call (Y := Y_GM_kept) (As := [.long (jL v8)]) (rest := []) d_GM_over_111 GM_c185 yk_GM_kept yv_GM_kept rfl (Nat.le_of_ble_eq_true rfl) rfl rfl (Nat.le_of_ble_eq_true rfl) (w_GM_kept G _ m v8 I A hz0.1 hz0.2.1 (by omega)) (fun rvq9 Iq9 Aq9 hq9 => ?_)
          obtain ⟨yq9, rfl, ryq9, hqq9⟩ := hq9
          have hpq9 := gPo.trans hz0 hqq9 rfl rfl
          have f1q9 : Iq9 1 = I 1 := hpq9.2.2.1 1 rfl
          show jt _ 114 [(0, .ref m), (1, .long (jL x)), (3, .long (jL c)), (5, .long (jL c)), (7, .long (jL x)), (9, .long (jL v5))] [.long (jL yq9)] (gmf m f0 Iq9 Aq9) _ _ _
          exact gm_lret d_GM_over_114 rfl (⟨yq9, rfl, by omega, hpq9⟩)
        · skip
          refine jt_aload_n d_GM_over_100 rfl ?_
          refine jt_iconst d_GM_over_101 ?_
          refine gm_pI (k := 15) (v := 1) (J := va_up I 15 1) d_GM_over_102 (GM_w55 _ rfl) (by decide) (jnz (by omega)) rfl rfl ?_
          have p10 := gPo.I 15 1 hz0 rfl (show 0 ≤ 1 ∧ 1 ≤ 1 by omega)
          refine jt_aload_n d_GM_over_105 rfl ?_
          refine jt_lload d_GM_over_106 rfl ?_
          refine jt_lload d_GM_over_108 rfl ?_
          refine jt_ldiv d_GM_over_110 (by unfold jRl; omega) (by unfold jRl; omega) (by omega) ?_
          refine jt_topln (fun v11 bv11 ev11 => ?_)
          refine gct_call (Y := Y_GM_kept) (As := [.long (jL v11)]) (rest := []) d_GM_over_111 GM_c185 yk_GM_kept yv_GM_kept rfl (Nat.le_of_ble_eq_true rfl) rfl rfl (Nat.le_of_ble_eq_true rfl) (w_GM_kept G _ m v11 (va_up I 15 1) A p10.1 p10.2.1 (by omega)) (fun rvq12 Iq12 Aq12 hq12 => ?_)
          obtain ⟨yq12, rfl, ryq12, hqq12⟩ := hq12
          have hpq12 := gPo.trans p10 hqq12 rfl rfl
          have f1q12 : Iq12 1 = I 1 := hpq12.2.2.1 1 rfl
          show jt _ 114 [(0, .ref m), (1, .long (jL x)), (3, .long (jL c)), (5, .long (jL c)), (7, .long (jL x)), (9, .long (jL v5))] [.long (jL yq12)] (gmf m f0 Iq12 Aq12) _ _ _
          exact gm_lret d_GM_over_114 rfl (⟨yq12, rfl, by omega, hpq12⟩)
      · skip
        refine jt_ldc2 (z := 65536) d_GM_over_37 GM_k197 ?_
        refine jt_lload d_GM_over_40 rfl ?_
        have gd := gdiv1 65536 c (by omega) (by omega)
        refine jt_ldiv d_GM_over_42 (by unfold jRl; omega) (by unfold jRl; omega) (by omega) ?_
        refine jt_topln (fun v13 bv13 ev13 => ?_)
        refine jt_lstore (L' := [(0, .ref m), (1, .long (jL x)), (3, .long (jL c)), (5, .long (jL c)), (7, .long (jL x)), (9, .long (jL v13))]) d_GM_over_43 (Nat.le_of_ble_eq_true rfl) rfl ?_
        refine jt_lload d_GM_over_45 rfl ?_
        refine jt_ldc2 (z := 68719476736) d_GM_over_47 GM_k179 ?_
        refine jt_lload d_GM_over_50 rfl ?_
        refine jt_ldiv d_GM_over_52 (by unfold jRl; omega) (by unfold jRl; omega) (by omega) ?_
        refine jt_topln (fun v14 bv14 ev14 => ?_)
        refine jt_lif_gt (t := 69) d_GM_over_53 d_GM_over_54 rfl (by unfold jRl; omega) (by unfold jRl; omega) (fun c15 => ?_) (fun c15 => ?_)
        · skip
          refine jt_aload_n d_GM_over_69 rfl ?_
          refine jt_iconst d_GM_over_70 ?_
          refine gm_pI (k := 15) (v := 1) (J := va_up I 15 1) d_GM_over_71 (GM_w55 _ rfl) (by decide) (jnz (by omega)) rfl rfl ?_
          have p16 := gPo.I 15 1 hz0 rfl (show 0 ≤ 1 ∧ 1 ≤ 1 by omega)
          refine jt_lconst (z := 0) d_GM_over_74 (by decide) ?_
          exact gm_lret d_GM_over_75 rfl (⟨0, rfl, by omega, p16⟩)
        · skip
          refine jt_lload d_GM_over_57 rfl ?_
          refine jt_ldc2 (z := -68719476736) d_GM_over_59 GM_k181 ?_
          refine jt_lload d_GM_over_62 rfl ?_
          refine jt_ldiv d_GM_over_64 (by unfold jRl; omega) (by unfold jRl; omega) (by omega) ?_
          refine jt_topln (fun v17 bv17 ev17 => ?_)
          refine jt_lif_ge (t := 76) d_GM_over_65 d_GM_over_66 rfl (by unfold jRl; omega) (by unfold jRl; omega) (fun c18 => ?_) (fun c18 => ?_)
          · skip
            refine jt_lload d_GM_over_76 rfl ?_
            refine jt_lload d_GM_over_78 rfl ?_
            refine jt_lmul d_GM_over_80 ?_
            refine jt_topln (fun v19 bv19 ev19 => ?_)
            exact gm_lret d_GM_over_81 rfl (⟨v19, rfl, by omega, hz0⟩)
          · skip
            refine jt_aload_n d_GM_over_69 rfl ?_
            refine jt_iconst d_GM_over_70 ?_
            refine gm_pI (k := 15) (v := 1) (J := va_up I 15 1) d_GM_over_71 (GM_w55 _ rfl) (by decide) (jnz (by omega)) rfl rfl ?_
            have p20 := gPo.I 15 1 hz0 rfl (show 0 ≤ 1 ∧ 1 ≤ 1 by omega)
            refine jt_lconst (z := 0) d_GM_over_74 (by decide) ?_
            exact gm_lret d_GM_over_75 rfl (⟨0, rfl, by omega, p20⟩)
    · skip
      refine jt_lload_n d_GM_over_20 rfl ?_
      refine jt_lneg d_GM_over_21 ?_
      refine jt_topln (fun v21 bv21 ev21 => ?_)
      refine jt_goto (t := 26) d_GM_over_22 rfl ?_
      refine jt_lstore (L' := [(0, .ref m), (1, .long (jL x)), (3, .long (jL c)), (5, .long (jL c)), (7, .long (jL v21))]) d_GM_over_26 (Nat.le_of_ble_eq_true rfl) rfl ?_
      refine jt_lload d_GM_over_28 rfl ?_
      refine jt_ldc2 (z := 65536) d_GM_over_30 GM_k197 ?_
      refine jt_lif_gt (t := 82) d_GM_over_33 d_GM_over_34 rfl (by unfold jRl; omega) (by unfold jRl; omega) (fun c22 => ?_) (fun c22 => ?_)
      · skip
        refine jt_lload d_GM_over_82 rfl ?_
        refine jt_ldc2 (z := 65536) d_GM_over_84 GM_k197 ?_
        refine jt_ldiv d_GM_over_87 (by unfold jRl; omega) (by unfold jRl; omega) (by omega) ?_
        have td23 := gtd c 65536 (by omega)
        refine jt_topln (fun v24 bv24 ev24 => ?_)
        refine jt_lstore (L' := [(0, .ref m), (1, .long (jL x)), (3, .long (jL c)), (5, .long (jL c)), (7, .long (jL v21)), (9, .long (jL v24))]) d_GM_over_88 (Nat.le_of_ble_eq_true rfl) rfl ?_
        refine jt_lload d_GM_over_90 rfl ?_
        refine jt_lload d_GM_over_92 rfl ?_
        refine jt_lrem d_GM_over_94 (by unfold jRl; omega) (by unfold jRl; omega) (by omega) ?_
        refine jt_topln (fun v25 bv25 ev25 => ?_)
        refine jt_lconst (z := 0) d_GM_over_95 (by decide) ?_
        refine jt_lif_eq (t := 105) d_GM_over_96 d_GM_over_97 rfl (by unfold jRl; omega) (by unfold jRl; omega) (fun c26 => ?_) (fun c26 => ?_)
        · skip
          refine jt_aload_n d_GM_over_105 rfl ?_
          refine jt_lload d_GM_over_106 rfl ?_
          refine jt_lload d_GM_over_108 rfl ?_
          refine jt_ldiv d_GM_over_110 (by unfold jRl; omega) (by unfold jRl; omega) (by omega) ?_
          refine jt_topln (fun v27 bv27 ev27 => ?_)
          refine gct_call (Y := Y_GM_kept) (As := [.long (jL v27)]) (rest := []) d_GM_over_111 GM_c185 yk_GM_kept yv_GM_kept rfl (Nat.le_of_ble_eq_true rfl) rfl rfl (Nat.le_of_ble_eq_true rfl) (w_GM_kept G _ m v27 I A hz0.1 hz0.2.1 (by omega)) (fun rvq28 Iq28 Aq28 hq28 => ?_)
          obtain ⟨yq28, rfl, ryq28, hqq28⟩ := hq28
          have hpq28 := gPo.trans hz0 hqq28 rfl rfl
          have f1q28 : Iq28 1 = I 1 := hpq28.2.2.1 1 rfl
          show jt _ 114 [(0, .ref m), (1, .long (jL x)), (3, .long (jL c)), (5, .long (jL c)), (7, .long (jL v21)), (9, .long (jL v24))] [.long (jL yq28)] (gmf m f0 Iq28 Aq28) _ _ _
          exact gm_lret d_GM_over_114 rfl (⟨yq28, rfl, by omega, hpq28⟩)
        · skip
          refine jt_aload_n d_GM_over_100 rfl ?_
          refine jt_iconst d_GM_over_101 ?_
          refine gm_pI (k := 15) (v := 1) (J := va_up I 15 1) d_GM_over_102 (GM_w55 _ rfl) (by decide) (jnz (by omega)) rfl rfl ?_
          have p29 := gPo.I 15 1 hz0 rfl (show 0 ≤ 1 ∧ 1 ≤ 1 by omega)
          refine jt_aload_n d_GM_over_105 rfl ?_
          refine jt_lload d_GM_over_106 rfl ?_
          refine jt_lload d_GM_over_108 rfl ?_
          refine jt_ldiv d_GM_over_110 (by unfold jRl; omega) (by unfold jRl; omega) (by omega) ?_
          refine jt_topln (fun v30 bv30 ev30 => ?_)
          refine gct_call (Y := Y_GM_kept) (As := [.long (jL v30)]) (rest := []) d_GM_over_111 GM_c185 yk_GM_kept yv_GM_kept rfl (Nat.le_of_ble_eq_true rfl) rfl rfl (Nat.le_of_ble_eq_true rfl) (w_GM_kept G _ m v30 (va_up I 15 1) A p29.1 p29.2.1 (by omega)) (fun rvq31 Iq31 Aq31 hq31 => ?_)
          obtain ⟨yq31, rfl, ryq31, hqq31⟩ := hq31
          have hpq31 := gPo.trans p29 hqq31 rfl rfl
          have f1q31 : Iq31 1 = I 1 := hpq31.2.2.1 1 rfl
          show jt _ 114 [(0, .ref m), (1, .long (jL x)), (3, .long (jL c)), (5, .long (jL c)), (7, .long (jL v21)), (9, .long (jL v24))] [.long (jL yq31)] (gmf m f0 Iq31 Aq31) _ _ _
          exact gm_lret d_GM_over_114 rfl (⟨yq31, rfl, by omega, hpq31⟩)
      · skip
        refine jt_ldc2 (z := 65536) d_GM_over_37 GM_k197 ?_
        refine jt_lload d_GM_over_40 rfl ?_
        have gd := gdiv1 65536 c (by omega) (by omega)
        refine jt_ldiv d_GM_over_42 (by unfold jRl; omega) (by unfold jRl; omega) (by omega) ?_
        refine jt_topln (fun v32 bv32 ev32 => ?_)
        refine jt_lstore (L' := [(0, .ref m), (1, .long (jL x)), (3, .long (jL c)), (5, .long (jL c)), (7, .long (jL v21)), (9, .long (jL v32))]) d_GM_over_43 (Nat.le_of_ble_eq_true rfl) rfl ?_
        refine jt_lload d_GM_over_45 rfl ?_
        refine jt_ldc2 (z := 68719476736) d_GM_over_47 GM_k179 ?_
        refine jt_lload d_GM_over_50 rfl ?_
        refine jt_ldiv d_GM_over_52 (by unfold jRl; omega) (by unfold jRl; omega) (by omega) ?_
        refine jt_topln (fun v33 bv33 ev33 => ?_)
        refine jt_lif_gt (t := 69) d_GM_over_53 d_GM_over_54 rfl (by unfold jRl; omega) (by unfold jRl; omega) (fun c34 => ?_) (fun c34 => ?_)
        · skip
          refine jt_aload_n d_GM_over_69 rfl ?_
          refine jt_iconst d_GM_over_70 ?_
          refine gm_pI (k := 15) (v := 1) (J := va_up I 15 1) d_GM_over_71 (GM_w55 _ rfl) (by decide) (jnz (by omega)) rfl rfl ?_
          have p35 := gPo.I 15 1 hz0 rfl (show 0 ≤ 1 ∧ 1 ≤ 1 by omega)
          refine jt_lconst (z := 0) d_GM_over_74 (by decide) ?_
          exact gm_lret d_GM_over_75 rfl (⟨0, rfl, by omega, p35⟩)
        · skip
          refine jt_lload d_GM_over_57 rfl ?_
          refine jt_ldc2 (z := -68719476736) d_GM_over_59 GM_k181 ?_
          refine jt_lload d_GM_over_62 rfl ?_
          refine jt_ldiv d_GM_over_64 (by unfold jRl; omega) (by unfold jRl; omega) (by omega) ?_
          refine jt_topln (fun v36 bv36 ev36 => ?_)
          refine jt_lif_ge (t := 76) d_GM_over_65 d_GM_over_66 rfl (by unfold jRl; omega) (by unfold jRl; omega) (fun c37 => ?_) (fun c37 => ?_)
          · skip
            refine jt_lload d_GM_over_76 rfl ?_
            refine jt_lload d_GM_over_78 rfl ?_
            refine jt_lmul d_GM_over_80 ?_
            refine jt_topln (fun v38 bv38 ev38 => ?_)
            exact gm_lret d_GM_over_81 rfl (⟨v38, rfl, by omega, hz0⟩)
          · skip
            refine jt_aload_n d_GM_over_69 rfl ?_
            refine jt_iconst d_GM_over_70 ?_
            refine gm_pI (k := 15) (v := 1) (J := va_up I 15 1) d_GM_over_71 (GM_w55 _ rfl) (by decide) (jnz (by omega)) rfl rfl ?_
            have p39 := gPo.I 15 1 hz0 rfl (show 0 ≤ 1 ∧ 1 ≤ 1 by omega)
            refine jt_lconst (z := 0) d_GM_over_74 (by decide) ?_
            exact gm_lret d_GM_over_75 rfl (⟨0, rfl, by omega, p39⟩)
  · skip
    refine jt_lload_n d_GM_over_6 rfl ?_
    refine jt_lneg d_GM_over_7 ?_
    refine jt_topln (fun v40 bv40 ev40 => ?_)
    refine jt_goto (t := 12) d_GM_over_8 rfl ?_
    refine jt_lstore (L' := [(0, .ref m), (1, .long (jL x)), (3, .long (jL c)), (5, .long (jL v40))]) d_GM_over_12 (Nat.le_of_ble_eq_true rfl) rfl ?_
    refine jt_lload_n d_GM_over_14 rfl ?_
    refine jt_lconst (z := 0) d_GM_over_15 (by decide) ?_
    refine jt_lif_ge (t := 25) d_GM_over_16 d_GM_over_17 rfl (by unfold jRl; omega) (by unfold jRl; omega) (fun c41 => ?_) (fun c41 => ?_)
    · skip
      refine jt_lload_n d_GM_over_25 rfl ?_
      refine jt_lstore (L' := [(0, .ref m), (1, .long (jL x)), (3, .long (jL c)), (5, .long (jL v40)), (7, .long (jL x))]) d_GM_over_26 (Nat.le_of_ble_eq_true rfl) rfl ?_
      refine jt_lload d_GM_over_28 rfl ?_
      refine jt_ldc2 (z := 65536) d_GM_over_30 GM_k197 ?_
      refine jt_lif_gt (t := 82) d_GM_over_33 d_GM_over_34 rfl (by unfold jRl; omega) (by unfold jRl; omega) (fun c42 => ?_) (fun c42 => ?_)
      · skip
        refine jt_lload d_GM_over_82 rfl ?_
        refine jt_ldc2 (z := 65536) d_GM_over_84 GM_k197 ?_
        refine jt_ldiv d_GM_over_87 (by unfold jRl; omega) (by unfold jRl; omega) (by omega) ?_
        have td43 := gtd v40 65536 (by omega)
        refine jt_topln (fun v44 bv44 ev44 => ?_)
        refine jt_lstore (L' := [(0, .ref m), (1, .long (jL x)), (3, .long (jL c)), (5, .long (jL v40)), (7, .long (jL x)), (9, .long (jL v44))]) d_GM_over_88 (Nat.le_of_ble_eq_true rfl) rfl ?_
        refine jt_lload d_GM_over_90 rfl ?_
        refine jt_lload d_GM_over_92 rfl ?_
        refine jt_lrem d_GM_over_94 (by unfold jRl; omega) (by unfold jRl; omega) (by omega) ?_
        refine jt_topln (fun v45 bv45 ev45 => ?_)
        refine jt_lconst (z := 0) d_GM_over_95 (by decide) ?_
        refine jt_lif_eq (t := 105) d_GM_over_96 d_GM_over_97 rfl (by unfold jRl; omega) (by unfold jRl; omega) (fun c46 => ?_) (fun c46 => ?_)
        · skip
          refine jt_aload_n d_GM_over_105 rfl ?_
          refine jt_lload d_GM_over_106 rfl ?_
          refine jt_lload d_GM_over_108 rfl ?_
          refine jt_ldiv d_GM_over_110 (by unfold jRl; omega) (by unfold jRl; omega) (by omega) ?_
          refine jt_topln (fun v47 bv47 ev47 => ?_)
          refine gct_call (Y := Y_GM_kept) (As := [.long (jL v47)]) (rest := []) d_GM_over_111 GM_c185 yk_GM_kept yv_GM_kept rfl (Nat.le_of_ble_eq_true rfl) rfl rfl (Nat.le_of_ble_eq_true rfl) (w_GM_kept G _ m v47 I A hz0.1 hz0.2.1 (by omega)) (fun rvq48 Iq48 Aq48 hq48 => ?_)
          obtain ⟨yq48, rfl, ryq48, hqq48⟩ := hq48
          have hpq48 := gPo.trans hz0 hqq48 rfl rfl
          have f1q48 : Iq48 1 = I 1 := hpq48.2.2.1 1 rfl
          show jt _ 114 [(0, .ref m), (1, .long (jL x)), (3, .long (jL c)), (5, .long (jL v40)), (7, .long (jL x)), (9, .long (jL v44))] [.long (jL yq48)] (gmf m f0 Iq48 Aq48) _ _ _
          exact gm_lret d_GM_over_114 rfl (⟨yq48, rfl, by omega, hpq48⟩)
        · skip
          refine jt_aload_n d_GM_over_100 rfl ?_
          refine jt_iconst d_GM_over_101 ?_
          refine gm_pI (k := 15) (v := 1) (J := va_up I 15 1) d_GM_over_102 (GM_w55 _ rfl) (by decide) (jnz (by omega)) rfl rfl ?_
          have p49 := gPo.I 15 1 hz0 rfl (show 0 ≤ 1 ∧ 1 ≤ 1 by omega)
          refine jt_aload_n d_GM_over_105 rfl ?_
          refine jt_lload d_GM_over_106 rfl ?_
          refine jt_lload d_GM_over_108 rfl ?_
          refine jt_ldiv d_GM_over_110 (by unfold jRl; omega) (by unfold jRl; omega) (by omega) ?_
          refine jt_topln (fun v50 bv50 ev50 => ?_)
          refine gct_call (Y := Y_GM_kept) (As := [.long (jL v50)]) (rest := []) d_GM_over_111 GM_c185 yk_GM_kept yv_GM_kept rfl (Nat.le_of_ble_eq_true rfl) rfl rfl (Nat.le_of_ble_eq_true rfl) (w_GM_kept G _ m v50 (va_up I 15 1) A p49.1 p49.2.1 (by omega)) (fun rvq51 Iq51 Aq51 hq51 => ?_)
          obtain ⟨yq51, rfl, ryq51, hqq51⟩ := hq51
          have hpq51 := gPo.trans p49 hqq51 rfl rfl
          have f1q51 : Iq51 1 = I 1 := hpq51.2.2.1 1 rfl
          show jt _ 114 [(0, .ref m), (1, .long (jL x)), (3, .long (jL c)), (5, .long (jL v40)), (7, .long (jL x)), (9, .long (jL v44))] [.long (jL yq51)] (gmf m f0 Iq51 Aq51) _ _ _
          exact gm_lret d_GM_over_114 rfl (⟨yq51, rfl, by omega, hpq51⟩)
      · skip
        refine jt_ldc2 (z := 65536) d_GM_over_37 GM_k197 ?_
        refine jt_lload d_GM_over_40 rfl ?_
        have gd := gdiv1 65536 v40 (by omega) (by omega)
        refine jt_ldiv d_GM_over_42 (by unfold jRl; omega) (by unfold jRl; omega) (by omega) ?_
        refine jt_topln (fun v52 bv52 ev52 => ?_)
        refine jt_lstore (L' := [(0, .ref m), (1, .long (jL x)), (3, .long (jL c)), (5, .long (jL v40)), (7, .long (jL x)), (9, .long (jL v52))]) d_GM_over_43 (Nat.le_of_ble_eq_true rfl) rfl ?_
        refine jt_lload d_GM_over_45 rfl ?_
        refine jt_ldc2 (z := 68719476736) d_GM_over_47 GM_k179 ?_
        refine jt_lload d_GM_over_50 rfl ?_
        refine jt_ldiv d_GM_over_52 (by unfold jRl; omega) (by unfold jRl; omega) (by omega) ?_
        refine jt_topln (fun v53 bv53 ev53 => ?_)
        refine jt_lif_gt (t := 69) d_GM_over_53 d_GM_over_54 rfl (by unfold jRl; omega) (by unfold jRl; omega) (fun c54 => ?_) (fun c54 => ?_)
        · skip
          refine jt_aload_n d_GM_over_69 rfl ?_
          refine jt_iconst d_GM_over_70 ?_
          refine gm_pI (k := 15) (v := 1) (J := va_up I 15 1) d_GM_over_71 (GM_w55 _ rfl) (by decide) (jnz (by omega)) rfl rfl ?_
          have p55 := gPo.I 15 1 hz0 rfl (show 0 ≤ 1 ∧ 1 ≤ 1 by omega)
          refine jt_lconst (z := 0) d_GM_over_74 (by decide) ?_
          exact gm_lret d_GM_over_75 rfl (⟨0, rfl, by omega, p55⟩)
        · skip
          refine jt_lload d_GM_over_57 rfl ?_
          refine jt_ldc2 (z := -68719476736) d_GM_over_59 GM_k181 ?_
          refine jt_lload d_GM_over_62 rfl ?_
          refine jt_ldiv d_GM_over_64 (by unfold jRl; omega) (by unfold jRl; omega) (by omega) ?_
          refine jt_topln (fun v56 bv56 ev56 => ?_)
          refine jt_lif_ge (t := 76) d_GM_over_65 d_GM_over_66 rfl (by unfold jRl; omega) (by unfold jRl; omega) (fun c57 => ?_) (fun c57 => ?_)
          · skip
            refine jt_lload d_GM_over_76 rfl ?_
            refine jt_lload d_GM_over_78 rfl ?_
            refine jt_lmul d_GM_over_80 ?_
            refine jt_topln (fun v58 bv58 ev58 => ?_)
            exact gm_lret d_GM_over_81 rfl (⟨v58, rfl, by omega, hz0⟩)
          · skip
            refine jt_aload_n d_GM_over_69 rfl ?_
            refine jt_iconst d_GM_over_70 ?_
            refine gm_pI (k := 15) (v := 1) (J := va_up I 15 1) d_GM_over_71 (GM_w55 _ rfl) (by decide) (jnz (by omega)) rfl rfl ?_
            have p59 := gPo.I 15 1 hz0 rfl (show 0 ≤ 1 ∧ 1 ≤ 1 by omega)
            refine jt_lconst (z := 0) d_GM_over_74 (by decide) ?_
            exact gm_lret d_GM_over_75 rfl (⟨0, rfl, by omega, p59⟩)
    · skip
      refine jt_lload_n d_GM_over_20 rfl ?_
      refine jt_lneg d_GM_over_21 ?_
      refine jt_topln (fun v60 bv60 ev60 => ?_)
      refine jt_goto (t := 26) d_GM_over_22 rfl ?_
      refine jt_lstore (L' := [(0, .ref m), (1, .long (jL x)), (3, .long (jL c)), (5, .long (jL v40)), (7, .long (jL v60))]) d_GM_over_26 (Nat.le_of_ble_eq_true rfl) rfl ?_
      refine jt_lload d_GM_over_28 rfl ?_
      refine jt_ldc2 (z := 65536) d_GM_over_30 GM_k197 ?_
      refine jt_lif_gt (t := 82) d_GM_over_33 d_GM_over_34 rfl (by unfold jRl; omega) (by unfold jRl; omega) (fun c61 => ?_) (fun c61 => ?_)
      · skip
        refine jt_lload d_GM_over_82 rfl ?_
        refine jt_ldc2 (z := 65536) d_GM_over_84 GM_k197 ?_
        refine jt_ldiv d_GM_over_87 (by unfold jRl; omega) (by unfold jRl; omega) (by omega) ?_
        have td62 := gtd v40 65536 (by omega)
        refine jt_topln (fun v63 bv63 ev63 => ?_)
        refine jt_lstore (L' := [(0, .ref m), (1, .long (jL x)), (3, .long (jL c)), (5, .long (jL v40)), (7, .long (jL v60)), (9, .long (jL v63))]) d_GM_over_88 (Nat.le_of_ble_eq_true rfl) rfl ?_
        refine jt_lload d_GM_over_90 rfl ?_
        refine jt_lload d_GM_over_92 rfl ?_
        refine jt_lrem d_GM_over_94 (by unfold jRl; omega) (by unfold jRl; omega) (by omega) ?_
        refine jt_topln (fun v64 bv64 ev64 => ?_)
        refine jt_lconst (z := 0) d_GM_over_95 (by decide) ?_
        refine jt_lif_eq (t := 105) d_GM_over_96 d_GM_over_97 rfl (by unfold jRl; omega) (by unfold jRl; omega) (fun c65 => ?_) (fun c65 => ?_)
        · skip
          refine jt_aload_n d_GM_over_105 rfl ?_
          refine jt_lload d_GM_over_106 rfl ?_
          refine jt_lload d_GM_over_108 rfl ?_
          refine jt_ldiv d_GM_over_110 (by unfold jRl; omega) (by unfold jRl; omega) (by omega) ?_
          refine jt_topln (fun v66 bv66 ev66 => ?_)
          refine gct_call (Y := Y_GM_kept) (As := [.long (jL v66)]) (rest := []) d_GM_over_111 GM_c185 yk_GM_kept yv_GM_kept rfl (Nat.le_of_ble_eq_true rfl) rfl rfl (Nat.le_of_ble_eq_true rfl) (w_GM_kept G _ m v66 I A hz0.1 hz0.2.1 (by omega)) (fun rvq67 Iq67 Aq67 hq67 => ?_)
          obtain ⟨yq67, rfl, ryq67, hqq67⟩ := hq67
          have hpq67 := gPo.trans hz0 hqq67 rfl rfl
          have f1q67 : Iq67 1 = I 1 := hpq67.2.2.1 1 rfl
          show jt _ 114 [(0, .ref m), (1, .long (jL x)), (3, .long (jL c)), (5, .long (jL v40)), (7, .long (jL v60)), (9, .long (jL v63))] [.long (jL yq67)] (gmf m f0 Iq67 Aq67) _ _ _
          exact gm_lret d_GM_over_114 rfl (⟨yq67, rfl, by omega, hpq67⟩)
        · skip
          refine jt_aload_n d_GM_over_100 rfl ?_
          refine jt_iconst d_GM_over_101 ?_
          refine gm_pI (k := 15) (v := 1) (J := va_up I 15 1) d_GM_over_102 (GM_w55 _ rfl) (by decide) (jnz (by omega)) rfl rfl ?_
          have p68 := gPo.I 15 1 hz0 rfl (show 0 ≤ 1 ∧ 1 ≤ 1 by omega)
          refine jt_aload_n d_GM_over_105 rfl ?_
          refine jt_lload d_GM_over_106 rfl ?_
          refine jt_lload d_GM_over_108 rfl ?_
          refine jt_ldiv d_GM_over_110 (by unfold jRl; omega) (by unfold jRl; omega) (by omega) ?_
          refine jt_topln (fun v69 bv69 ev69 => ?_)
          refine gct_call (Y := Y_GM_kept) (As := [.long (jL v69)]) (rest := []) d_GM_over_111 GM_c185 yk_GM_kept yv_GM_kept rfl (Nat.le_of_ble_eq_true rfl) rfl rfl (Nat.le_of_ble_eq_true rfl) (w_GM_kept G _ m v69 (va_up I 15 1) A p68.1 p68.2.1 (by omega)) (fun rvq70 Iq70 Aq70 hq70 => ?_)
          obtain ⟨yq70, rfl, ryq70, hqq70⟩ := hq70
          have hpq70 := gPo.trans p68 hqq70 rfl rfl
          have f1q70 : Iq70 1 = I 1 := hpq70.2.2.1 1 rfl
          show jt _ 114 [(0, .ref m), (1, .long (jL x)), (3, .long (jL c)), (5, .long (jL v40)), (7, .long (jL v60)), (9, .long (jL v63))] [.long (jL yq70)] (gmf m f0 Iq70 Aq70) _ _ _
          exact gm_lret d_GM_over_114 rfl (⟨yq70, rfl, by omega, hpq70⟩)
      · skip
        refine jt_ldc2 (z := 65536) d_GM_over_37 GM_k197 ?_
        refine jt_lload d_GM_over_40 rfl ?_
        have gd := gdiv1 65536 v40 (by omega) (by omega)
        refine jt_ldiv d_GM_over_42 (by unfold jRl; omega) (by unfold jRl; omega) (by omega) ?_
        refine jt_topln (fun v71 bv71 ev71 => ?_)
        refine jt_lstore (L' := [(0, .ref m), (1, .long (jL x)), (3, .long (jL c)), (5, .long (jL v40)), (7, .long (jL v60)), (9, .long (jL v71))]) d_GM_over_43 (Nat.le_of_ble_eq_true rfl) rfl ?_
        refine jt_lload d_GM_over_45 rfl ?_
        refine jt_ldc2 (z := 68719476736) d_GM_over_47 GM_k179 ?_
        refine jt_lload d_GM_over_50 rfl ?_
        refine jt_ldiv d_GM_over_52 (by unfold jRl; omega) (by unfold jRl; omega) (by omega) ?_
        refine jt_topln (fun v72 bv72 ev72 => ?_)
        refine jt_lif_gt (t := 69) d_GM_over_53 d_GM_over_54 rfl (by unfold jRl; omega) (by unfold jRl; omega) (fun c73 => ?_) (fun c73 => ?_)
        · skip
          refine jt_aload_n d_GM_over_69 rfl ?_
          refine jt_iconst d_GM_over_70 ?_
          refine gm_pI (k := 15) (v := 1) (J := va_up I 15 1) d_GM_over_71 (GM_w55 _ rfl) (by decide) (jnz (by omega)) rfl rfl ?_
          have p74 := gPo.I 15 1 hz0 rfl (show 0 ≤ 1 ∧ 1 ≤ 1 by omega)
          refine jt_lconst (z := 0) d_GM_over_74 (by decide) ?_
          exact gm_lret d_GM_over_75 rfl (⟨0, rfl, by omega, p74⟩)
        · skip
          refine jt_lload d_GM_over_57 rfl ?_
          refine jt_ldc2 (z := -68719476736) d_GM_over_59 GM_k181 ?_
          refine jt_lload d_GM_over_62 rfl ?_
          refine jt_ldiv d_GM_over_64 (by unfold jRl; omega) (by unfold jRl; omega) (by omega) ?_
          refine jt_topln (fun v75 bv75 ev75 => ?_)
          refine jt_lif_ge (t := 76) d_GM_over_65 d_GM_over_66 rfl (by unfold jRl; omega) (by unfold jRl; omega) (fun c76 => ?_) (fun c76 => ?_)
          · skip
            refine jt_lload d_GM_over_76 rfl ?_
            refine jt_lload d_GM_over_78 rfl ?_
            refine jt_lmul d_GM_over_80 ?_
            refine jt_topln (fun v77 bv77 ev77 => ?_)
            exact gm_lret d_GM_over_81 rfl (⟨v77, rfl, by omega, hz0⟩)
          · skip
            refine jt_aload_n d_GM_over_69 rfl ?_
            refine jt_iconst d_GM_over_70 ?_
            refine gm_pI (k := 15) (v := 1) (J := va_up I 15 1) d_GM_over_71 (GM_w55 _ rfl) (by decide) (jnz (by omega)) rfl rfl ?_
            have p78 := gPo.I 15 1 hz0 rfl (show 0 ≤ 1 ∧ 1 ≤ 1 by omega)
            refine jt_lconst (z := 0) d_GM_over_74 (by decide) ?_
            exact gm_lret d_GM_over_75 rfl (⟨0, rfl, by omega, p78⟩)
set_option maxRecDepth 100000 in
set_option maxHeartbeats 1000000 in
theorem l55_GM_timesw (G : jG) (d m : Nat) (x : Int) (y : Int) (I : Nat → Int) (A : Nat → Int → Int) (hI : gSI I) (hA : gSA A) (hx : -9223372036854775808 ≤ x ∧ x ≤ 9223372036854775807) (hy : -65536000 ≤ y ∧ y ≤ 65536000) (f0 : jF) (sz : Nat) (a : Int) (ha : -9223372036854775808 ≤ a ∧ a ≤ 9223372036854775807) : ∀ (n9 : Nat) (b : Int) (s : Int) (J : Nat → Int) (B : Nat → Int → Int), gPo [15] [] I A J B → (¬ b = 0) → (-65536000 ≤ b ∧ b ≤ 65536000) → (0 ≤ s) → (s ≤ 16) → 16 - s < (n9 : Int) → jt (jm G Y_GM_times (gR (d + 1)) (gQ m f0 sz (fun (rv : Option Value) (I2 : Nat → Int) (A2 : Nat → Int → Int) => ∃ y : Int, rv = some (.long (jL y)) ∧ (-9223372036854775808 ≤ y ∧ y ≤ 9223372036854775807) ∧ gPo [15] [] I A I2 A2))) 55 [(0, .ref m), (1, .long (jL x)), (3, .long (jL y)), (5, .long (jL a)), (7, .long (jL b)), (9, .int (jI s))] [] (gmf m f0 J B) sz 0 0 := by
  intro n9
  induction n9 with
  | zero =>
    intro b s J B hJ b0 b1 s0 s1 hmeas
    exfalso
    omega
  | succ n9 ih =>
    intro b s J B hJ b0 b1 s0 s1 hmeas
    refine jt_iload d_GM_times_55 rfl ?_
    refine jt_bipush d_GM_times_57 (by omega) ?_
    refine jt_icmp_ge (t := 87) d_GM_times_59 rfl (by unfold jRi; omega) (by unfold jRi; omega) (fun c101 => ?_) (fun c101 => ?_)
    · skip
      refine jt_lload d_GM_times_87 rfl ?_
      refine jt_lconst (z := 0) d_GM_times_89 (by decide) ?_
      refine jt_lif_ge (t := 100) d_GM_times_90 d_GM_times_91 rfl (by unfold jRl; omega) (by unfold jRl; omega) (fun c102 => ?_) (fun c102 => ?_)
      · skip
        refine jt_lload d_GM_times_100 rfl ?_
        refine jt_lstore (L' := [(0, .ref m), (1, .long (jL x)), (3, .long (jL y)), (5, .long (jL a)), (7, .long (jL b)), (9, .int (jI s)), (10, .long (jL a))]) d_GM_times_102 (Nat.le_of_ble_eq_true rfl) rfl ?_
        refine jt_lload d_GM_times_104 rfl ?_
        refine jt_lconst (z := 0) d_GM_times_106 (by decide) ?_
        refine jt_lif_ge (t := 117) d_GM_times_107 d_GM_times_108 rfl (by unfold jRl; omega) (by unfold jRl; omega) (fun c103 => ?_) (fun c103 => ?_)
        · skip
          refine jt_lload d_GM_times_117 rfl ?_
          refine jt_lstore (L' := [(0, .ref m), (1, .long (jL x)), (3, .long (jL y)), (5, .long (jL a)), (7, .long (jL b)), (9, .int (jI s)), (10, .long (jL a)), (12, .long (jL b))]) d_GM_times_119 (Nat.le_of_ble_eq_true rfl) rfl ?_
          refine jt_iload d_GM_times_121 rfl ?_
          refine jt_bipush d_GM_times_123 (by omega) ?_
          refine jt_icmp_lt (t := 140) d_GM_times_125 rfl (by unfold jRi; omega) (by unfold jRi; omega) (fun c104 => ?_) (fun c104 => ?_)
          · skip
            refine jt_aload_n d_GM_times_140 rfl ?_
            refine jt_iconst d_GM_times_141 ?_
            refine gm_pI (k := 15) (v := 1) (J := va_up J 15 1) d_GM_times_142 (GM_w55 _ rfl) (by decide) (jnz (by omega)) rfl rfl ?_
            have p105 := gPo.I 15 1 hJ rfl (show 0 ≤ 1 ∧ 1 ≤ 1 by omega)
            refine jt_lconst (z := 0) d_GM_times_145 (by decide) ?_
            exact gm_lret d_GM_times_146 rfl (⟨0, rfl, by omega, p105⟩)
          · skip
            refine jt_lload d_GM_times_128 rfl ?_
            refine jt_ldc2 (z := 68719476736) d_GM_times_130 GM_k179 ?_
            refine jt_lload d_GM_times_133 rfl ?_
            refine jt_ldiv d_GM_times_135 (by unfold jRl; omega) (by unfold jRl; omega) (by omega) ?_
            refine jt_topln (fun v106 bv106 ev106 => ?_)
            refine jt_lif_le (t := 147) d_GM_times_136 d_GM_times_137 rfl (by unfold jRl; omega) (by unfold jRl; omega) (fun c107 => ?_) (fun c107 => ?_)
            · skip
              refine jt_aload_n d_GM_times_147 rfl ?_
              refine jt_lload d_GM_times_148 rfl ?_
              refine jt_lload d_GM_times_150 rfl ?_
              refine jt_lmul d_GM_times_152 ?_
              refine jt_topln (fun v108 bv108 ev108 => ?_)
              refine gct_call (Y := Y_GM_kept) (As := [.long (jL v108)]) (rest := []) d_GM_times_153 GM_c185 yk_GM_kept yv_GM_kept rfl (Nat.le_of_ble_eq_true rfl) rfl rfl (Nat.le_of_ble_eq_true rfl) (w_GM_kept G _ m v108 J B hJ.1 hJ.2.1 (by omega)) (fun rvq109 Iq109 Aq109 hq109 => ?_)
              obtain ⟨yq109, rfl, ryq109, hqq109⟩ := hq109
              have hpq109 := gPo.trans hJ hqq109 rfl rfl
              have f1q109 : Iq109 1 = I 1 := hpq109.2.2.1 1 rfl
              show jt _ 156 [(0, .ref m), (1, .long (jL x)), (3, .long (jL y)), (5, .long (jL a)), (7, .long (jL b)), (9, .int (jI s)), (10, .long (jL a)), (12, .long (jL b))] [.long (jL yq109)] (gmf m f0 Iq109 Aq109) _ _ _
              exact gm_lret d_GM_times_156 rfl (⟨yq109, rfl, by omega, hpq109⟩)
            · skip
              refine jt_aload_n d_GM_times_140 rfl ?_
              refine jt_iconst d_GM_times_141 ?_
              refine gm_pI (k := 15) (v := 1) (J := va_up J 15 1) d_GM_times_142 (GM_w55 _ rfl) (by decide) (jnz (by omega)) rfl rfl ?_
              have p110 := gPo.I 15 1 hJ rfl (show 0 ≤ 1 ∧ 1 ≤ 1 by omega)
              refine jt_lconst (z := 0) d_GM_times_145 (by decide) ?_
              exact gm_lret d_GM_times_146 rfl (⟨0, rfl, by omega, p110⟩)
        · skip
          refine jt_lload d_GM_times_111 rfl ?_
          refine jt_lneg d_GM_times_113 ?_
          refine jt_topln (fun v111 bv111 ev111 => ?_)
          refine jt_goto (t := 119) d_GM_times_114 rfl ?_
          refine jt_lstore (L' := [(0, .ref m), (1, .long (jL x)), (3, .long (jL y)), (5, .long (jL a)), (7, .long (jL b)), (9, .int (jI s)), (10, .long (jL a)), (12, .long (jL v111))]) d_GM_times_119 (Nat.le_of_ble_eq_true rfl) rfl ?_
          refine jt_iload d_GM_times_121 rfl ?_
          refine jt_bipush d_GM_times_123 (by omega) ?_
          refine jt_icmp_lt (t := 140) d_GM_times_125 rfl (by unfold jRi; omega) (by unfold jRi; omega) (fun c112 => ?_) (fun c112 => ?_)
          · skip
            refine jt_aload_n d_GM_times_140 rfl ?_
            refine jt_iconst d_GM_times_141 ?_
            refine gm_pI (k := 15) (v := 1) (J := va_up J 15 1) d_GM_times_142 (GM_w55 _ rfl) (by decide) (jnz (by omega)) rfl rfl ?_
            have p113 := gPo.I 15 1 hJ rfl (show 0 ≤ 1 ∧ 1 ≤ 1 by omega)
            refine jt_lconst (z := 0) d_GM_times_145 (by decide) ?_
            exact gm_lret d_GM_times_146 rfl (⟨0, rfl, by omega, p113⟩)
          · skip
            refine jt_lload d_GM_times_128 rfl ?_
            refine jt_ldc2 (z := 68719476736) d_GM_times_130 GM_k179 ?_
            refine jt_lload d_GM_times_133 rfl ?_
            refine jt_ldiv d_GM_times_135 (by unfold jRl; omega) (by unfold jRl; omega) (by omega) ?_
            refine jt_topln (fun v114 bv114 ev114 => ?_)
            refine jt_lif_le (t := 147) d_GM_times_136 d_GM_times_137 rfl (by unfold jRl; omega) (by unfold jRl; omega) (fun c115 => ?_) (fun c115 => ?_)
            · skip
              refine jt_aload_n d_GM_times_147 rfl ?_
              refine jt_lload d_GM_times_148 rfl ?_
              refine jt_lload d_GM_times_150 rfl ?_
              refine jt_lmul d_GM_times_152 ?_
              refine jt_topln (fun v116 bv116 ev116 => ?_)
              refine gct_call (Y := Y_GM_kept) (As := [.long (jL v116)]) (rest := []) d_GM_times_153 GM_c185 yk_GM_kept yv_GM_kept rfl (Nat.le_of_ble_eq_true rfl) rfl rfl (Nat.le_of_ble_eq_true rfl) (w_GM_kept G _ m v116 J B hJ.1 hJ.2.1 (by omega)) (fun rvq117 Iq117 Aq117 hq117 => ?_)
              obtain ⟨yq117, rfl, ryq117, hqq117⟩ := hq117
              have hpq117 := gPo.trans hJ hqq117 rfl rfl
              have f1q117 : Iq117 1 = I 1 := hpq117.2.2.1 1 rfl
              show jt _ 156 [(0, .ref m), (1, .long (jL x)), (3, .long (jL y)), (5, .long (jL a)), (7, .long (jL b)), (9, .int (jI s)), (10, .long (jL a)), (12, .long (jL v111))] [.long (jL yq117)] (gmf m f0 Iq117 Aq117) _ _ _
              exact gm_lret d_GM_times_156 rfl (⟨yq117, rfl, by omega, hpq117⟩)
            · skip
              refine jt_aload_n d_GM_times_140 rfl ?_
              refine jt_iconst d_GM_times_141 ?_
              refine gm_pI (k := 15) (v := 1) (J := va_up J 15 1) d_GM_times_142 (GM_w55 _ rfl) (by decide) (jnz (by omega)) rfl rfl ?_
              have p118 := gPo.I 15 1 hJ rfl (show 0 ≤ 1 ∧ 1 ≤ 1 by omega)
              refine jt_lconst (z := 0) d_GM_times_145 (by decide) ?_
              exact gm_lret d_GM_times_146 rfl (⟨0, rfl, by omega, p118⟩)
      · skip
        refine jt_lload d_GM_times_94 rfl ?_
        refine jt_lneg d_GM_times_96 ?_
        refine jt_topln (fun v119 bv119 ev119 => ?_)
        refine jt_goto (t := 102) d_GM_times_97 rfl ?_
        refine jt_lstore (L' := [(0, .ref m), (1, .long (jL x)), (3, .long (jL y)), (5, .long (jL a)), (7, .long (jL b)), (9, .int (jI s)), (10, .long (jL v119))]) d_GM_times_102 (Nat.le_of_ble_eq_true rfl) rfl ?_
        refine jt_lload d_GM_times_104 rfl ?_
        refine jt_lconst (z := 0) d_GM_times_106 (by decide) ?_
        refine jt_lif_ge (t := 117) d_GM_times_107 d_GM_times_108 rfl (by unfold jRl; omega) (by unfold jRl; omega) (fun c120 => ?_) (fun c120 => ?_)
        · skip
          refine jt_lload d_GM_times_117 rfl ?_
          refine jt_lstore (L' := [(0, .ref m), (1, .long (jL x)), (3, .long (jL y)), (5, .long (jL a)), (7, .long (jL b)), (9, .int (jI s)), (10, .long (jL v119)), (12, .long (jL b))]) d_GM_times_119 (Nat.le_of_ble_eq_true rfl) rfl ?_
          refine jt_iload d_GM_times_121 rfl ?_
          refine jt_bipush d_GM_times_123 (by omega) ?_
          refine jt_icmp_lt (t := 140) d_GM_times_125 rfl (by unfold jRi; omega) (by unfold jRi; omega) (fun c121 => ?_) (fun c121 => ?_)
          · skip
            refine jt_aload_n d_GM_times_140 rfl ?_
            refine jt_iconst d_GM_times_141 ?_
            refine gm_pI (k := 15) (v := 1) (J := va_up J 15 1) d_GM_times_142 (GM_w55 _ rfl) (by decide) (jnz (by omega)) rfl rfl ?_
            have p122 := gPo.I 15 1 hJ rfl (show 0 ≤ 1 ∧ 1 ≤ 1 by omega)
            refine jt_lconst (z := 0) d_GM_times_145 (by decide) ?_
            exact gm_lret d_GM_times_146 rfl (⟨0, rfl, by omega, p122⟩)
          · skip
            refine jt_lload d_GM_times_128 rfl ?_
            refine jt_ldc2 (z := 68719476736) d_GM_times_130 GM_k179 ?_
            refine jt_lload d_GM_times_133 rfl ?_
            refine jt_ldiv d_GM_times_135 (by unfold jRl; omega) (by unfold jRl; omega) (by omega) ?_
            refine jt_topln (fun v123 bv123 ev123 => ?_)
            refine jt_lif_le (t := 147) d_GM_times_136 d_GM_times_137 rfl (by unfold jRl; omega) (by unfold jRl; omega) (fun c124 => ?_) (fun c124 => ?_)
            · skip
              refine jt_aload_n d_GM_times_147 rfl ?_
              refine jt_lload d_GM_times_148 rfl ?_
              refine jt_lload d_GM_times_150 rfl ?_
              refine jt_lmul d_GM_times_152 ?_
              refine jt_topln (fun v125 bv125 ev125 => ?_)
              refine gct_call (Y := Y_GM_kept) (As := [.long (jL v125)]) (rest := []) d_GM_times_153 GM_c185 yk_GM_kept yv_GM_kept rfl (Nat.le_of_ble_eq_true rfl) rfl rfl (Nat.le_of_ble_eq_true rfl) (w_GM_kept G _ m v125 J B hJ.1 hJ.2.1 (by omega)) (fun rvq126 Iq126 Aq126 hq126 => ?_)
              obtain ⟨yq126, rfl, ryq126, hqq126⟩ := hq126
              have hpq126 := gPo.trans hJ hqq126 rfl rfl
              have f1q126 : Iq126 1 = I 1 := hpq126.2.2.1 1 rfl
              show jt _ 156 [(0, .ref m), (1, .long (jL x)), (3, .long (jL y)), (5, .long (jL a)), (7, .long (jL b)), (9, .int (jI s)), (10, .long (jL v119)), (12, .long (jL b))] [.long (jL yq126)] (gmf m f0 Iq126 Aq126) _ _ _
              exact gm_lret d_GM_times_156 rfl (⟨yq126, rfl, by omega, hpq126⟩)
            · skip
              refine jt_aload_n d_GM_times_140 rfl ?_
              refine jt_iconst d_GM_times_141 ?_
              refine gm_pI (k := 15) (v := 1) (J := va_up J 15 1) d_GM_times_142 (GM_w55 _ rfl) (by decide) (jnz (by omega)) rfl rfl ?_
              have p127 := gPo.I 15 1 hJ rfl (show 0 ≤ 1 ∧ 1 ≤ 1 by omega)
              refine jt_lconst (z := 0) d_GM_times_145 (by decide) ?_
              exact gm_lret d_GM_times_146 rfl (⟨0, rfl, by omega, p127⟩)
        · skip
          refine jt_lload d_GM_times_111 rfl ?_
          refine jt_lneg d_GM_times_113 ?_
          refine jt_topln (fun v128 bv128 ev128 => ?_)
          refine jt_goto (t := 119) d_GM_times_114 rfl ?_
          refine jt_lstore (L' := [(0, .ref m), (1, .long (jL x)), (3, .long (jL y)), (5, .long (jL a)), (7, .long (jL b)), (9, .int (jI s)), (10, .long (jL v119)), (12, .long (jL v128))]) d_GM_times_119 (Nat.le_of_ble_eq_true rfl) rfl ?_
          refine jt_iload d_GM_times_121 rfl ?_
          refine jt_bipush d_GM_times_123 (by omega) ?_
          refine jt_icmp_lt (t := 140) d_GM_times_125 rfl (by unfold jRi; omega) (by unfold jRi; omega) (fun c129 => ?_) (fun c129 => ?_)
          · skip
            refine jt_aload_n d_GM_times_140 rfl ?_
            refine jt_iconst d_GM_times_141 ?_
            refine gm_pI (k := 15) (v := 1) (J := va_up J 15 1) d_GM_times_142 (GM_w55 _ rfl) (by decide) (jnz (by omega)) rfl rfl ?_
            have p130 := gPo.I 15 1 hJ rfl (show 0 ≤ 1 ∧ 1 ≤ 1 by omega)
            refine jt_lconst (z := 0) d_GM_times_145 (by decide) ?_
            exact gm_lret d_GM_times_146 rfl (⟨0, rfl, by omega, p130⟩)
          · skip
            refine jt_lload d_GM_times_128 rfl ?_
            refine jt_ldc2 (z := 68719476736) d_GM_times_130 GM_k179 ?_
            refine jt_lload d_GM_times_133 rfl ?_
            refine jt_ldiv d_GM_times_135 (by unfold jRl; omega) (by unfold jRl; omega) (by omega) ?_
            refine jt_topln (fun v131 bv131 ev131 => ?_)
            refine jt_lif_le (t := 147) d_GM_times_136 d_GM_times_137 rfl (by unfold jRl; omega) (by unfold jRl; omega) (fun c132 => ?_) (fun c132 => ?_)
            · skip
              refine jt_aload_n d_GM_times_147 rfl ?_
              refine jt_lload d_GM_times_148 rfl ?_
              refine jt_lload d_GM_times_150 rfl ?_
              refine jt_lmul d_GM_times_152 ?_
              refine jt_topln (fun v133 bv133 ev133 => ?_)
              refine gct_call (Y := Y_GM_kept) (As := [.long (jL v133)]) (rest := []) d_GM_times_153 GM_c185 yk_GM_kept yv_GM_kept rfl (Nat.le_of_ble_eq_true rfl) rfl rfl (Nat.le_of_ble_eq_true rfl) (w_GM_kept G _ m v133 J B hJ.1 hJ.2.1 (by omega)) (fun rvq134 Iq134 Aq134 hq134 => ?_)
              obtain ⟨yq134, rfl, ryq134, hqq134⟩ := hq134
              have hpq134 := gPo.trans hJ hqq134 rfl rfl
              have f1q134 : Iq134 1 = I 1 := hpq134.2.2.1 1 rfl
              show jt _ 156 [(0, .ref m), (1, .long (jL x)), (3, .long (jL y)), (5, .long (jL a)), (7, .long (jL b)), (9, .int (jI s)), (10, .long (jL v119)), (12, .long (jL v128))] [.long (jL yq134)] (gmf m f0 Iq134 Aq134) _ _ _
              exact gm_lret d_GM_times_156 rfl (⟨yq134, rfl, by omega, hpq134⟩)
            · skip
              refine jt_aload_n d_GM_times_140 rfl ?_
              refine jt_iconst d_GM_times_141 ?_
              refine gm_pI (k := 15) (v := 1) (J := va_up J 15 1) d_GM_times_142 (GM_w55 _ rfl) (by decide) (jnz (by omega)) rfl rfl ?_
              have p135 := gPo.I 15 1 hJ rfl (show 0 ≤ 1 ∧ 1 ≤ 1 by omega)
              refine jt_lconst (z := 0) d_GM_times_145 (by decide) ?_
              exact gm_lret d_GM_times_146 rfl (⟨0, rfl, by omega, p135⟩)
    · skip
      refine jt_lload d_GM_times_62 rfl ?_
      refine jt_ldc2 (z := 2) d_GM_times_64 GM_k183 ?_
      refine jt_lrem d_GM_times_67 (by unfold jRl; omega) (by unfold jRl; omega) (by omega) ?_
      have td136 := gtd b 2 (by omega)
      refine jt_topln (fun v137 bv137 ev137 => ?_)
      refine jt_lconst (z := 0) d_GM_times_68 (by decide) ?_
      refine jt_lif_ne (t := 87) d_GM_times_69 d_GM_times_70 rfl (by unfold jRl; omega) (by unfold jRl; omega) (fun c138 => ?_) (fun c138 => ?_)
      · skip
        refine jt_lload d_GM_times_87 rfl ?_
        refine jt_lconst (z := 0) d_GM_times_89 (by decide) ?_
        refine jt_lif_ge (t := 100) d_GM_times_90 d_GM_times_91 rfl (by unfold jRl; omega) (by unfold jRl; omega) (fun c139 => ?_) (fun c139 => ?_)
        · skip
          refine jt_lload d_GM_times_100 rfl ?_
          refine jt_lstore (L' := [(0, .ref m), (1, .long (jL x)), (3, .long (jL y)), (5, .long (jL a)), (7, .long (jL b)), (9, .int (jI s)), (10, .long (jL a))]) d_GM_times_102 (Nat.le_of_ble_eq_true rfl) rfl ?_
          refine jt_lload d_GM_times_104 rfl ?_
          refine jt_lconst (z := 0) d_GM_times_106 (by decide) ?_
          refine jt_lif_ge (t := 117) d_GM_times_107 d_GM_times_108 rfl (by unfold jRl; omega) (by unfold jRl; omega) (fun c140 => ?_) (fun c140 => ?_)
          · skip
            refine jt_lload d_GM_times_117 rfl ?_
            refine jt_lstore (L' := [(0, .ref m), (1, .long (jL x)), (3, .long (jL y)), (5, .long (jL a)), (7, .long (jL b)), (9, .int (jI s)), (10, .long (jL a)), (12, .long (jL b))]) d_GM_times_119 (Nat.le_of_ble_eq_true rfl) rfl ?_
            refine jt_iload d_GM_times_121 rfl ?_
            refine jt_bipush d_GM_times_123 (by omega) ?_
            refine jt_icmp_lt (t := 140) d_GM_times_125 rfl (by unfold jRi; omega) (by unfold jRi; omega) (fun c141 => ?_) (fun c141 => ?_)
            · skip
              refine jt_aload_n d_GM_times_140 rfl ?_
              refine jt_iconst d_GM_times_141 ?_
              refine gm_pI (k := 15) (v := 1) (J := va_up J 15 1) d_GM_times_142 (GM_w55 _ rfl) (by decide) (jnz (by omega)) rfl rfl ?_
              have p142 := gPo.I 15 1 hJ rfl (show 0 ≤ 1 ∧ 1 ≤ 1 by omega)
              refine jt_lconst (z := 0) d_GM_times_145 (by decide) ?_
              exact gm_lret d_GM_times_146 rfl (⟨0, rfl, by omega, p142⟩)
            · skip
              refine jt_lload d_GM_times_128 rfl ?_
              refine jt_ldc2 (z := 68719476736) d_GM_times_130 GM_k179 ?_
              refine jt_lload d_GM_times_133 rfl ?_
              refine jt_ldiv d_GM_times_135 (by unfold jRl; omega) (by unfold jRl; omega) (by omega) ?_
              refine jt_topln (fun v143 bv143 ev143 => ?_)
              refine jt_lif_le (t := 147) d_GM_times_136 d_GM_times_137 rfl (by unfold jRl; omega) (by unfold jRl; omega) (fun c144 => ?_) (fun c144 => ?_)
              · skip
                refine jt_aload_n d_GM_times_147 rfl ?_
                refine jt_lload d_GM_times_148 rfl ?_
                refine jt_lload d_GM_times_150 rfl ?_
                refine jt_lmul d_GM_times_152 ?_
                refine jt_topln (fun v145 bv145 ev145 => ?_)
                refine gct_call (Y := Y_GM_kept) (As := [.long (jL v145)]) (rest := []) d_GM_times_153 GM_c185 yk_GM_kept yv_GM_kept rfl (Nat.le_of_ble_eq_true rfl) rfl rfl (Nat.le_of_ble_eq_true rfl) (w_GM_kept G _ m v145 J B hJ.1 hJ.2.1 (by omega)) (fun rvq146 Iq146 Aq146 hq146 => ?_)
                obtain ⟨yq146, rfl, ryq146, hqq146⟩ := hq146
                have hpq146 := gPo.trans hJ hqq146 rfl rfl
                have f1q146 : Iq146 1 = I 1 := hpq146.2.2.1 1 rfl
                show jt _ 156 [(0, .ref m), (1, .long (jL x)), (3, .long (jL y)), (5, .long (jL a)), (7, .long (jL b)), (9, .int (jI s)), (10, .long (jL a)), (12, .long (jL b))] [.long (jL yq146)] (gmf m f0 Iq146 Aq146) _ _ _
                exact gm_lret d_GM_times_156 rfl (⟨yq146, rfl, by omega, hpq146⟩)
              · skip
                refine jt_aload_n d_GM_times_140 rfl ?_
                refine jt_iconst d_GM_times_141 ?_
                refine gm_pI (k := 15) (v := 1) (J := va_up J 15 1) d_GM_times_142 (GM_w55 _ rfl) (by decide) (jnz (by omega)) rfl rfl ?_
                have p147 := gPo.I 15 1 hJ rfl (show 0 ≤ 1 ∧ 1 ≤ 1 by omega)
                refine jt_lconst (z := 0) d_GM_times_145 (by decide) ?_
                exact gm_lret d_GM_times_146 rfl (⟨0, rfl, by omega, p147⟩)
          · skip
            refine jt_lload d_GM_times_111 rfl ?_
            refine jt_lneg d_GM_times_113 ?_
            refine jt_topln (fun v148 bv148 ev148 => ?_)
            refine jt_goto (t := 119) d_GM_times_114 rfl ?_
            refine jt_lstore (L' := [(0, .ref m), (1, .long (jL x)), (3, .long (jL y)), (5, .long (jL a)), (7, .long (jL b)), (9, .int (jI s)), (10, .long (jL a)), (12, .long (jL v148))]) d_GM_times_119 (Nat.le_of_ble_eq_true rfl) rfl ?_
            refine jt_iload d_GM_times_121 rfl ?_
            refine jt_bipush d_GM_times_123 (by omega) ?_
            refine jt_icmp_lt (t := 140) d_GM_times_125 rfl (by unfold jRi; omega) (by unfold jRi; omega) (fun c149 => ?_) (fun c149 => ?_)
            · skip
              refine jt_aload_n d_GM_times_140 rfl ?_
              refine jt_iconst d_GM_times_141 ?_
              refine gm_pI (k := 15) (v := 1) (J := va_up J 15 1) d_GM_times_142 (GM_w55 _ rfl) (by decide) (jnz (by omega)) rfl rfl ?_
              have p150 := gPo.I 15 1 hJ rfl (show 0 ≤ 1 ∧ 1 ≤ 1 by omega)
              refine jt_lconst (z := 0) d_GM_times_145 (by decide) ?_
              exact gm_lret d_GM_times_146 rfl (⟨0, rfl, by omega, p150⟩)
            · skip
              refine jt_lload d_GM_times_128 rfl ?_
              refine jt_ldc2 (z := 68719476736) d_GM_times_130 GM_k179 ?_
              refine jt_lload d_GM_times_133 rfl ?_
              refine jt_ldiv d_GM_times_135 (by unfold jRl; omega) (by unfold jRl; omega) (by omega) ?_
              refine jt_topln (fun v151 bv151 ev151 => ?_)
              refine jt_lif_le (t := 147) d_GM_times_136 d_GM_times_137 rfl (by unfold jRl; omega) (by unfold jRl; omega) (fun c152 => ?_) (fun c152 => ?_)
              · skip
                refine jt_aload_n d_GM_times_147 rfl ?_
                refine jt_lload d_GM_times_148 rfl ?_
                refine jt_lload d_GM_times_150 rfl ?_
                refine jt_lmul d_GM_times_152 ?_
                refine jt_topln (fun v153 bv153 ev153 => ?_)
                refine gct_call (Y := Y_GM_kept) (As := [.long (jL v153)]) (rest := []) d_GM_times_153 GM_c185 yk_GM_kept yv_GM_kept rfl (Nat.le_of_ble_eq_true rfl) rfl rfl (Nat.le_of_ble_eq_true rfl) (w_GM_kept G _ m v153 J B hJ.1 hJ.2.1 (by omega)) (fun rvq154 Iq154 Aq154 hq154 => ?_)
                obtain ⟨yq154, rfl, ryq154, hqq154⟩ := hq154
                have hpq154 := gPo.trans hJ hqq154 rfl rfl
                have f1q154 : Iq154 1 = I 1 := hpq154.2.2.1 1 rfl
                show jt _ 156 [(0, .ref m), (1, .long (jL x)), (3, .long (jL y)), (5, .long (jL a)), (7, .long (jL b)), (9, .int (jI s)), (10, .long (jL a)), (12, .long (jL v148))] [.long (jL yq154)] (gmf m f0 Iq154 Aq154) _ _ _
                exact gm_lret d_GM_times_156 rfl (⟨yq154, rfl, by omega, hpq154⟩)
              · skip
                refine jt_aload_n d_GM_times_140 rfl ?_
                refine jt_iconst d_GM_times_141 ?_
                refine gm_pI (k := 15) (v := 1) (J := va_up J 15 1) d_GM_times_142 (GM_w55 _ rfl) (by decide) (jnz (by omega)) rfl rfl ?_
                have p155 := gPo.I 15 1 hJ rfl (show 0 ≤ 1 ∧ 1 ≤ 1 by omega)
                refine jt_lconst (z := 0) d_GM_times_145 (by decide) ?_
                exact gm_lret d_GM_times_146 rfl (⟨0, rfl, by omega, p155⟩)
        · skip
          refine jt_lload d_GM_times_94 rfl ?_
          refine jt_lneg d_GM_times_96 ?_
          refine jt_topln (fun v156 bv156 ev156 => ?_)
          refine jt_goto (t := 102) d_GM_times_97 rfl ?_
          refine jt_lstore (L' := [(0, .ref m), (1, .long (jL x)), (3, .long (jL y)), (5, .long (jL a)), (7, .long (jL b)), (9, .int (jI s)), (10, .long (jL v156))]) d_GM_times_102 (Nat.le_of_ble_eq_true rfl) rfl ?_
          refine jt_lload d_GM_times_104 rfl ?_
          refine jt_lconst (z := 0) d_GM_times_106 (by decide) ?_
          refine jt_lif_ge (t := 117) d_GM_times_107 d_GM_times_108 rfl (by unfold jRl; omega) (by unfold jRl; omega) (fun c157 => ?_) (fun c157 => ?_)
          · skip
            refine jt_lload d_GM_times_117 rfl ?_
            refine jt_lstore (L' := [(0, .ref m), (1, .long (jL x)), (3, .long (jL y)), (5, .long (jL a)), (7, .long (jL b)), (9, .int (jI s)), (10, .long (jL v156)), (12, .long (jL b))]) d_GM_times_119 (Nat.le_of_ble_eq_true rfl) rfl ?_
            refine jt_iload d_GM_times_121 rfl ?_
            refine jt_bipush d_GM_times_123 (by omega) ?_
            refine jt_icmp_lt (t := 140) d_GM_times_125 rfl (by unfold jRi; omega) (by unfold jRi; omega) (fun c158 => ?_) (fun c158 => ?_)
            · skip
              refine jt_aload_n d_GM_times_140 rfl ?_
              refine jt_iconst d_GM_times_141 ?_
              refine gm_pI (k := 15) (v := 1) (J := va_up J 15 1) d_GM_times_142 (GM_w55 _ rfl) (by decide) (jnz (by omega)) rfl rfl ?_
              have p159 := gPo.I 15 1 hJ rfl (show 0 ≤ 1 ∧ 1 ≤ 1 by omega)
              refine jt_lconst (z := 0) d_GM_times_145 (by decide) ?_
              exact gm_lret d_GM_times_146 rfl (⟨0, rfl, by omega, p159⟩)
            · skip
              refine jt_lload d_GM_times_128 rfl ?_
              refine jt_ldc2 (z := 68719476736) d_GM_times_130 GM_k179 ?_
              refine jt_lload d_GM_times_133 rfl ?_
              refine jt_ldiv d_GM_times_135 (by unfold jRl; omega) (by unfold jRl; omega) (by omega) ?_
              refine jt_topln (fun v160 bv160 ev160 => ?_)
              refine jt_lif_le (t := 147) d_GM_times_136 d_GM_times_137 rfl (by unfold jRl; omega) (by unfold jRl; omega) (fun c161 => ?_) (fun c161 => ?_)
              · skip
                refine jt_aload_n d_GM_times_147 rfl ?_
                refine jt_lload d_GM_times_148 rfl ?_
                refine jt_lload d_GM_times_150 rfl ?_
                refine jt_lmul d_GM_times_152 ?_
                refine jt_topln (fun v162 bv162 ev162 => ?_)
                refine gct_call (Y := Y_GM_kept) (As := [.long (jL v162)]) (rest := []) d_GM_times_153 GM_c185 yk_GM_kept yv_GM_kept rfl (Nat.le_of_ble_eq_true rfl) rfl rfl (Nat.le_of_ble_eq_true rfl) (w_GM_kept G _ m v162 J B hJ.1 hJ.2.1 (by omega)) (fun rvq163 Iq163 Aq163 hq163 => ?_)
                obtain ⟨yq163, rfl, ryq163, hqq163⟩ := hq163
                have hpq163 := gPo.trans hJ hqq163 rfl rfl
                have f1q163 : Iq163 1 = I 1 := hpq163.2.2.1 1 rfl
                show jt _ 156 [(0, .ref m), (1, .long (jL x)), (3, .long (jL y)), (5, .long (jL a)), (7, .long (jL b)), (9, .int (jI s)), (10, .long (jL v156)), (12, .long (jL b))] [.long (jL yq163)] (gmf m f0 Iq163 Aq163) _ _ _
                exact gm_lret d_GM_times_156 rfl (⟨yq163, rfl, by omega, hpq163⟩)
              · skip
                refine jt_aload_n d_GM_times_140 rfl ?_
                refine jt_iconst d_GM_times_141 ?_
                refine gm_pI (k := 15) (v := 1) (J := va_up J 15 1) d_GM_times_142 (GM_w55 _ rfl) (by decide) (jnz (by omega)) rfl rfl ?_
                have p164 := gPo.I 15 1 hJ rfl (show 0 ≤ 1 ∧ 1 ≤ 1 by omega)
                refine jt_lconst (z := 0) d_GM_times_145 (by decide) ?_
                exact gm_lret d_GM_times_146 rfl (⟨0, rfl, by omega, p164⟩)
          · skip
            refine jt_lload d_GM_times_111 rfl ?_
            refine jt_lneg d_GM_times_113 ?_
            refine jt_topln (fun v165 bv165 ev165 => ?_)
            refine jt_goto (t := 119) d_GM_times_114 rfl ?_
            refine jt_lstore (L' := [(0, .ref m), (1, .long (jL x)), (3, .long (jL y)), (5, .long (jL a)), (7, .long (jL b)), (9, .int (jI s)), (10, .long (jL v156)), (12, .long (jL v165))]) d_GM_times_119 (Nat.le_of_ble_eq_true rfl) rfl ?_
            refine jt_iload d_GM_times_121 rfl ?_
            refine jt_bipush d_GM_times_123 (by omega) ?_
            refine jt_icmp_lt (t := 140) d_GM_times_125 rfl (by unfold jRi; omega) (by unfold jRi; omega) (fun c166 => ?_) (fun c166 => ?_)
            · skip
              refine jt_aload_n d_GM_times_140 rfl ?_
              refine jt_iconst d_GM_times_141 ?_
              refine gm_pI (k := 15) (v := 1) (J := va_up J 15 1) d_GM_times_142 (GM_w55 _ rfl) (by decide) (jnz (by omega)) rfl rfl ?_
              have p167 := gPo.I 15 1 hJ rfl (show 0 ≤ 1 ∧ 1 ≤ 1 by omega)
              refine jt_lconst (z := 0) d_GM_times_145 (by decide) ?_
              exact gm_lret d_GM_times_146 rfl (⟨0, rfl, by omega, p167⟩)
            · skip
              refine jt_lload d_GM_times_128 rfl ?_
              refine jt_ldc2 (z := 68719476736) d_GM_times_130 GM_k179 ?_
              refine jt_lload d_GM_times_133 rfl ?_
              refine jt_ldiv d_GM_times_135 (by unfold jRl; omega) (by unfold jRl; omega) (by omega) ?_
              refine jt_topln (fun v168 bv168 ev168 => ?_)
              refine jt_lif_le (t := 147) d_GM_times_136 d_GM_times_137 rfl (by unfold jRl; omega) (by unfold jRl; omega) (fun c169 => ?_) (fun c169 => ?_)
              · skip
                refine jt_aload_n d_GM_times_147 rfl ?_
                refine jt_lload d_GM_times_148 rfl ?_
                refine jt_lload d_GM_times_150 rfl ?_
                refine jt_lmul d_GM_times_152 ?_
                refine jt_topln (fun v170 bv170 ev170 => ?_)
                refine gct_call (Y := Y_GM_kept) (As := [.long (jL v170)]) (rest := []) d_GM_times_153 GM_c185 yk_GM_kept yv_GM_kept rfl (Nat.le_of_ble_eq_true rfl) rfl rfl (Nat.le_of_ble_eq_true rfl) (w_GM_kept G _ m v170 J B hJ.1 hJ.2.1 (by omega)) (fun rvq171 Iq171 Aq171 hq171 => ?_)
                obtain ⟨yq171, rfl, ryq171, hqq171⟩ := hq171
                have hpq171 := gPo.trans hJ hqq171 rfl rfl
                have f1q171 : Iq171 1 = I 1 := hpq171.2.2.1 1 rfl
                show jt _ 156 [(0, .ref m), (1, .long (jL x)), (3, .long (jL y)), (5, .long (jL a)), (7, .long (jL b)), (9, .int (jI s)), (10, .long (jL v156)), (12, .long (jL v165))] [.long (jL yq171)] (gmf m f0 Iq171 Aq171) _ _ _
                exact gm_lret d_GM_times_156 rfl (⟨yq171, rfl, by omega, hpq171⟩)
              · skip
                refine jt_aload_n d_GM_times_140 rfl ?_
                refine jt_iconst d_GM_times_141 ?_
                refine gm_pI (k := 15) (v := 1) (J := va_up J 15 1) d_GM_times_142 (GM_w55 _ rfl) (by decide) (jnz (by omega)) rfl rfl ?_
                have p172 := gPo.I 15 1 hJ rfl (show 0 ≤ 1 ∧ 1 ≤ 1 by omega)
                refine jt_lconst (z := 0) d_GM_times_145 (by decide) ?_
                exact gm_lret d_GM_times_146 rfl (⟨0, rfl, by omega, p172⟩)
      · skip
        refine jt_lload d_GM_times_73 rfl ?_
        refine jt_ldc2 (z := 2) d_GM_times_75 GM_k183 ?_
        refine jt_ldiv d_GM_times_78 (by unfold jRl; omega) (by unfold jRl; omega) (by omega) ?_
        have td173 := gtd b 2 (by omega)
        refine jt_topln (fun v174 bv174 ev174 => ?_)
        refine jt_lstore (L' := [(0, .ref m), (1, .long (jL x)), (3, .long (jL y)), (5, .long (jL a)), (7, .long (jL v174)), (9, .int (jI s))]) d_GM_times_79 (Nat.le_of_ble_eq_true rfl) rfl ?_
        refine jt_iinc (L' := [(0, .ref m), (1, .long (jL x)), (3, .long (jL y)), (5, .long (jL a)), (7, .long (jL v174)), (9, .int (jI (s + 1)))]) d_GM_times_81 rfl (Nat.le_of_ble_eq_true rfl) rfl ?_
        refine jt_goto (t := 55) d_GM_times_84 rfl ?_
        exact ih v174 (s + 1) J B hJ (by omega) (by omega) (by omega) (by omega) (by omega)
set_option maxRecDepth 100000 in
set_option maxHeartbeats 1000000 in
theorem l23_GM_timesw (G : jG) (d m : Nat) (x : Int) (y : Int) (I : Nat → Int) (A : Nat → Int → Int) (hI : gSI I) (hA : gSA A) (hx : -9223372036854775808 ≤ x ∧ x ≤ 9223372036854775807) (hy : -65536000 ≤ y ∧ y ≤ 65536000) (f0 : jF) (sz : Nat)  : ∀ (n9 : Nat) (a : Int) (s : Int) (J : Nat → Int) (B : Nat → Int → Int), gPo [15] [] I A J B → (-9223372036854775808 ≤ a ∧ a ≤ 9223372036854775807) → (¬ y = 0) → (0 ≤ s) → (s ≤ 16) → 16 - s < (n9 : Int) → jt (jm G Y_GM_times (gR (d + 1)) (gQ m f0 sz (fun (rv : Option Value) (I2 : Nat → Int) (A2 : Nat → Int → Int) => ∃ y : Int, rv = some (.long (jL y)) ∧ (-9223372036854775808 ≤ y ∧ y ≤ 9223372036854775807) ∧ gPo [15] [] I A I2 A2))) 23 [(0, .ref m), (1, .long (jL x)), (3, .long (jL y)), (5, .long (jL a)), (7, .long (jL y)), (9, .int (jI s))] [] (gmf m f0 J B) sz 0 0 := by
  intro n9
  induction n9 with
  | zero =>
    intro a s J B hJ a1 y0 s0 s1 hmeas
    exfalso
    omega
  | succ n9 ih =>
    intro a s J B hJ a1 y0 s0 s1 hmeas
    refine jt_iload d_GM_times_23 rfl ?_
    refine jt_bipush d_GM_times_25 (by omega) ?_
    refine jt_icmp_ge (t := 55) d_GM_times_27 rfl (by unfold jRi; omega) (by unfold jRi; omega) (fun c201 => ?_) (fun c201 => ?_)
    · skip
      exact l55_GM_timesw G d m x y I A hI hA hx hy f0 sz a ((by omega)) 17 y s J B hJ (by omega) (by omega) (by omega) (by omega) (by omega)
    · skip
      refine jt_lload d_GM_times_30 rfl ?_
      refine jt_ldc2 (z := 2) d_GM_times_32 GM_k183 ?_
      refine jt_lrem d_GM_times_35 (by unfold jRl; omega) (by unfold jRl; omega) (by omega) ?_
      have td202 := gtd a 2 (by omega)
      refine jt_topln (fun v203 bv203 ev203 => ?_)
      refine jt_lconst (z := 0) d_GM_times_36 (by decide) ?_
      refine jt_lif_ne (t := 55) d_GM_times_37 d_GM_times_38 rfl (by unfold jRl; omega) (by unfold jRl; omega) (fun c204 => ?_) (fun c204 => ?_)
      · skip
        exact l55_GM_timesw G d m x y I A hI hA hx hy f0 sz a ((by omega)) 17 y s J B hJ (by omega) (by omega) (by omega) (by omega) (by omega)
      · skip
        refine jt_lload d_GM_times_41 rfl ?_
        refine jt_ldc2 (z := 2) d_GM_times_43 GM_k183 ?_
        refine jt_ldiv d_GM_times_46 (by unfold jRl; omega) (by unfold jRl; omega) (by omega) ?_
        have td205 := gtd a 2 (by omega)
        refine jt_topln (fun v206 bv206 ev206 => ?_)
        refine jt_lstore (L' := [(0, .ref m), (1, .long (jL x)), (3, .long (jL y)), (5, .long (jL v206)), (7, .long (jL y)), (9, .int (jI s))]) d_GM_times_47 (Nat.le_of_ble_eq_true rfl) rfl ?_
        refine jt_iinc (L' := [(0, .ref m), (1, .long (jL x)), (3, .long (jL y)), (5, .long (jL v206)), (7, .long (jL y)), (9, .int (jI (s + 1)))]) d_GM_times_49 rfl (Nat.le_of_ble_eq_true rfl) rfl ?_
        refine jt_goto (t := 23) d_GM_times_52 rfl ?_
        exact ih v206 (s + 1) J B hJ (by omega) (by omega) (by omega) (by omega) (by omega)
set_option maxRecDepth 100000 in
set_option maxHeartbeats 1000000 in
theorem w_GM_times (G : jG) (d m : Nat) (x : Int) (y : Int) (I : Nat → Int) (A : Nat → Int → Int) (hI : gSI I) (hA : gSA A) (hx : -9223372036854775808 ≤ x ∧ x ≤ 9223372036854775807) (hy : -65536000 ≤ y ∧ y ≤ 65536000) : gct G Y_GM_times (d + 1) m [.long (jL x), .long (jL y)] I A (fun (rv : Option Value) (I2 : Nat → Int) (A2 : Nat → Int → Int) => ∃ y : Int, rv = some (.long (jL y)) ∧ (-9223372036854775808 ≤ y ∧ y ≤ 9223372036854775807) ∧ gPo [15] [] I A I2 A2) := by
  refine gct_of (by decide) (Nat.le_of_ble_eq_true rfl) (fun f0 sz => ?_)
  show jt _ 0 [(0, .ref m), (1, .long (jL x)), (3, .long (jL y))] [] _ _ _ _
  have hz0 : gPo [15] [] I A I A := gPo.refl hI hA
  refine jt_lload_n d_GM_times_0 rfl ?_
  refine jt_lconst (z := 0) d_GM_times_1 (by decide) ?_
  refine jt_lif_eq (t := 12) d_GM_times_2 d_GM_times_3 rfl (by unfold jRl; omega) (by unfold jRl; omega) (fun c1 => ?_) (fun c1 => ?_)
  · skip
    refine jt_lconst (z := 0) d_GM_times_12 (by decide) ?_
    exact gm_lret d_GM_times_13 rfl (⟨0, rfl, by omega, hz0⟩)
  · skip
    refine jt_lload_n d_GM_times_6 rfl ?_
    refine jt_lconst (z := 0) d_GM_times_7 (by decide) ?_
    refine jt_lif_ne (t := 14) d_GM_times_8 d_GM_times_9 rfl (by unfold jRl; omega) (by unfold jRl; omega) (fun c2 => ?_) (fun c2 => ?_)
    · skip
      refine jt_lload_n d_GM_times_14 rfl ?_
      refine jt_lstore (L' := [(0, .ref m), (1, .long (jL x)), (3, .long (jL y)), (5, .long (jL x))]) d_GM_times_15 (Nat.le_of_ble_eq_true rfl) rfl ?_
      refine jt_lload_n d_GM_times_17 rfl ?_
      refine jt_lstore (L' := [(0, .ref m), (1, .long (jL x)), (3, .long (jL y)), (5, .long (jL x)), (7, .long (jL y))]) d_GM_times_18 (Nat.le_of_ble_eq_true rfl) rfl ?_
      refine jt_iconst d_GM_times_20 ?_
      refine jt_istore (L' := [(0, .ref m), (1, .long (jL x)), (3, .long (jL y)), (5, .long (jL x)), (7, .long (jL y)), (9, .int (jI 0))]) d_GM_times_21 (Nat.le_of_ble_eq_true rfl) rfl ?_
      exact l23_GM_timesw G d m x y I A hI hA hx hy f0 sz  17 x 0 I A hz0 (by omega) (by omega) (by omega) (by omega) (by omega)
    · skip
      refine jt_lconst (z := 0) d_GM_times_12 (by decide) ?_
      exact gm_lret d_GM_times_13 rfl (⟨0, rfl, by omega, hz0⟩)
set_option maxRecDepth 100000 in
set_option maxHeartbeats 1000000 in
theorem l3_GM_scalew (G : jG) (d m : Nat) (f : Int) (t : Int) (I : Nat → Int) (A : Nat → Int → Int) (hI : gSI I) (hA : gSA A) (h0 : 0 ≤ f) (h1 : f < 400) (ht : -65536000 ≤ t ∧ t ≤ 65536000) (f0 : jF) (sz : Nat)  : ∀ (n9 : Nat) (i : Int) (J : Nat → Int) (B : Nat → Int → Int), gPo [15] [35] I A J B → (0 ≤ i) → (i ≤ 13) → 13 - i < (n9 : Int) → jt (jm G Y_GM_scale (gR (d + 2)) (gQ m f0 sz (fun (rv : Option Value) (I2 : Nat → Int) (A2 : Nat → Int → Int) => rv = none ∧ gPo [15] [35] I A I2 A2))) 3 [(0, .ref m), (1, .int (jI f)), (2, .long (jL t)), (4, .int (jI i))] [] (gmf m f0 J B) sz 0 0 := by
  intro n9
  induction n9 with
  | zero =>
    intro i J B hJ i0 i1 hmeas
    exfalso
    omega
  | succ n9 ih =>
    intro i J B hJ i0 i1 hmeas
    refine jt_iload d_GM_scale_3 rfl ?_
    refine jt_bipush d_GM_scale_5 (by omega) ?_
    refine jt_icmp_ge (t := 45) d_GM_scale_7 rfl (by unfold jRi; omega) (by unfold jRi; omega) (fun c101 => ?_) (fun c101 => ?_)
    · skip
      exact gm_vret d_GM_scale_45 rfl (⟨rfl, hJ⟩)
    · skip
      refine jt_aload_n d_GM_scale_10 rfl ?_
      refine gm_gA (k := 35) (a := m + 20) d_GM_scale_11 GM_f118 (by decide) (by decide) rfl ?_
      refine jt_iload_n d_GM_scale_14 rfl ?_
      refine jt_bipush d_GM_scale_15 (by omega) ?_
      refine jt_imul d_GM_scale_17 ?_
      refine jt_iload d_GM_scale_18 rfl ?_
      refine jt_iadd d_GM_scale_20 ?_
      refine jt_aload_n d_GM_scale_21 rfl ?_
      refine jt_aload_n d_GM_scale_22 rfl ?_
      refine gm_gA (k := 35) (a := m + 20) d_GM_scale_23 GM_f118 (by decide) (by decide) rfl ?_
      refine jt_iload_n d_GM_scale_26 rfl ?_
      refine jt_bipush d_GM_scale_27 (by omega) ?_
      refine jt_imul d_GM_scale_29 ?_
      refine jt_iload d_GM_scale_30 rfl ?_
      refine jt_iadd d_GM_scale_32 ?_
      refine gm_ld1 (k := 35) (n := 5200) (v := (B 35) ((f * 13) + i)) d_GM_scale_33 rfl (by decide) (by decide) rfl rfl (by omega) (by omega) (by omega) rfl ?_
      refine jt_topl (fun v102 ev102 => ?_)
      have bv102 : (-9223372036854775808) ≤ v102 ∧ v102 ≤ 9223372036854775807 := by rw [ev102]; exact hJ.2.1 35 ((f * 13) + i)
      refine jt_lload_n d_GM_scale_34 rfl ?_
      refine gct_call (Y := Y_GM_times) (As := [.long (jL v102), .long (jL t)]) (rest := [.int (jI ((f * 13) + i)), .ref (m + 20)]) d_GM_scale_35 GM_c189 yk_GM_times yv_GM_times rfl (Nat.le_of_ble_eq_true rfl) rfl rfl (Nat.le_of_ble_eq_true rfl) (w_GM_times G _ m v102 t J B hJ.1 hJ.2.1 (by omega) (by omega)) (fun rvq103 Iq103 Aq103 hq103 => ?_)
      obtain ⟨yq103, rfl, ryq103, hqq103⟩ := hq103
      have hpq103 := gPo.trans hJ hqq103 rfl rfl
      have f1q103 : Iq103 1 = I 1 := hpq103.2.2.1 1 rfl
      show jt _ 38 [(0, .ref m), (1, .int (jI f)), (2, .long (jL t)), (4, .int (jI i))] [.long (jL yq103), .int (jI ((f * 13) + i)), .ref (m + 20)] (gmf m f0 Iq103 Aq103) _ _ _
      refine gm_st1 (k := 35) (n := 5200) (B := va_up Aq103 35 (ju (Aq103 35) ((f * 13) + i) yq103)) d_GM_scale_38 rfl (by decide) (by decide) rfl rfl (by omega) (by omega) (by omega) rfl ?_
      have p104 := gPo.A 35 (ju (Aq103 35) ((f * 13) + i) yq103) hpq103 rfl (gju (hpq103.2.1 35) (show -9223372036854775808 ≤ yq103 ∧ yq103 ≤ 9223372036854775807 by omega))
      refine jt_iinc (L' := [(0, .ref m), (1, .int (jI f)), (2, .long (jL t)), (4, .int (jI (i + 1)))]) d_GM_scale_39 rfl (Nat.le_of_ble_eq_true rfl) rfl ?_
      refine jt_goto (t := 3) d_GM_scale_42 rfl ?_
      exact ih (i + 1) Iq103 (va_up Aq103 35 (ju (Aq103 35) ((f * 13) + i) yq103)) p104 (by omega) (by omega) (by omega)
set_option maxRecDepth 100000 in
set_option maxHeartbeats 1000000 in
theorem w_GM_scale (G : jG) (d m : Nat) (f : Int) (t : Int) (I : Nat → Int) (A : Nat → Int → Int) (hI : gSI I) (hA : gSA A) (h0 : 0 ≤ f) (h1 : f < 400) (ht : -65536000 ≤ t ∧ t ≤ 65536000) : gct G Y_GM_scale (d + 2) m [.int (jI f), .long (jL t)] I A (fun (rv : Option Value) (I2 : Nat → Int) (A2 : Nat → Int → Int) => rv = none ∧ gPo [15] [35] I A I2 A2) := by
  refine gct_of (by decide) (Nat.le_of_ble_eq_true rfl) (fun f0 sz => ?_)
  show jt _ 0 [(0, .ref m), (1, .int (jI f)), (2, .long (jL t))] [] _ _ _ _
  have hz0 : gPo [15] [35] I A I A := gPo.refl hI hA
  refine jt_iconst d_GM_scale_0 ?_
  refine jt_istore (L' := [(0, .ref m), (1, .int (jI f)), (2, .long (jL t)), (4, .int (jI 0))]) d_GM_scale_1 (Nat.le_of_ble_eq_true rfl) rfl ?_
  exact l3_GM_scalew G d m f t I A hI hA h0 h1 ht f0 sz  14 0 I A hz0 (by omega) (by omega) (by omega)
set_option maxRecDepth 100000 in
set_option maxHeartbeats 1000000 in
theorem l2_GM_addSumsw (G : jG) (d m : Nat) (f : Int) (I : Nat → Int) (A : Nat → Int → Int) (hI : gSI I) (hA : gSA A) (h0 : 0 ≤ f) (h1 : f < 400) (f0 : jF) (sz : Nat)  : ∀ (n9 : Nat) (i : Int) (J : Nat → Int) (B : Nat → Int → Int), gPo [15] [35] I A J B → (0 ≤ i) → (i ≤ 13) → 13 - i < (n9 : Int) → jt (jm G Y_GM_addSums (gR (d + 1)) (gQ m f0 sz (fun (rv : Option Value) (I2 : Nat → Int) (A2 : Nat → Int → Int) => rv = none ∧ gPo [15] [35] I A I2 A2))) 2 [(0, .ref m), (1, .int (jI f)), (2, .int (jI i))] [] (gmf m f0 J B) sz 0 0 := by
  intro n9
  induction n9 with
  | zero =>
    intro i J B hJ i0 i1 hmeas
    exfalso
    omega
  | succ n9 ih =>
    intro i J B hJ i0 i1 hmeas
    refine jt_iload_n d_GM_addSums_2 rfl ?_
    refine jt_bipush d_GM_addSums_3 (by omega) ?_
    refine jt_icmp_ge (t := 78) d_GM_addSums_5 rfl (by unfold jRi; omega) (by unfold jRi; omega) (fun c101 => ?_) (fun c101 => ?_)
    · skip
      exact gm_vret d_GM_addSums_78 rfl (⟨rfl, hJ⟩)
    · skip
      refine jt_aload_n d_GM_addSums_8 rfl ?_
      refine gm_gA (k := 34) (a := m + 19) d_GM_addSums_9 GM_f115 (by decide) (by decide) rfl ?_
      refine jt_iload_n d_GM_addSums_12 rfl ?_
      refine gm_ld1 (k := 34) (n := 13) (v := (B 34) i) d_GM_addSums_13 rfl (by decide) (by decide) rfl rfl (by omega) (by omega) (by omega) rfl ?_
      refine jt_topl (fun v102 ev102 => ?_)
      have bv102 : (-9223372036854775808) ≤ v102 ∧ v102 ≤ 9223372036854775807 := by rw [ev102]; exact hJ.2.1 34 i
      refine jt_ldc2 (z := 65536) d_GM_addSums_14 GM_k197 ?_
      refine jt_lrem d_GM_addSums_17 (by unfold jRl; omega) (by unfold jRl; omega) (by omega) ?_
      have td103 := gtd v102 65536 (by omega)
      refine jt_toplw (fun v104 bv104 => ?_)
      refine jt_lconst (z := 0) d_GM_addSums_18 (by decide) ?_
      refine jt_lif_eq (t := 28) d_GM_addSums_19 d_GM_addSums_20 rfl (by unfold jRl; omega) (by unfold jRl; omega) (fun c105 => ?_) (fun c105 => ?_)
      · skip
        refine jt_aload_n d_GM_addSums_28 rfl ?_
        refine gm_gA (k := 35) (a := m + 20) d_GM_addSums_29 GM_f118 (by decide) (by decide) rfl ?_
        refine jt_iload_n d_GM_addSums_32 rfl ?_
        refine jt_bipush d_GM_addSums_33 (by omega) ?_
        refine jt_imul d_GM_addSums_35 ?_
        refine jt_iload_n d_GM_addSums_36 rfl ?_
        refine jt_iadd d_GM_addSums_37 ?_
        refine jt_aload_n d_GM_addSums_38 rfl ?_
        refine jt_aload_n d_GM_addSums_39 rfl ?_
        refine gm_gA (k := 35) (a := m + 20) d_GM_addSums_40 GM_f118 (by decide) (by decide) rfl ?_
        refine jt_iload_n d_GM_addSums_43 rfl ?_
        refine jt_bipush d_GM_addSums_44 (by omega) ?_
        refine jt_imul d_GM_addSums_46 ?_
        refine jt_iload_n d_GM_addSums_47 rfl ?_
        refine jt_iadd d_GM_addSums_48 ?_
        refine gm_ld1 (k := 35) (n := 5200) (v := (B 35) ((f * 13) + i)) d_GM_addSums_49 rfl (by decide) (by decide) rfl rfl (by omega) (by omega) (by omega) rfl ?_
        refine jt_topl (fun v106 ev106 => ?_)
        have bv106 : (-9223372036854775808) ≤ v106 ∧ v106 ≤ 9223372036854775807 := by rw [ev106]; exact hJ.2.1 35 ((f * 13) + i)
        refine jt_aload_n d_GM_addSums_50 rfl ?_
        refine gm_gA (k := 33) (a := m + 18) d_GM_addSums_51 GM_f112 (by decide) (by decide) rfl ?_
        refine jt_iload_n d_GM_addSums_54 rfl ?_
        refine gm_ld1 (k := 33) (n := 13) (v := (B 33) i) d_GM_addSums_55 rfl (by decide) (by decide) rfl rfl (by omega) (by omega) (by omega) rfl ?_
        refine jt_topl (fun v107 ev107 => ?_)
        have bv107 : (-9223372036854775808) ≤ v107 ∧ v107 ≤ 9223372036854775807 := by rw [ev107]; exact hJ.2.1 33 i
        refine jt_ladd d_GM_addSums_56 ?_
        refine jt_toplw (fun v108 bv108 => ?_)
        refine jt_aload_n d_GM_addSums_57 rfl ?_
        refine gm_gA (k := 34) (a := m + 19) d_GM_addSums_58 GM_f115 (by decide) (by decide) rfl ?_
        refine jt_iload_n d_GM_addSums_61 rfl ?_
        refine gm_ld1 (k := 34) (n := 13) (v := (B 34) i) d_GM_addSums_62 rfl (by decide) (by decide) rfl rfl (by omega) (by omega) (by omega) rfl ?_
        refine jt_topl (fun v109 ev109 => ?_)
        have bv109 : (-9223372036854775808) ≤ v109 ∧ v109 ≤ 9223372036854775807 := by rw [ev109]; exact hJ.2.1 34 i
        refine jt_ldc2 (z := 65536) d_GM_addSums_63 GM_k197 ?_
        refine jt_ldiv d_GM_addSums_66 (by unfold jRl; omega) (by unfold jRl; omega) (by omega) ?_
        have td110 := gtd v109 65536 (by omega)
        refine jt_toplw (fun v111 bv111 => ?_)
        refine jt_ladd d_GM_addSums_67 ?_
        refine jt_toplw (fun v112 bv112 => ?_)
        refine gct_call (Y := Y_GM_kept) (As := [.long (jL v112)]) (rest := [.int (jI ((f * 13) + i)), .ref (m + 20)]) d_GM_addSums_68 GM_c185 yk_GM_kept yv_GM_kept rfl (Nat.le_of_ble_eq_true rfl) rfl rfl (Nat.le_of_ble_eq_true rfl) (w_GM_kept G _ m v112 J B hJ.1 hJ.2.1 (by omega)) (fun rvq113 Iq113 Aq113 hq113 => ?_)
        obtain ⟨yq113, rfl, ryq113, hqq113⟩ := hq113
        have hpq113 := gPo.trans hJ hqq113 rfl rfl
        have f1q113 : Iq113 1 = I 1 := hpq113.2.2.1 1 rfl
        show jt _ 71 [(0, .ref m), (1, .int (jI f)), (2, .int (jI i))] [.long (jL yq113), .int (jI ((f * 13) + i)), .ref (m + 20)] (gmf m f0 Iq113 Aq113) _ _ _
        refine gm_st1 (k := 35) (n := 5200) (B := va_up Aq113 35 (ju (Aq113 35) ((f * 13) + i) yq113)) d_GM_addSums_71 rfl (by decide) (by decide) rfl rfl (by omega) (by omega) (by omega) rfl ?_
        have p114 := gPo.A 35 (ju (Aq113 35) ((f * 13) + i) yq113) hpq113 rfl (gju (hpq113.2.1 35) (show -9223372036854775808 ≤ yq113 ∧ yq113 ≤ 9223372036854775807 by omega))
        refine jt_iinc (L' := [(0, .ref m), (1, .int (jI f)), (2, .int (jI (i + 1)))]) d_GM_addSums_72 rfl (Nat.le_of_ble_eq_true rfl) rfl ?_
        refine jt_goto (t := 2) d_GM_addSums_75 rfl ?_
        exact ih (i + 1) Iq113 (va_up Aq113 35 (ju (Aq113 35) ((f * 13) + i) yq113)) p114 (by omega) (by omega) (by omega)
      · skip
        refine jt_aload_n d_GM_addSums_23 rfl ?_
        refine jt_iconst d_GM_addSums_24 ?_
        refine gm_pI (k := 15) (v := 1) (J := va_up J 15 1) d_GM_addSums_25 (GM_w55 _ rfl) (by decide) (jnz (by omega)) rfl rfl ?_
        have p115 := gPo.I 15 1 hJ rfl (show 0 ≤ 1 ∧ 1 ≤ 1 by omega)
        refine jt_aload_n d_GM_addSums_28 rfl ?_
        refine gm_gA (k := 35) (a := m + 20) d_GM_addSums_29 GM_f118 (by decide) (by decide) rfl ?_
        refine jt_iload_n d_GM_addSums_32 rfl ?_
        refine jt_bipush d_GM_addSums_33 (by omega) ?_
        refine jt_imul d_GM_addSums_35 ?_
        refine jt_iload_n d_GM_addSums_36 rfl ?_
        refine jt_iadd d_GM_addSums_37 ?_
        refine jt_aload_n d_GM_addSums_38 rfl ?_
        refine jt_aload_n d_GM_addSums_39 rfl ?_
        refine gm_gA (k := 35) (a := m + 20) d_GM_addSums_40 GM_f118 (by decide) (by decide) rfl ?_
        refine jt_iload_n d_GM_addSums_43 rfl ?_
        refine jt_bipush d_GM_addSums_44 (by omega) ?_
        refine jt_imul d_GM_addSums_46 ?_
        refine jt_iload_n d_GM_addSums_47 rfl ?_
        refine jt_iadd d_GM_addSums_48 ?_
        refine gm_ld1 (k := 35) (n := 5200) (v := (B 35) ((f * 13) + i)) d_GM_addSums_49 rfl (by decide) (by decide) rfl rfl (by omega) (by omega) (by omega) rfl ?_
        refine jt_topl (fun v116 ev116 => ?_)
        have bv116 : (-9223372036854775808) ≤ v116 ∧ v116 ≤ 9223372036854775807 := by rw [ev116]; exact p115.2.1 35 ((f * 13) + i)
        refine jt_aload_n d_GM_addSums_50 rfl ?_
        refine gm_gA (k := 33) (a := m + 18) d_GM_addSums_51 GM_f112 (by decide) (by decide) rfl ?_
        refine jt_iload_n d_GM_addSums_54 rfl ?_
        refine gm_ld1 (k := 33) (n := 13) (v := (B 33) i) d_GM_addSums_55 rfl (by decide) (by decide) rfl rfl (by omega) (by omega) (by omega) rfl ?_
        refine jt_topl (fun v117 ev117 => ?_)
        have bv117 : (-9223372036854775808) ≤ v117 ∧ v117 ≤ 9223372036854775807 := by rw [ev117]; exact p115.2.1 33 i
        refine jt_ladd d_GM_addSums_56 ?_
        refine jt_toplw (fun v118 bv118 => ?_)
        refine jt_aload_n d_GM_addSums_57 rfl ?_
        refine gm_gA (k := 34) (a := m + 19) d_GM_addSums_58 GM_f115 (by decide) (by decide) rfl ?_
        refine jt_iload_n d_GM_addSums_61 rfl ?_
        refine gm_ld1 (k := 34) (n := 13) (v := (B 34) i) d_GM_addSums_62 rfl (by decide) (by decide) rfl rfl (by omega) (by omega) (by omega) rfl ?_
        refine jt_topl (fun v119 ev119 => ?_)
        have bv119 : (-9223372036854775808) ≤ v119 ∧ v119 ≤ 9223372036854775807 := by rw [ev119]; exact p115.2.1 34 i
        refine jt_ldc2 (z := 65536) d_GM_addSums_63 GM_k197 ?_
        refine jt_ldiv d_GM_addSums_66 (by unfold jRl; omega) (by unfold jRl; omega) (by omega) ?_
        have td120 := gtd v119 65536 (by omega)
        refine jt_toplw (fun v121 bv121 => ?_)
        refine jt_ladd d_GM_addSums_67 ?_
        refine jt_toplw (fun v122 bv122 => ?_)
        refine gct_call (Y := Y_GM_kept) (As := [.long (jL v122)]) (rest := [.int (jI ((f * 13) + i)), .ref (m + 20)]) d_GM_addSums_68 GM_c185 yk_GM_kept yv_GM_kept rfl (Nat.le_of_ble_eq_true rfl) rfl rfl (Nat.le_of_ble_eq_true rfl) (w_GM_kept G _ m v122 (va_up J 15 1) B p115.1 p115.2.1 (by omega)) (fun rvq123 Iq123 Aq123 hq123 => ?_)
        obtain ⟨yq123, rfl, ryq123, hqq123⟩ := hq123
        have hpq123 := gPo.trans p115 hqq123 rfl rfl
        have f1q123 : Iq123 1 = I 1 := hpq123.2.2.1 1 rfl
        show jt _ 71 [(0, .ref m), (1, .int (jI f)), (2, .int (jI i))] [.long (jL yq123), .int (jI ((f * 13) + i)), .ref (m + 20)] (gmf m f0 Iq123 Aq123) _ _ _
        refine gm_st1 (k := 35) (n := 5200) (B := va_up Aq123 35 (ju (Aq123 35) ((f * 13) + i) yq123)) d_GM_addSums_71 rfl (by decide) (by decide) rfl rfl (by omega) (by omega) (by omega) rfl ?_
        have p124 := gPo.A 35 (ju (Aq123 35) ((f * 13) + i) yq123) hpq123 rfl (gju (hpq123.2.1 35) (show -9223372036854775808 ≤ yq123 ∧ yq123 ≤ 9223372036854775807 by omega))
        refine jt_iinc (L' := [(0, .ref m), (1, .int (jI f)), (2, .int (jI (i + 1)))]) d_GM_addSums_72 rfl (Nat.le_of_ble_eq_true rfl) rfl ?_
        refine jt_goto (t := 2) d_GM_addSums_75 rfl ?_
        exact ih (i + 1) Iq123 (va_up Aq123 35 (ju (Aq123 35) ((f * 13) + i) yq123)) p124 (by omega) (by omega) (by omega)
set_option maxRecDepth 100000 in
set_option maxHeartbeats 1000000 in
theorem w_GM_addSums (G : jG) (d m : Nat) (f : Int) (I : Nat → Int) (A : Nat → Int → Int) (hI : gSI I) (hA : gSA A) (h0 : 0 ≤ f) (h1 : f < 400) : gct G Y_GM_addSums (d + 1) m [.int (jI f)] I A (fun (rv : Option Value) (I2 : Nat → Int) (A2 : Nat → Int → Int) => rv = none ∧ gPo [15] [35] I A I2 A2) := by
  refine gct_of (by decide) (Nat.le_of_ble_eq_true rfl) (fun f0 sz => ?_)
  show jt _ 0 [(0, .ref m), (1, .int (jI f))] [] _ _ _ _
  have hz0 : gPo [15] [35] I A I A := gPo.refl hI hA
  refine jt_iconst d_GM_addSums_0 ?_
  refine jt_istore_n (L' := [(0, .ref m), (1, .int (jI f)), (2, .int (jI 0))]) d_GM_addSums_1 (Nat.le_of_ble_eq_true rfl) rfl ?_
  exact l2_GM_addSumsw G d m f I A hI hA h0 h1 f0 sz  14 0 I A hz0 (by omega) (by omega) (by omega)
set_option maxRecDepth 100000 in
set_option maxHeartbeats 1000000 in
theorem l42_GM_refreshw (G : jG) (d m : Nat) (f : Int) (I : Nat → Int) (A : Nat → Int → Int) (hI : gSI I) (hA : gSA A) (h0 : 0 ≤ f) (h1 : f < 400) (hne : f ≠ 398) (f0 : jF) (sz : Nat) (v : Int) (v0 : 0 ≤ v) (v1 : v < 12) (hout : ∀ (i : Int) (J : Nat → Int) (B : Nat → Int → Int), gPo [15] [33, 34, 35] I A J B → (0 ≤ i) → (i ≤ 13) → jt (jm G Y_GM_refresh (gR (d + 2)) (gQ m f0 sz (fun (rv : Option Value) (I2 : Nat → Int) (A2 : Nat → Int → Int) => rv = none ∧ gPo [15] [33, 34, 35] I A I2 A2))) 75 [(0, .ref m), (1, .int (jI f)), (2, .int (jI v)), (3, .int (jI i))] [] (gmf m f0 J B) sz 0 0) : ∀ (n9 : Nat) (i : Int) (J : Nat → Int) (B : Nat → Int → Int), gPo [15] [33, 34, 35] I A J B → (0 ≤ i) → (i ≤ 13) → 13 - i < (n9 : Int) → jt (jm G Y_GM_refresh (gR (d + 2)) (gQ m f0 sz (fun (rv : Option Value) (I2 : Nat → Int) (A2 : Nat → Int → Int) => rv = none ∧ gPo [15] [33, 34, 35] I A I2 A2))) 42 [(0, .ref m), (1, .int (jI f)), (2, .int (jI v)), (3, .int (jI i))] [] (gmf m f0 J B) sz 0 0 := by
  intro n9
  induction n9 with
  | zero =>
    intro i J B hJ i0 i1 hmeas
    exfalso
    omega
  | succ n9 ih =>
    intro i J B hJ i0 i1 hmeas
    refine jt_iload_n d_GM_refresh_42 rfl ?_
    refine jt_bipush d_GM_refresh_43 (by omega) ?_
    refine jt_icmp_ge (t := 75) d_GM_refresh_45 rfl (by unfold jRi; omega) (by unfold jRi; omega) (fun c101 => ?_) (fun c101 => ?_)
    · skip
      exact hout i J B hJ i0 i1 
    · skip
      refine jt_aload_n d_GM_refresh_48 rfl ?_
      refine gm_gA (k := 35) (a := m + 20) d_GM_refresh_49 GM_f118 (by decide) (by decide) rfl ?_
      refine jt_sipush d_GM_refresh_52 (by omega) ?_
      refine jt_iload_n d_GM_refresh_55 rfl ?_
      refine jt_iadd d_GM_refresh_56 ?_
      refine jt_aload_n d_GM_refresh_57 rfl ?_
      refine gm_gA (k := 31) (a := m + 16) d_GM_refresh_58 GM_f105 (by decide) (by decide) rfl ?_
      refine jt_iload_n d_GM_refresh_61 rfl ?_
      refine jt_bipush d_GM_refresh_62 (by omega) ?_
      refine jt_imul d_GM_refresh_64 ?_
      refine jt_iload_n d_GM_refresh_65 rfl ?_
      refine jt_iadd d_GM_refresh_66 ?_
      refine gm_ld1 (k := 31) (n := 156) (v := (B 31) ((v * 13) + i)) d_GM_refresh_67 rfl (by decide) (by decide) rfl rfl (by omega) (by omega) (by omega) rfl ?_
      refine jt_topl (fun v102 ev102 => ?_)
      have bv102 : (-9223372036854775808) ≤ v102 ∧ v102 ≤ 9223372036854775807 := by rw [ev102]; exact hJ.2.1 31 ((v * 13) + i)
      refine gm_st1 (k := 35) (n := 5200) (B := va_up B 35 (ju (B 35) (5174 + i) v102)) d_GM_refresh_68 rfl (by decide) (by decide) rfl rfl (by omega) (by omega) (by omega) rfl ?_
      have p103 := gPo.A 35 (ju (B 35) (5174 + i) v102) hJ rfl (gju (hJ.2.1 35) (show -9223372036854775808 ≤ v102 ∧ v102 ≤ 9223372036854775807 by omega))
      refine jt_iinc (L' := [(0, .ref m), (1, .int (jI f)), (2, .int (jI v)), (3, .int (jI (i + 1)))]) d_GM_refresh_69 rfl (Nat.le_of_ble_eq_true rfl) rfl ?_
      refine jt_goto (t := 42) d_GM_refresh_72 rfl ?_
      exact ih (i + 1) J (va_up B 35 (ju (B 35) (5174 + i) v102)) p103 (by omega) (by omega) (by omega)
set_option maxRecDepth 100000 in
set_option maxHeartbeats 1000000 in
theorem l6_GM_refreshw (G : jG) (d m : Nat) (f : Int) (I : Nat → Int) (A : Nat → Int → Int) (hI : gSI I) (hA : gSA A) (h0 : 0 ≤ f) (h1 : f < 400) (hne : f ≠ 398) (f0 : jF) (sz : Nat)  : ∀ (n9 : Nat) (v : Int) (J : Nat → Int) (B : Nat → Int → Int), gPo [15] [33, 34, 35] I A J B → (0 ≤ v) → (v ≤ 12) → 12 - v < (n9 : Int) → jt (jm G Y_GM_refresh (gR (d + 2)) (gQ m f0 sz (fun (rv : Option Value) (I2 : Nat → Int) (A2 : Nat → Int → Int) => rv = none ∧ gPo [15] [33, 34, 35] I A I2 A2))) 6 [(0, .ref m), (1, .int (jI f)), (2, .int (jI v))] [] (gmf m f0 J B) sz 0 0 := by
  intro n9
  induction n9 with
  | zero =>
    intro v J B hJ v0 v1 hmeas
    exfalso
    omega
  | succ n9 ih =>
    intro v J B hJ v0 v1 hmeas
    refine jt_iload_n d_GM_refresh_6 rfl ?_
    refine jt_bipush d_GM_refresh_7 (by omega) ?_
    refine jt_icmp_ge (t := 90) d_GM_refresh_9 rfl (by unfold jRi; omega) (by unfold jRi; omega) (fun c201 => ?_) (fun c201 => ?_)
    · skip
      refine jt_aload_n d_GM_refresh_90 rfl ?_
      refine jt_iload_n d_GM_refresh_91 rfl ?_
      refine gct_call (Y := Y_GM_addSums) (As := [.int (jI f)]) (rest := []) d_GM_refresh_92 GM_c301 yk_GM_addSums yv_GM_addSums rfl (Nat.le_of_ble_eq_true rfl) rfl rfl (Nat.le_of_ble_eq_true rfl) (w_GM_addSums G _ m f J B hJ.1 hJ.2.1 (by omega) (by omega)) (fun rvq202 Iq202 Aq202 hq202 => ?_)
      obtain ⟨rfl, hqq202⟩ := hq202
      have hpq202 := gPo.trans hJ hqq202 rfl rfl
      have f1q202 : Iq202 1 = I 1 := hpq202.2.2.1 1 rfl
      show jt _ 95 [(0, .ref m), (1, .int (jI f)), (2, .int (jI v))] [] (gmf m f0 Iq202 Aq202) _ _ _
      exact gm_vret d_GM_refresh_95 rfl (⟨rfl, hpq202⟩)
    · skip
      refine jt_aload_n d_GM_refresh_12 rfl ?_
      refine gm_gA (k := 30) (a := m + 15) d_GM_refresh_13 GM_f102 (by decide) (by decide) rfl ?_
      refine jt_iload_n d_GM_refresh_16 rfl ?_
      refine gm_ld0 (k := 30) (n := 12) (v := (B 30) v) d_GM_refresh_17 rfl (by decide) (by decide) rfl rfl (by omega) (by omega) (by omega) rfl ?_
      refine jt_topi (fun v203 ev203 => ?_)
      have bv203 : (-2147483648) ≤ v203 ∧ v203 ≤ 2147483647 := by rw [ev203]; exact hJ.2.1 30 v
      refine jt_if_eq (t := 84) d_GM_refresh_18 rfl (by unfold jRi; omega) (fun c204 => ?_) (fun c204 => ?_)
      · skip
        refine jt_iinc (L' := [(0, .ref m), (1, .int (jI f)), (2, .int (jI (v + 1)))]) d_GM_refresh_84 rfl (Nat.le_of_ble_eq_true rfl) rfl ?_
        refine jt_goto (t := 6) d_GM_refresh_87 rfl ?_
        exact ih (v + 1) J B hJ (by omega) (by omega) (by omega)
      · skip
        refine jt_aload_n d_GM_refresh_21 rfl ?_
        refine gm_gA (k := 35) (a := m + 20) d_GM_refresh_22 GM_f118 (by decide) (by decide) rfl ?_
        refine jt_iload_n d_GM_refresh_25 rfl ?_
        refine jt_bipush d_GM_refresh_26 (by omega) ?_
        refine jt_imul d_GM_refresh_28 ?_
        refine jt_iload_n d_GM_refresh_29 rfl ?_
        refine jt_iadd d_GM_refresh_30 ?_
        refine gm_ld1 (k := 35) (n := 5200) (v := (B 35) ((f * 13) + v)) d_GM_refresh_31 rfl (by decide) (by decide) rfl rfl (by omega) (by omega) (by omega) rfl ?_
        refine jt_topl (fun v205 ev205 => ?_)
        have bv205 : (-9223372036854775808) ≤ v205 ∧ v205 ≤ 9223372036854775807 := by rw [ev205]; exact hJ.2.1 35 ((f * 13) + v)
        refine jt_lconst (z := 0) d_GM_refresh_32 (by decide) ?_
        refine jt_lif_ne (t := 40) d_GM_refresh_33 d_GM_refresh_34 rfl (by unfold jRl; omega) (by unfold jRl; omega) (fun c206 => ?_) (fun c206 => ?_)
        · skip
          refine jt_iconst d_GM_refresh_40 ?_
          refine jt_istore_n (L' := [(0, .ref m), (1, .int (jI f)), (2, .int (jI v)), (3, .int (jI 0))]) d_GM_refresh_41 (Nat.le_of_ble_eq_true rfl) rfl ?_
          refine l42_GM_refreshw G d m f I A hI hA h0 h1 hne f0 sz v ((by omega)) ((by omega)) (fun io207 Jo207 Bo207 hJo207 i0o207 i1o207 => ?_) 14 0 J B hJ (by omega) (by omega) (by omega)
          refine jt_aload_n d_GM_refresh_75 rfl ?_
          refine jt_iload_n d_GM_refresh_76 rfl ?_
          refine jt_iload_n d_GM_refresh_77 rfl ?_
          refine jt_sipush d_GM_refresh_78 (by omega) ?_
          refine gct_call (Y := Y_GM_replaceIn) (As := [.int (jI f), .int (jI v), .int (jI 398)]) (rest := []) d_GM_refresh_81 GM_c298 yk_GM_replaceIn yv_GM_replaceIn rfl (Nat.le_of_ble_eq_true rfl) rfl rfl (Nat.le_of_ble_eq_true rfl) (w_GM_replaceIn G _ m f v 398 Jo207 Bo207 hJo207.1 hJo207.2.1 (by omega) (by omega) (by omega) (by omega) (by omega) (by omega) (by omega)) (fun rvq208 Iq208 Aq208 hq208 => ?_)
          obtain ⟨rfl, hqq208⟩ := hq208
          have hpq208 := gPo.trans hJo207 hqq208 rfl rfl
          have f1q208 : Iq208 1 = I 1 := hpq208.2.2.1 1 rfl
          show jt _ 84 [(0, .ref m), (1, .int (jI f)), (2, .int (jI v)), (3, .int (jI io207))] [] (gmf m f0 Iq208 Aq208) _ _ _
          refine jt_iinc (L' := [(0, .ref m), (1, .int (jI f)), (2, .int (jI (v + 1))), (3, .int (jI io207))]) d_GM_refresh_84 rfl (Nat.le_of_ble_eq_true rfl) rfl ?_
          refine jt_goto (t := 6) d_GM_refresh_87 rfl ?_
          refine jt_sub (L' := [(0, .ref m), (1, .int (jI f)), (2, .int (jI (v + 1)))]) (fun _ h => List.mem_append_left [(3, Value.int (jI io207))] h) ?_
          exact ih (v + 1) Iq208 Aq208 hpq208 (by omega) (by omega) (by omega)
        · skip
          refine jt_goto (t := 84) d_GM_refresh_37 rfl ?_
          refine jt_iinc (L' := [(0, .ref m), (1, .int (jI f)), (2, .int (jI (v + 1)))]) d_GM_refresh_84 rfl (Nat.le_of_ble_eq_true rfl) rfl ?_
          refine jt_goto (t := 6) d_GM_refresh_87 rfl ?_
          exact ih (v + 1) J B hJ (by omega) (by omega) (by omega)
set_option maxRecDepth 100000 in
set_option maxHeartbeats 1000000 in
theorem w_GM_refresh (G : jG) (d m : Nat) (f : Int) (I : Nat → Int) (A : Nat → Int → Int) (hI : gSI I) (hA : gSA A) (h0 : 0 ≤ f) (h1 : f < 400) (hne : f ≠ 398) : gct G Y_GM_refresh (d + 2) m [.int (jI f)] I A (fun (rv : Option Value) (I2 : Nat → Int) (A2 : Nat → Int → Int) => rv = none ∧ gPo [15] [33, 34, 35] I A I2 A2) := by
  refine gct_of (by decide) (Nat.le_of_ble_eq_true rfl) (fun f0 sz => ?_)
  show jt _ 0 [(0, .ref m), (1, .int (jI f))] [] _ _ _ _
  have hz0 : gPo [15] [33, 34, 35] I A I A := gPo.refl hI hA
  refine jt_aload_n d_GM_refresh_0 rfl ?_
  refine gct_call (Y := Y_GM_beginSums) (As := []) (rest := []) d_GM_refresh_1 GM_c295 yk_GM_beginSums yv_GM_beginSums rfl (Nat.le_of_ble_eq_true rfl) rfl rfl (Nat.le_of_ble_eq_true rfl) (w_GM_beginSums G _ m  I A hz0.1 hz0.2.1 ) (fun rvq1 Iq1 Aq1 hq1 => ?_)
  obtain ⟨rfl, hqq1⟩ := hq1
  have hpq1 := gPo.trans hz0 hqq1 rfl rfl
  have f1q1 : Iq1 1 = I 1 := hpq1.2.2.1 1 rfl
  show jt _ 4 [(0, .ref m), (1, .int (jI f))] [] (gmf m f0 Iq1 Aq1) _ _ _
  refine jt_iconst d_GM_refresh_4 ?_
  refine jt_istore_n (L' := [(0, .ref m), (1, .int (jI f)), (2, .int (jI 0))]) d_GM_refresh_5 (Nat.le_of_ble_eq_true rfl) rfl ?_
  exact l6_GM_refreshw G d m f I A hI hA h0 h1 hne f0 sz  13 0 Iq1 Aq1 hpq1 (by omega) (by omega) (by omega)

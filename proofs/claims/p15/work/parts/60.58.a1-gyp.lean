set_option maxRecDepth 100000 in
set_option maxHeartbeats 1000000 in
theorem l6_GM_windingy (G : jG) (d m : Nat) (x : Int) (y : Int) (I : Nat → Int) (A : Nat → Int → Int) (hI : gSI I) (hA : gSA A) (hx : 0 ≤ x ∧ x ≤ 262144) (hy : 0 ≤ y ∧ y ≤ 262144) (Ps : List Pc) (hP : gPc (A 40) (A 41) (A 42) (A 43) Ps) (hn : I 10 = (Ps.length : Int)) (hin : ∀ t, t ∈ Ps → pin t) (f0 : jF) (sz : Nat)  : ∀ (n9 : Nat) (n : Int) (k : Int) (J : Nat → Int) (B : Nat → Int → Int), gPo [] [] I A J B → (0 ≤ k) → (k ≤ J 10) → (-k ≤ n) → (n ≤ k) → (n = pwn x y (Ps.take k.toNat)) → 110 - k < (n9 : Int) → jt (jm G Y_GM_winding (gR d) (gQ m f0 sz (fun (rv : Option Value) (I2 : Nat → Int) (A2 : Nat → Int → Int) => ∃ w : Int, rv = some (.int (jI w)) ∧ (-110 ≤ w ∧ w ≤ 110) ∧ gPo [] [] I A I2 A2 ∧ w = pwn x y Ps))) 6 [(0, .ref m), (1, .long (jL x)), (3, .long (jL y)), (5, .int (jI n)), (6, .int (jI k))] [] (gmf m f0 J B) sz 0 0 := by
  intro n9
  induction n9 with
  | zero =>
    intro n k J B hJ k0 k1 n0 n1 hw9 hmeas
    have b10 : 0 ≤ J 10 ∧ J 10 ≤ 110 := hJ.1 10
    have f10 : J 10 = I 10 := hJ.2.2.1 10 rfl
    exfalso
    omega
  | succ n9 ih =>
    intro n k J B hJ k0 k1 n0 n1 hw9 hmeas
    have b10 : 0 ≤ J 10 ∧ J 10 ≤ 110 := hJ.1 10
    have f10 : J 10 = I 10 := hJ.2.2.1 10 rfl
    refine jt_iload d_GM_winding_6 rfl ?_
    refine jt_aload_n d_GM_winding_8 rfl ?_
    refine gm_gI (k := 10) (v := J 10) d_GM_winding_9 GM_f40 (by decide) rfl ?_
    have rb101 : 0 ≤ J 10 ∧ J 10 ≤ 110 := hJ.1 10
    refine jt_icmp_ge (t := 142) d_GM_winding_12 rfl (by unfold jRi; omega) (by unfold jRi; omega) (fun c102 => ?_) (fun c102 => ?_)
    · skip
      refine jt_iload d_GM_winding_142 rfl ?_
      exact gm_ret d_GM_winding_144 rfl rfl (⟨n, rfl, by omega, hJ, by rw [hw9, List.take_of_length_le (by omega)]⟩)
    · skip
      obtain ⟨t9, ht9⟩ : ∃ t9, Ps[k.toNat]? = some t9 := ⟨_, List.getElem?_eq_getElem (by omega)⟩
      have hp9 := hP k.toNat t9 ht9
      rw [show ((k.toNat : Nat) : Int) = k by omega] at hp9
      obtain ⟨i1, i2, i3, i4⟩ := hin t9 (List.mem_of_getElem? ht9)
      refine jt_aload_n d_GM_winding_15 rfl ?_
      refine gm_gA (k := 42) (a := m + 27) d_GM_winding_16 GM_f139 (by decide) (by decide) rfl ?_
      refine jt_iload d_GM_winding_19 rfl ?_
      refine gm_ld1 (k := 42) (n := 110) (v := (B 42) k) d_GM_winding_21 rfl (by decide) (by decide) rfl rfl (by omega) (by omega) (by omega) rfl ?_
      refine jt_topl (fun v103 ev103 => ?_)
      have bv103 : (-9223372036854775808) ≤ v103 ∧ v103 ≤ 9223372036854775807 := by rw [ev103]; exact hJ.2.1 42 k
      rw [hJ.2.2.2 42 rfl, hp9.2.2.1] at ev103
      refine jt_aload_n d_GM_winding_22 rfl ?_
      refine gm_gA (k := 40) (a := m + 25) d_GM_winding_23 GM_f133 (by decide) (by decide) rfl ?_
      refine jt_iload d_GM_winding_26 rfl ?_
      refine gm_ld1 (k := 40) (n := 110) (v := (B 40) k) d_GM_winding_28 rfl (by decide) (by decide) rfl rfl (by omega) (by omega) (by omega) rfl ?_
      refine jt_topl (fun v104 ev104 => ?_)
      have bv104 : (-9223372036854775808) ≤ v104 ∧ v104 ≤ 9223372036854775807 := by rw [ev104]; exact hJ.2.1 40 k
      rw [hJ.2.2.2 40 rfl, hp9.1] at ev104
      refine jt_lsub d_GM_winding_29 ?_
      refine jt_topln (fun v105 bv105 ev105 => ?_)
      refine jt_lload_n d_GM_winding_30 rfl ?_
      refine jt_aload_n d_GM_winding_31 rfl ?_
      refine gm_gA (k := 41) (a := m + 26) d_GM_winding_32 GM_f136 (by decide) (by decide) rfl ?_
      refine jt_iload d_GM_winding_35 rfl ?_
      refine gm_ld1 (k := 41) (n := 110) (v := (B 41) k) d_GM_winding_37 rfl (by decide) (by decide) rfl rfl (by omega) (by omega) (by omega) rfl ?_
      refine jt_topl (fun v106 ev106 => ?_)
      have bv106 : (-9223372036854775808) ≤ v106 ∧ v106 ≤ 9223372036854775807 := by rw [ev106]; exact hJ.2.1 41 k
      rw [hJ.2.2.2 41 rfl, hp9.2.1] at ev106
      refine jt_lsub d_GM_winding_38 ?_
      refine jt_topln (fun v107 bv107 ev107 => ?_)
      refine jt_lmul d_GM_winding_39 ?_
      refine jt_topln (fun v108 bv108 ev108 => ?_)
      refine jt_lload_n d_GM_winding_40 rfl ?_
      refine jt_aload_n d_GM_winding_41 rfl ?_
      refine gm_gA (k := 40) (a := m + 25) d_GM_winding_42 GM_f133 (by decide) (by decide) rfl ?_
      refine jt_iload d_GM_winding_45 rfl ?_
      refine gm_ld1 (k := 40) (n := 110) (v := (B 40) k) d_GM_winding_47 rfl (by decide) (by decide) rfl rfl (by omega) (by omega) (by omega) rfl ?_
      refine jt_topl (fun v109 ev109 => ?_)
      have bv109 : (-9223372036854775808) ≤ v109 ∧ v109 ≤ 9223372036854775807 := by rw [ev109]; exact hJ.2.1 40 k
      rw [hJ.2.2.2 40 rfl, hp9.1] at ev109
      refine jt_lsub d_GM_winding_48 ?_
      refine jt_topln (fun v110 bv110 ev110 => ?_)
      refine jt_aload_n d_GM_winding_49 rfl ?_
      refine gm_gA (k := 43) (a := m + 28) d_GM_winding_50 GM_f142 (by decide) (by decide) rfl ?_
      refine jt_iload d_GM_winding_53 rfl ?_
      refine gm_ld1 (k := 43) (n := 110) (v := (B 43) k) d_GM_winding_55 rfl (by decide) (by decide) rfl rfl (by omega) (by omega) (by omega) rfl ?_
      refine jt_topl (fun v111 ev111 => ?_)
      have bv111 : (-9223372036854775808) ≤ v111 ∧ v111 ≤ 9223372036854775807 := by rw [ev111]; exact hJ.2.1 43 k
      rw [hJ.2.2.2 43 rfl, hp9.2.2.2] at ev111
      refine jt_aload_n d_GM_winding_56 rfl ?_
      refine gm_gA (k := 41) (a := m + 26) d_GM_winding_57 GM_f136 (by decide) (by decide) rfl ?_
      refine jt_iload d_GM_winding_60 rfl ?_
      refine gm_ld1 (k := 41) (n := 110) (v := (B 41) k) d_GM_winding_62 rfl (by decide) (by decide) rfl rfl (by omega) (by omega) (by omega) rfl ?_
      refine jt_topl (fun v112 ev112 => ?_)
      have bv112 : (-9223372036854775808) ≤ v112 ∧ v112 ≤ 9223372036854775807 := by rw [ev112]; exact hJ.2.1 41 k
      rw [hJ.2.2.2 41 rfl, hp9.2.1] at ev112
      refine jt_lsub d_GM_winding_63 ?_
      refine jt_topln (fun v113 bv113 ev113 => ?_)
      refine jt_lmul d_GM_winding_64 ?_
      refine jt_topln (fun v114 bv114 ev114 => ?_)
      refine jt_lsub d_GM_winding_65 ?_
      refine jt_topln (fun v115 bv115 ev115 => ?_)
      have q1 : v105 = t9.2.2.1 - t9.1 := by omega
      have q2 : v107 = y - t9.2.1 := by omega
      have q3 := sd_m (u := v105) (v := v107) (by omega) (by omega) bv108 ev108
      have q4 : v110 = x - t9.1 := by omega
      have q5 : v113 = t9.2.2.2 - t9.2.1 := by omega
      have q6 := sd_m (u := v110) (v := v113) (by omega) (by omega) bv114 ev114
      have q7 : v115 = psd x y t9 := by unfold psd; rw [← q1, ← q2, ← q4, ← q5]; generalize v105 * v107 = z1 at q3 ⊢; generalize v110 * v113 = z2 at q6 ⊢; omega
      clear q1 q2 q3 q4 q5 q6 ev108 ev114
      refine jt_lstore (L' := [(0, .ref m), (1, .long (jL x)), (3, .long (jL y)), (5, .int (jI n)), (6, .int (jI k)), (7, .long (jL v115))]) d_GM_winding_66 (Nat.le_of_ble_eq_true rfl) rfl ?_
      refine jt_aload_n d_GM_winding_68 rfl ?_
      refine gm_gA (k := 41) (a := m + 26) d_GM_winding_69 GM_f136 (by decide) (by decide) rfl ?_
      refine jt_iload d_GM_winding_72 rfl ?_
      refine gm_ld1 (k := 41) (n := 110) (v := (B 41) k) d_GM_winding_74 rfl (by decide) (by decide) rfl rfl (by omega) (by omega) (by omega) rfl ?_
      refine jt_topl (fun v116 ev116 => ?_)
      have bv116 : (-9223372036854775808) ≤ v116 ∧ v116 ≤ 9223372036854775807 := by rw [ev116]; exact hJ.2.1 41 k
      rw [hJ.2.2.2 41 rfl, hp9.2.1] at ev116
      refine jt_lload_n d_GM_winding_75 rfl ?_
      refine jt_lif_gt (t := 102) d_GM_winding_76 d_GM_winding_77 rfl (by unfold jRl; omega) (by unfold jRl; omega) (fun c117 => ?_) (fun c117 => ?_)
      · skip
        refine jt_aload_n d_GM_winding_102 rfl ?_
        refine gm_gA (k := 43) (a := m + 28) d_GM_winding_103 GM_f142 (by decide) (by decide) rfl ?_
        refine jt_iload d_GM_winding_106 rfl ?_
        refine gm_ld1 (k := 43) (n := 110) (v := (B 43) k) d_GM_winding_108 rfl (by decide) (by decide) rfl rfl (by omega) (by omega) (by omega) rfl ?_
        refine jt_topl (fun v118 ev118 => ?_)
        have bv118 : (-9223372036854775808) ≤ v118 ∧ v118 ≤ 9223372036854775807 := by rw [ev118]; exact hJ.2.1 43 k
        rw [hJ.2.2.2 43 rfl, hp9.2.2.2] at ev118
        refine jt_lload_n d_GM_winding_109 rfl ?_
        refine jt_lif_gt (t := 136) d_GM_winding_110 d_GM_winding_111 rfl (by unfold jRl; omega) (by unfold jRl; omega) (fun c119 => ?_) (fun c119 => ?_)
        · skip
          refine jt_iinc (L' := [(0, .ref m), (1, .long (jL x)), (3, .long (jL y)), (5, .int (jI n)), (6, .int (jI (k + 1))), (7, .long (jL v115))]) d_GM_winding_136 rfl (Nat.le_of_ble_eq_true rfl) rfl ?_
          refine jt_goto (t := 6) d_GM_winding_139 rfl ?_
          refine jt_sub (L' := [(0, .ref m), (1, .long (jL x)), (3, .long (jL y)), (5, .int (jI n)), (6, .int (jI (k + 1)))]) (fun _ h => List.mem_append_left [(7, Value.long (jL v115))] h) ?_
          exact ih n (k + 1) J B hJ (by omega) (by omega) (by omega) (by omega) (by rw [show (k + 1).toNat = k.toNat + 1 by omega, pwn_t ht9, ← hw9]; unfold pwd; (repeat' split) <;> omega) (by omega)
        · skip
          refine jt_lload_n d_GM_winding_114 rfl ?_
          refine jt_aload_n d_GM_winding_115 rfl ?_
          refine gm_gA (k := 41) (a := m + 26) d_GM_winding_116 GM_f136 (by decide) (by decide) rfl ?_
          refine jt_iload d_GM_winding_119 rfl ?_
          refine gm_ld1 (k := 41) (n := 110) (v := (B 41) k) d_GM_winding_121 rfl (by decide) (by decide) rfl rfl (by omega) (by omega) (by omega) rfl ?_
          refine jt_topl (fun v120 ev120 => ?_)
          have bv120 : (-9223372036854775808) ≤ v120 ∧ v120 ≤ 9223372036854775807 := by rw [ev120]; exact hJ.2.1 41 k
          rw [hJ.2.2.2 41 rfl, hp9.2.1] at ev120
          refine jt_lif_ge (t := 136) d_GM_winding_122 d_GM_winding_123 rfl (by unfold jRl; omega) (by unfold jRl; omega) (fun c121 => ?_) (fun c121 => ?_)
          · skip
            refine jt_iinc (L' := [(0, .ref m), (1, .long (jL x)), (3, .long (jL y)), (5, .int (jI n)), (6, .int (jI (k + 1))), (7, .long (jL v115))]) d_GM_winding_136 rfl (Nat.le_of_ble_eq_true rfl) rfl ?_
            refine jt_goto (t := 6) d_GM_winding_139 rfl ?_
            refine jt_sub (L' := [(0, .ref m), (1, .long (jL x)), (3, .long (jL y)), (5, .int (jI n)), (6, .int (jI (k + 1)))]) (fun _ h => List.mem_append_left [(7, Value.long (jL v115))] h) ?_
            exact ih n (k + 1) J B hJ (by omega) (by omega) (by omega) (by omega) (by rw [show (k + 1).toNat = k.toNat + 1 by omega, pwn_t ht9, ← hw9]; unfold pwd; (repeat' split) <;> omega) (by omega)
          · skip
            refine jt_lload d_GM_winding_126 rfl ?_
            refine jt_lconst (z := 0) d_GM_winding_128 (by decide) ?_
            refine jt_lif_ge (t := 136) d_GM_winding_129 d_GM_winding_130 rfl (by unfold jRl; omega) (by unfold jRl; omega) (fun c122 => ?_) (fun c122 => ?_)
            · skip
              refine jt_iinc (L' := [(0, .ref m), (1, .long (jL x)), (3, .long (jL y)), (5, .int (jI n)), (6, .int (jI (k + 1))), (7, .long (jL v115))]) d_GM_winding_136 rfl (Nat.le_of_ble_eq_true rfl) rfl ?_
              refine jt_goto (t := 6) d_GM_winding_139 rfl ?_
              refine jt_sub (L' := [(0, .ref m), (1, .long (jL x)), (3, .long (jL y)), (5, .int (jI n)), (6, .int (jI (k + 1)))]) (fun _ h => List.mem_append_left [(7, Value.long (jL v115))] h) ?_
              exact ih n (k + 1) J B hJ (by omega) (by omega) (by omega) (by omega) (by rw [show (k + 1).toNat = k.toNat + 1 by omega, pwn_t ht9, ← hw9]; unfold pwd; (repeat' split) <;> omega) (by omega)
            · skip
              refine jt_iinc (L' := [(0, .ref m), (1, .long (jL x)), (3, .long (jL y)), (5, .int (jI (n + (-1)))), (6, .int (jI k)), (7, .long (jL v115))]) d_GM_winding_133 rfl (Nat.le_of_ble_eq_true rfl) rfl ?_
              refine jt_iinc (L' := [(0, .ref m), (1, .long (jL x)), (3, .long (jL y)), (5, .int (jI (n + (-1)))), (6, .int (jI (k + 1))), (7, .long (jL v115))]) d_GM_winding_136 rfl (Nat.le_of_ble_eq_true rfl) rfl ?_
              refine jt_goto (t := 6) d_GM_winding_139 rfl ?_
              refine jt_sub (L' := [(0, .ref m), (1, .long (jL x)), (3, .long (jL y)), (5, .int (jI (n + (-1)))), (6, .int (jI (k + 1)))]) (fun _ h => List.mem_append_left [(7, Value.long (jL v115))] h) ?_
              exact ih (n + (-1)) (k + 1) J B hJ (by omega) (by omega) (by omega) (by omega) (by rw [show (k + 1).toNat = k.toNat + 1 by omega, pwn_t ht9, ← hw9]; unfold pwd; (repeat' split) <;> omega) (by omega)
      · skip
        refine jt_lload_n d_GM_winding_80 rfl ?_
        refine jt_aload_n d_GM_winding_81 rfl ?_
        refine gm_gA (k := 43) (a := m + 28) d_GM_winding_82 GM_f142 (by decide) (by decide) rfl ?_
        refine jt_iload d_GM_winding_85 rfl ?_
        refine gm_ld1 (k := 43) (n := 110) (v := (B 43) k) d_GM_winding_87 rfl (by decide) (by decide) rfl rfl (by omega) (by omega) (by omega) rfl ?_
        refine jt_topl (fun v123 ev123 => ?_)
        have bv123 : (-9223372036854775808) ≤ v123 ∧ v123 ≤ 9223372036854775807 := by rw [ev123]; exact hJ.2.1 43 k
        rw [hJ.2.2.2 43 rfl, hp9.2.2.2] at ev123
        refine jt_lif_ge (t := 102) d_GM_winding_88 d_GM_winding_89 rfl (by unfold jRl; omega) (by unfold jRl; omega) (fun c124 => ?_) (fun c124 => ?_)
        · skip
          refine jt_aload_n d_GM_winding_102 rfl ?_
          refine gm_gA (k := 43) (a := m + 28) d_GM_winding_103 GM_f142 (by decide) (by decide) rfl ?_
          refine jt_iload d_GM_winding_106 rfl ?_
          refine gm_ld1 (k := 43) (n := 110) (v := (B 43) k) d_GM_winding_108 rfl (by decide) (by decide) rfl rfl (by omega) (by omega) (by omega) rfl ?_
          refine jt_topl (fun v125 ev125 => ?_)
          have bv125 : (-9223372036854775808) ≤ v125 ∧ v125 ≤ 9223372036854775807 := by rw [ev125]; exact hJ.2.1 43 k
          rw [hJ.2.2.2 43 rfl, hp9.2.2.2] at ev125
          refine jt_lload_n d_GM_winding_109 rfl ?_
          refine jt_lif_gt (t := 136) d_GM_winding_110 d_GM_winding_111 rfl (by unfold jRl; omega) (by unfold jRl; omega) (fun c126 => ?_) (fun c126 => ?_)
          · skip
            refine jt_iinc (L' := [(0, .ref m), (1, .long (jL x)), (3, .long (jL y)), (5, .int (jI n)), (6, .int (jI (k + 1))), (7, .long (jL v115))]) d_GM_winding_136 rfl (Nat.le_of_ble_eq_true rfl) rfl ?_
            refine jt_goto (t := 6) d_GM_winding_139 rfl ?_
            refine jt_sub (L' := [(0, .ref m), (1, .long (jL x)), (3, .long (jL y)), (5, .int (jI n)), (6, .int (jI (k + 1)))]) (fun _ h => List.mem_append_left [(7, Value.long (jL v115))] h) ?_
            exact ih n (k + 1) J B hJ (by omega) (by omega) (by omega) (by omega) (by rw [show (k + 1).toNat = k.toNat + 1 by omega, pwn_t ht9, ← hw9]; unfold pwd; (repeat' split) <;> omega) (by omega)
          · skip
            refine jt_lload_n d_GM_winding_114 rfl ?_
            refine jt_aload_n d_GM_winding_115 rfl ?_
            refine gm_gA (k := 41) (a := m + 26) d_GM_winding_116 GM_f136 (by decide) (by decide) rfl ?_
            refine jt_iload d_GM_winding_119 rfl ?_
            refine gm_ld1 (k := 41) (n := 110) (v := (B 41) k) d_GM_winding_121 rfl (by decide) (by decide) rfl rfl (by omega) (by omega) (by omega) rfl ?_
            refine jt_topl (fun v127 ev127 => ?_)
            have bv127 : (-9223372036854775808) ≤ v127 ∧ v127 ≤ 9223372036854775807 := by rw [ev127]; exact hJ.2.1 41 k
            rw [hJ.2.2.2 41 rfl, hp9.2.1] at ev127
            refine jt_lif_ge (t := 136) d_GM_winding_122 d_GM_winding_123 rfl (by unfold jRl; omega) (by unfold jRl; omega) (fun c128 => ?_) (fun c128 => ?_)
            · skip
              refine jt_iinc (L' := [(0, .ref m), (1, .long (jL x)), (3, .long (jL y)), (5, .int (jI n)), (6, .int (jI (k + 1))), (7, .long (jL v115))]) d_GM_winding_136 rfl (Nat.le_of_ble_eq_true rfl) rfl ?_
              refine jt_goto (t := 6) d_GM_winding_139 rfl ?_
              refine jt_sub (L' := [(0, .ref m), (1, .long (jL x)), (3, .long (jL y)), (5, .int (jI n)), (6, .int (jI (k + 1)))]) (fun _ h => List.mem_append_left [(7, Value.long (jL v115))] h) ?_
              exact ih n (k + 1) J B hJ (by omega) (by omega) (by omega) (by omega) (by rw [show (k + 1).toNat = k.toNat + 1 by omega, pwn_t ht9, ← hw9]; unfold pwd; (repeat' split) <;> omega) (by omega)
            · skip
              refine jt_lload d_GM_winding_126 rfl ?_
              refine jt_lconst (z := 0) d_GM_winding_128 (by decide) ?_
              refine jt_lif_ge (t := 136) d_GM_winding_129 d_GM_winding_130 rfl (by unfold jRl; omega) (by unfold jRl; omega) (fun c129 => ?_) (fun c129 => ?_)
              · skip
                refine jt_iinc (L' := [(0, .ref m), (1, .long (jL x)), (3, .long (jL y)), (5, .int (jI n)), (6, .int (jI (k + 1))), (7, .long (jL v115))]) d_GM_winding_136 rfl (Nat.le_of_ble_eq_true rfl) rfl ?_
                refine jt_goto (t := 6) d_GM_winding_139 rfl ?_
                refine jt_sub (L' := [(0, .ref m), (1, .long (jL x)), (3, .long (jL y)), (5, .int (jI n)), (6, .int (jI (k + 1)))]) (fun _ h => List.mem_append_left [(7, Value.long (jL v115))] h) ?_
                exact ih n (k + 1) J B hJ (by omega) (by omega) (by omega) (by omega) (by rw [show (k + 1).toNat = k.toNat + 1 by omega, pwn_t ht9, ← hw9]; unfold pwd; (repeat' split) <;> omega) (by omega)
              · skip
                refine jt_iinc (L' := [(0, .ref m), (1, .long (jL x)), (3, .long (jL y)), (5, .int (jI (n + (-1)))), (6, .int (jI k)), (7, .long (jL v115))]) d_GM_winding_133 rfl (Nat.le_of_ble_eq_true rfl) rfl ?_
                refine jt_iinc (L' := [(0, .ref m), (1, .long (jL x)), (3, .long (jL y)), (5, .int (jI (n + (-1)))), (6, .int (jI (k + 1))), (7, .long (jL v115))]) d_GM_winding_136 rfl (Nat.le_of_ble_eq_true rfl) rfl ?_
                refine jt_goto (t := 6) d_GM_winding_139 rfl ?_
                refine jt_sub (L' := [(0, .ref m), (1, .long (jL x)), (3, .long (jL y)), (5, .int (jI (n + (-1)))), (6, .int (jI (k + 1)))]) (fun _ h => List.mem_append_left [(7, Value.long (jL v115))] h) ?_
                exact ih (n + (-1)) (k + 1) J B hJ (by omega) (by omega) (by omega) (by omega) (by rw [show (k + 1).toNat = k.toNat + 1 by omega, pwn_t ht9, ← hw9]; unfold pwd; (repeat' split) <;> omega) (by omega)
        · skip
          refine jt_lload d_GM_winding_92 rfl ?_
          refine jt_lconst (z := 0) d_GM_winding_94 (by decide) ?_
          refine jt_lif_le (t := 102) d_GM_winding_95 d_GM_winding_96 rfl (by unfold jRl; omega) (by unfold jRl; omega) (fun c130 => ?_) (fun c130 => ?_)
          · skip
            refine jt_aload_n d_GM_winding_102 rfl ?_
            refine gm_gA (k := 43) (a := m + 28) d_GM_winding_103 GM_f142 (by decide) (by decide) rfl ?_
            refine jt_iload d_GM_winding_106 rfl ?_
            refine gm_ld1 (k := 43) (n := 110) (v := (B 43) k) d_GM_winding_108 rfl (by decide) (by decide) rfl rfl (by omega) (by omega) (by omega) rfl ?_
            refine jt_topl (fun v131 ev131 => ?_)
            have bv131 : (-9223372036854775808) ≤ v131 ∧ v131 ≤ 9223372036854775807 := by rw [ev131]; exact hJ.2.1 43 k
            rw [hJ.2.2.2 43 rfl, hp9.2.2.2] at ev131
            refine jt_lload_n d_GM_winding_109 rfl ?_
            refine jt_lif_gt (t := 136) d_GM_winding_110 d_GM_winding_111 rfl (by unfold jRl; omega) (by unfold jRl; omega) (fun c132 => ?_) (fun c132 => ?_)
            · skip
              refine jt_iinc (L' := [(0, .ref m), (1, .long (jL x)), (3, .long (jL y)), (5, .int (jI n)), (6, .int (jI (k + 1))), (7, .long (jL v115))]) d_GM_winding_136 rfl (Nat.le_of_ble_eq_true rfl) rfl ?_
              refine jt_goto (t := 6) d_GM_winding_139 rfl ?_
              refine jt_sub (L' := [(0, .ref m), (1, .long (jL x)), (3, .long (jL y)), (5, .int (jI n)), (6, .int (jI (k + 1)))]) (fun _ h => List.mem_append_left [(7, Value.long (jL v115))] h) ?_
              exact ih n (k + 1) J B hJ (by omega) (by omega) (by omega) (by omega) (by rw [show (k + 1).toNat = k.toNat + 1 by omega, pwn_t ht9, ← hw9]; unfold pwd; (repeat' split) <;> omega) (by omega)
            · skip
              refine jt_lload_n d_GM_winding_114 rfl ?_
              refine jt_aload_n d_GM_winding_115 rfl ?_
              refine gm_gA (k := 41) (a := m + 26) d_GM_winding_116 GM_f136 (by decide) (by decide) rfl ?_
              refine jt_iload d_GM_winding_119 rfl ?_
              refine gm_ld1 (k := 41) (n := 110) (v := (B 41) k) d_GM_winding_121 rfl (by decide) (by decide) rfl rfl (by omega) (by omega) (by omega) rfl ?_
              refine jt_topl (fun v133 ev133 => ?_)
              have bv133 : (-9223372036854775808) ≤ v133 ∧ v133 ≤ 9223372036854775807 := by rw [ev133]; exact hJ.2.1 41 k
              rw [hJ.2.2.2 41 rfl, hp9.2.1] at ev133
              refine jt_lif_ge (t := 136) d_GM_winding_122 d_GM_winding_123 rfl (by unfold jRl; omega) (by unfold jRl; omega) (fun c134 => ?_) (fun c134 => ?_)
              · skip
                refine jt_iinc (L' := [(0, .ref m), (1, .long (jL x)), (3, .long (jL y)), (5, .int (jI n)), (6, .int (jI (k + 1))), (7, .long (jL v115))]) d_GM_winding_136 rfl (Nat.le_of_ble_eq_true rfl) rfl ?_
                refine jt_goto (t := 6) d_GM_winding_139 rfl ?_
                refine jt_sub (L' := [(0, .ref m), (1, .long (jL x)), (3, .long (jL y)), (5, .int (jI n)), (6, .int (jI (k + 1)))]) (fun _ h => List.mem_append_left [(7, Value.long (jL v115))] h) ?_
                exact ih n (k + 1) J B hJ (by omega) (by omega) (by omega) (by omega) (by rw [show (k + 1).toNat = k.toNat + 1 by omega, pwn_t ht9, ← hw9]; unfold pwd; (repeat' split) <;> omega) (by omega)
              · skip
                refine jt_lload d_GM_winding_126 rfl ?_
                refine jt_lconst (z := 0) d_GM_winding_128 (by decide) ?_
                refine jt_lif_ge (t := 136) d_GM_winding_129 d_GM_winding_130 rfl (by unfold jRl; omega) (by unfold jRl; omega) (fun c135 => ?_) (fun c135 => ?_)
                · skip
                  refine jt_iinc (L' := [(0, .ref m), (1, .long (jL x)), (3, .long (jL y)), (5, .int (jI n)), (6, .int (jI (k + 1))), (7, .long (jL v115))]) d_GM_winding_136 rfl (Nat.le_of_ble_eq_true rfl) rfl ?_
                  refine jt_goto (t := 6) d_GM_winding_139 rfl ?_
                  refine jt_sub (L' := [(0, .ref m), (1, .long (jL x)), (3, .long (jL y)), (5, .int (jI n)), (6, .int (jI (k + 1)))]) (fun _ h => List.mem_append_left [(7, Value.long (jL v115))] h) ?_
                  exact ih n (k + 1) J B hJ (by omega) (by omega) (by omega) (by omega) (by rw [show (k + 1).toNat = k.toNat + 1 by omega, pwn_t ht9, ← hw9]; unfold pwd; (repeat' split) <;> omega) (by omega)
                · skip
                  refine jt_iinc (L' := [(0, .ref m), (1, .long (jL x)), (3, .long (jL y)), (5, .int (jI (n + (-1)))), (6, .int (jI k)), (7, .long (jL v115))]) d_GM_winding_133 rfl (Nat.le_of_ble_eq_true rfl) rfl ?_
                  refine jt_iinc (L' := [(0, .ref m), (1, .long (jL x)), (3, .long (jL y)), (5, .int (jI (n + (-1)))), (6, .int (jI (k + 1))), (7, .long (jL v115))]) d_GM_winding_136 rfl (Nat.le_of_ble_eq_true rfl) rfl ?_
                  refine jt_goto (t := 6) d_GM_winding_139 rfl ?_
                  refine jt_sub (L' := [(0, .ref m), (1, .long (jL x)), (3, .long (jL y)), (5, .int (jI (n + (-1)))), (6, .int (jI (k + 1)))]) (fun _ h => List.mem_append_left [(7, Value.long (jL v115))] h) ?_
                  exact ih (n + (-1)) (k + 1) J B hJ (by omega) (by omega) (by omega) (by omega) (by rw [show (k + 1).toNat = k.toNat + 1 by omega, pwn_t ht9, ← hw9]; unfold pwd; (repeat' split) <;> omega) (by omega)
          · skip
            refine jt_iinc (L' := [(0, .ref m), (1, .long (jL x)), (3, .long (jL y)), (5, .int (jI (n + 1))), (6, .int (jI k)), (7, .long (jL v115))]) d_GM_winding_99 rfl (Nat.le_of_ble_eq_true rfl) rfl ?_
            refine jt_aload_n d_GM_winding_102 rfl ?_
            refine gm_gA (k := 43) (a := m + 28) d_GM_winding_103 GM_f142 (by decide) (by decide) rfl ?_
            refine jt_iload d_GM_winding_106 rfl ?_
            refine gm_ld1 (k := 43) (n := 110) (v := (B 43) k) d_GM_winding_108 rfl (by decide) (by decide) rfl rfl (by omega) (by omega) (by omega) rfl ?_
            refine jt_topl (fun v136 ev136 => ?_)
            have bv136 : (-9223372036854775808) ≤ v136 ∧ v136 ≤ 9223372036854775807 := by rw [ev136]; exact hJ.2.1 43 k
            rw [hJ.2.2.2 43 rfl, hp9.2.2.2] at ev136
            refine jt_lload_n d_GM_winding_109 rfl ?_
            refine jt_lif_gt (t := 136) d_GM_winding_110 d_GM_winding_111 rfl (by unfold jRl; omega) (by unfold jRl; omega) (fun c137 => ?_) (fun c137 => ?_)
            · skip
              refine jt_iinc (L' := [(0, .ref m), (1, .long (jL x)), (3, .long (jL y)), (5, .int (jI (n + 1))), (6, .int (jI (k + 1))), (7, .long (jL v115))]) d_GM_winding_136 rfl (Nat.le_of_ble_eq_true rfl) rfl ?_
              refine jt_goto (t := 6) d_GM_winding_139 rfl ?_
              refine jt_sub (L' := [(0, .ref m), (1, .long (jL x)), (3, .long (jL y)), (5, .int (jI (n + 1))), (6, .int (jI (k + 1)))]) (fun _ h => List.mem_append_left [(7, Value.long (jL v115))] h) ?_
              exact ih (n + 1) (k + 1) J B hJ (by omega) (by omega) (by omega) (by omega) (by rw [show (k + 1).toNat = k.toNat + 1 by omega, pwn_t ht9, ← hw9]; unfold pwd; (repeat' split) <;> omega) (by omega)
            · skip
              refine jt_lload_n d_GM_winding_114 rfl ?_
              refine jt_aload_n d_GM_winding_115 rfl ?_
              refine gm_gA (k := 41) (a := m + 26) d_GM_winding_116 GM_f136 (by decide) (by decide) rfl ?_
              refine jt_iload d_GM_winding_119 rfl ?_
              refine gm_ld1 (k := 41) (n := 110) (v := (B 41) k) d_GM_winding_121 rfl (by decide) (by decide) rfl rfl (by omega) (by omega) (by omega) rfl ?_
              refine jt_topl (fun v138 ev138 => ?_)
              have bv138 : (-9223372036854775808) ≤ v138 ∧ v138 ≤ 9223372036854775807 := by rw [ev138]; exact hJ.2.1 41 k
              rw [hJ.2.2.2 41 rfl, hp9.2.1] at ev138
              refine jt_lif_ge (t := 136) d_GM_winding_122 d_GM_winding_123 rfl (by unfold jRl; omega) (by unfold jRl; omega) (fun c139 => ?_) (fun c139 => ?_)
              · skip
                refine jt_iinc (L' := [(0, .ref m), (1, .long (jL x)), (3, .long (jL y)), (5, .int (jI (n + 1))), (6, .int (jI (k + 1))), (7, .long (jL v115))]) d_GM_winding_136 rfl (Nat.le_of_ble_eq_true rfl) rfl ?_
                refine jt_goto (t := 6) d_GM_winding_139 rfl ?_
                refine jt_sub (L' := [(0, .ref m), (1, .long (jL x)), (3, .long (jL y)), (5, .int (jI (n + 1))), (6, .int (jI (k + 1)))]) (fun _ h => List.mem_append_left [(7, Value.long (jL v115))] h) ?_
                exact ih (n + 1) (k + 1) J B hJ (by omega) (by omega) (by omega) (by omega) (by rw [show (k + 1).toNat = k.toNat + 1 by omega, pwn_t ht9, ← hw9]; unfold pwd; (repeat' split) <;> omega) (by omega)
              · skip
                refine jt_lload d_GM_winding_126 rfl ?_
                refine jt_lconst (z := 0) d_GM_winding_128 (by decide) ?_
                refine jt_lif_ge (t := 136) d_GM_winding_129 d_GM_winding_130 rfl (by unfold jRl; omega) (by unfold jRl; omega) (fun c140 => ?_) (fun c140 => ?_)
                · skip
                  refine jt_iinc (L' := [(0, .ref m), (1, .long (jL x)), (3, .long (jL y)), (5, .int (jI (n + 1))), (6, .int (jI (k + 1))), (7, .long (jL v115))]) d_GM_winding_136 rfl (Nat.le_of_ble_eq_true rfl) rfl ?_
                  refine jt_goto (t := 6) d_GM_winding_139 rfl ?_
                  refine jt_sub (L' := [(0, .ref m), (1, .long (jL x)), (3, .long (jL y)), (5, .int (jI (n + 1))), (6, .int (jI (k + 1)))]) (fun _ h => List.mem_append_left [(7, Value.long (jL v115))] h) ?_
                  exact ih (n + 1) (k + 1) J B hJ (by omega) (by omega) (by omega) (by omega) (by rw [show (k + 1).toNat = k.toNat + 1 by omega, pwn_t ht9, ← hw9]; unfold pwd; (repeat' split) <;> omega) (by omega)
                · skip
                  refine jt_iinc (L' := [(0, .ref m), (1, .long (jL x)), (3, .long (jL y)), (5, .int (jI ((n + 1) + (-1)))), (6, .int (jI k)), (7, .long (jL v115))]) d_GM_winding_133 rfl (Nat.le_of_ble_eq_true rfl) rfl ?_
                  refine jt_iinc (L' := [(0, .ref m), (1, .long (jL x)), (3, .long (jL y)), (5, .int (jI ((n + 1) + (-1)))), (6, .int (jI (k + 1))), (7, .long (jL v115))]) d_GM_winding_136 rfl (Nat.le_of_ble_eq_true rfl) rfl ?_
                  refine jt_goto (t := 6) d_GM_winding_139 rfl ?_
                  refine jt_sub (L' := [(0, .ref m), (1, .long (jL x)), (3, .long (jL y)), (5, .int (jI ((n + 1) + (-1)))), (6, .int (jI (k + 1)))]) (fun _ h => List.mem_append_left [(7, Value.long (jL v115))] h) ?_
                  exact ih ((n + 1) + (-1)) (k + 1) J B hJ (by omega) (by omega) (by omega) (by omega) (by rw [show (k + 1).toNat = k.toNat + 1 by omega, pwn_t ht9, ← hw9]; unfold pwd; (repeat' split) <;> omega) (by omega)
set_option maxRecDepth 100000 in
set_option maxHeartbeats 1000000 in
theorem y_GM_winding (G : jG) (d m : Nat) (x : Int) (y : Int) (I : Nat → Int) (A : Nat → Int → Int) (hI : gSI I) (hA : gSA A) (hx : 0 ≤ x ∧ x ≤ 262144) (hy : 0 ≤ y ∧ y ≤ 262144) (Ps : List Pc) (hP : gPc (A 40) (A 41) (A 42) (A 43) Ps) (hn : I 10 = (Ps.length : Int)) (hin : ∀ t, t ∈ Ps → pin t) : gct G Y_GM_winding d m [.long (jL x), .long (jL y)] I A (fun (rv : Option Value) (I2 : Nat → Int) (A2 : Nat → Int → Int) => ∃ w : Int, rv = some (.int (jI w)) ∧ (-110 ≤ w ∧ w ≤ 110) ∧ gPo [] [] I A I2 A2 ∧ w = pwn x y Ps) := by
  refine gct_of (by decide) (Nat.le_of_ble_eq_true rfl) (fun f0 sz => ?_)
  show jt _ 0 [(0, .ref m), (1, .long (jL x)), (3, .long (jL y))] [] _ _ _ _
  have hz0 : gPo [] [] I A I A := gPo.refl hI hA
  refine jt_iconst d_GM_winding_0 ?_
  refine jt_istore (L' := [(0, .ref m), (1, .long (jL x)), (3, .long (jL y)), (5, .int (jI 0))]) d_GM_winding_1 (Nat.le_of_ble_eq_true rfl) rfl ?_
  refine jt_iconst d_GM_winding_3 ?_
  refine jt_istore (L' := [(0, .ref m), (1, .long (jL x)), (3, .long (jL y)), (5, .int (jI 0)), (6, .int (jI 0))]) d_GM_winding_4 (Nat.le_of_ble_eq_true rfl) rfl ?_
  exact l6_GM_windingy G d m x y I A hI hA hx hy Ps hP hn hin f0 sz  111 0 0 I A hz0 (by omega) ((hz0.1 10).1) (by omega) (by omega) (by rfl) (by omega)
set_option maxRecDepth 100000 in
set_option maxHeartbeats 1000000 in
theorem l66_GM_makePiecesy (G : jG) (d m : Nat)  (I : Nat → Int) (A : Nat → Int → Int) (hI : gSI I) (hA : gSA A) (L : List Int) (hl : I 12 = (L.length : Int) ∧ I 12 ≤ 12) (hcv : ∀ (i : Nat) (x : Int), L[i]? = some x → A 44 ((i : Int) + 1) = x) (N : Int → Int) (hN : pnr N) (hNA : ∀ z, 0 ≤ z → z < 2 * pke L 0 + 2 → A 39 z = N z) (hk74 : 2 * pke L 0 + 2 ≤ 74) (f0 : jF) (sz : Nat) (k : Int) (l : Int) (k0 : 0 ≤ k) (k1 : k ≤ 3 * (l - 1)) (l0 : 1 ≤ l) (l1 : l ≤ 12) (hkl : k + 3 ≤ pke L 0) (Q9 : List Pc) (hout : ∀ (t : Int) (J : Nat → Int) (B : Nat → Int → Int), gPo [10] [40, 41, 42, 43] I A J B → (0 ≤ t) → (t ≤ 8) → (0 ≤ J 10) → (J 10 ≤ 8 * (l - 1) + t) → (J 10 = ((Q9 ++ pbs N k t.toNat).length : Int)) → (gPc (B 40) (B 41) (B 42) (B 43) (Q9 ++ pbs N k t.toNat)) → (8 ≤ t) → jt (jm G Y_GM_makePieces (gR (d + 1)) (gQ m f0 sz (fun (rv : Option Value) (I2 : Nat → Int) (A2 : Nat → Int → Int) => rv = none ∧ gPo [10] [40, 41, 42, 43] I A I2 A2 ∧ I2 10 = ((pls N L).length : Int) ∧ gPc (A2 40) (A2 41) (A2 42) (A2 43) (pls N L)))) 114 [(0, .ref m), (1, .int (jI k)), (2, .int (jI l)), (3, .int (jI t))] [] (gmf m f0 J B) sz 0 0) : ∀ (n9 : Nat) (t : Int) (J : Nat → Int) (B : Nat → Int → Int), gPo [10] [40, 41, 42, 43] I A J B → (0 ≤ t) → (t ≤ 8) → (0 ≤ J 10) → (J 10 ≤ 8 * (l - 1) + t) → (J 10 = ((Q9 ++ pbs N k t.toNat).length : Int)) → (gPc (B 40) (B 41) (B 42) (B 43) (Q9 ++ pbs N k t.toNat)) → 8 - t < (n9 : Int) → jt (jm G Y_GM_makePieces (gR (d + 1)) (gQ m f0 sz (fun (rv : Option Value) (I2 : Nat → Int) (A2 : Nat → Int → Int) => rv = none ∧ gPo [10] [40, 41, 42, 43] I A I2 A2 ∧ I2 10 = ((pls N L).length : Int) ∧ gPc (A2 40) (A2 41) (A2 42) (A2 43) (pls N L)))) 66 [(0, .ref m), (1, .int (jI k)), (2, .int (jI l)), (3, .int (jI t))] [] (gmf m f0 J B) sz 0 0 := by
  have kp0 := (pke_n L 0).2.1
  intro n9
  induction n9 with
  | zero =>
    intro t J B hJ t0 t1 p0 p1 hpl hpc hmeas
    exfalso
    omega
  | succ n9 ih =>
    intro t J B hJ t0 t1 p0 p1 hpl hpc hmeas
    refine jt_iload_n d_GM_makePieces_66 rfl ?_
    refine jt_bipush d_GM_makePieces_67 (by omega) ?_
    refine jt_icmp_ge (t := 114) d_GM_makePieces_69 rfl (by unfold jRi; omega) (by unfold jRi; omega) (fun c101 => ?_) (fun c101 => ?_)
    · skip
      exact hout t J B hJ t0 t1 p0 p1 hpl hpc (by omega)
    · skip
      refine jt_aload_n d_GM_makePieces_72 rfl ?_
      refine jt_aload_n d_GM_makePieces_73 rfl ?_
      refine jt_iload_n d_GM_makePieces_74 rfl ?_
      refine jt_iconst d_GM_makePieces_75 ?_
      refine jt_iload_n d_GM_makePieces_76 rfl ?_
      refine gct_call (Y := Y_GM_bend) (As := [.int (jI k), .int (jI 0), .int (jI t)]) (rest := [.ref m]) d_GM_makePieces_77 GM_c282 yk_GM_bend yv_GM_bend rfl (Nat.le_of_ble_eq_true rfl) rfl rfl (Nat.le_of_ble_eq_true rfl) (c_GM_bend G _ m k 0 t J B (by omega) (by omega) (by omega) (by omega) (by omega) (by omega)) (fun rvq102 Iq102 Aq102 hq102 => ?_)
      obtain ⟨rfl, hIq102, hAq102⟩ := hq102
      rw [hIq102, hAq102]
      show jt _ 80 [(0, .ref m), (1, .int (jI k)), (2, .int (jI l)), (3, .int (jI t))] [.long (jL ((8 - t) * (8 - t) * (8 - t) * (B 39) (2 * k + 0) + 3 * (8 - t) * (8 - t) * t * (B 39) (2 * k + 2 + 0) + 3 * (8 - t) * t * t * (B 39) (2 * k + 4 + 0) + t * t * t * (B 39) (2 * k + 6 + 0))), .ref m] (gmf m f0 J B) _ _ _
      refine jt_topln (fun v103 bv103 ev103 => ?_)
      have gv103 : v103 = pbd N k 0 t := by
        have h9 := pbd_b (N := N) (k := k) (i := 0) (t := t) hN (by omega) (by omega) (by omega) (by omega) (by omega)
        rw [hJ.2.2.2 39 rfl, hNA (2 * k + 0) (by omega) (by omega), hNA (2 * k + 2 + 0) (by omega) (by omega), hNA (2 * k + 4 + 0) (by omega) (by omega), hNA (2 * k + 6 + 0) (by omega) (by omega)] at ev103
        have h8 : (v103 - pbd N k 0 t) % 18446744073709551616 = 0 := ev103
        omega
      clear ev103
      refine jt_aload_n d_GM_makePieces_80 rfl ?_
      refine jt_iload_n d_GM_makePieces_81 rfl ?_
      refine jt_iconst d_GM_makePieces_82 ?_
      refine jt_iload_n d_GM_makePieces_83 rfl ?_
      refine gct_call (Y := Y_GM_bend) (As := [.int (jI k), .int (jI 1), .int (jI t)]) (rest := [.long (jL v103), .ref m]) d_GM_makePieces_84 GM_c282 yk_GM_bend yv_GM_bend rfl (Nat.le_of_ble_eq_true rfl) rfl rfl (Nat.le_of_ble_eq_true rfl) (c_GM_bend G _ m k 1 t J B (by omega) (by omega) (by omega) (by omega) (by omega) (by omega)) (fun rvq104 Iq104 Aq104 hq104 => ?_)
      obtain ⟨rfl, hIq104, hAq104⟩ := hq104
      rw [hIq104, hAq104]
      show jt _ 87 [(0, .ref m), (1, .int (jI k)), (2, .int (jI l)), (3, .int (jI t))] [.long (jL ((8 - t) * (8 - t) * (8 - t) * (B 39) (2 * k + 1) + 3 * (8 - t) * (8 - t) * t * (B 39) (2 * k + 2 + 1) + 3 * (8 - t) * t * t * (B 39) (2 * k + 4 + 1) + t * t * t * (B 39) (2 * k + 6 + 1))), .long (jL v103), .ref m] (gmf m f0 J B) _ _ _
      refine jt_topln (fun v105 bv105 ev105 => ?_)
      have gv105 : v105 = pbd N k 1 t := by
        have h9 := pbd_b (N := N) (k := k) (i := 1) (t := t) hN (by omega) (by omega) (by omega) (by omega) (by omega)
        rw [hJ.2.2.2 39 rfl, hNA (2 * k + 1) (by omega) (by omega), hNA (2 * k + 2 + 1) (by omega) (by omega), hNA (2 * k + 4 + 1) (by omega) (by omega), hNA (2 * k + 6 + 1) (by omega) (by omega)] at ev105
        have h8 : (v105 - pbd N k 1 t) % 18446744073709551616 = 0 := ev105
        omega
      clear ev105
      refine jt_aload_n d_GM_makePieces_87 rfl ?_
      refine jt_iload_n d_GM_makePieces_88 rfl ?_
      refine jt_iconst d_GM_makePieces_89 ?_
      refine jt_iload_n d_GM_makePieces_90 rfl ?_
      refine jt_iconst d_GM_makePieces_91 ?_
      refine jt_iadd d_GM_makePieces_92 ?_
      refine gct_call (Y := Y_GM_bend) (As := [.int (jI k), .int (jI 0), .int (jI (t + 1))]) (rest := [.long (jL v105), .long (jL v103), .ref m]) d_GM_makePieces_93 GM_c282 yk_GM_bend yv_GM_bend rfl (Nat.le_of_ble_eq_true rfl) rfl rfl (Nat.le_of_ble_eq_true rfl) (c_GM_bend G _ m k 0 (t + 1) J B (by omega) (by omega) (by omega) (by omega) (by omega) (by omega)) (fun rvq106 Iq106 Aq106 hq106 => ?_)
      obtain ⟨rfl, hIq106, hAq106⟩ := hq106
      rw [hIq106, hAq106]
      show jt _ 96 [(0, .ref m), (1, .int (jI k)), (2, .int (jI l)), (3, .int (jI t))] [.long (jL ((8 - (t + 1)) * (8 - (t + 1)) * (8 - (t + 1)) * (B 39) (2 * k + 0) + 3 * (8 - (t + 1)) * (8 - (t + 1)) * (t + 1) * (B 39) (2 * k + 2 + 0) + 3 * (8 - (t + 1)) * (t + 1) * (t + 1) * (B 39) (2 * k + 4 + 0) + (t + 1) * (t + 1) * (t + 1) * (B 39) (2 * k + 6 + 0))), .long (jL v105), .long (jL v103), .ref m] (gmf m f0 J B) _ _ _
      refine jt_topln (fun v107 bv107 ev107 => ?_)
      have gv107 : v107 = pbd N k 0 (t + 1) := by
        have h9 := pbd_b (N := N) (k := k) (i := 0) (t := t + 1) hN (by omega) (by omega) (by omega) (by omega) (by omega)
        rw [hJ.2.2.2 39 rfl, hNA (2 * k + 0) (by omega) (by omega), hNA (2 * k + 2 + 0) (by omega) (by omega), hNA (2 * k + 4 + 0) (by omega) (by omega), hNA (2 * k + 6 + 0) (by omega) (by omega)] at ev107
        have h8 : (v107 - pbd N k 0 (t + 1)) % 18446744073709551616 = 0 := ev107
        omega
      clear ev107
      refine jt_aload_n d_GM_makePieces_96 rfl ?_
      refine jt_iload_n d_GM_makePieces_97 rfl ?_
      refine jt_iconst d_GM_makePieces_98 ?_
      refine jt_iload_n d_GM_makePieces_99 rfl ?_
      refine jt_iconst d_GM_makePieces_100 ?_
      refine jt_iadd d_GM_makePieces_101 ?_
      refine gct_call (Y := Y_GM_bend) (As := [.int (jI k), .int (jI 1), .int (jI (t + 1))]) (rest := [.long (jL v107), .long (jL v105), .long (jL v103), .ref m]) d_GM_makePieces_102 GM_c282 yk_GM_bend yv_GM_bend rfl (Nat.le_of_ble_eq_true rfl) rfl rfl (Nat.le_of_ble_eq_true rfl) (c_GM_bend G _ m k 1 (t + 1) J B (by omega) (by omega) (by omega) (by omega) (by omega) (by omega)) (fun rvq108 Iq108 Aq108 hq108 => ?_)
      obtain ⟨rfl, hIq108, hAq108⟩ := hq108
      rw [hIq108, hAq108]
      show jt _ 105 [(0, .ref m), (1, .int (jI k)), (2, .int (jI l)), (3, .int (jI t))] [.long (jL ((8 - (t + 1)) * (8 - (t + 1)) * (8 - (t + 1)) * (B 39) (2 * k + 1) + 3 * (8 - (t + 1)) * (8 - (t + 1)) * (t + 1) * (B 39) (2 * k + 2 + 1) + 3 * (8 - (t + 1)) * (t + 1) * (t + 1) * (B 39) (2 * k + 4 + 1) + (t + 1) * (t + 1) * (t + 1) * (B 39) (2 * k + 6 + 1))), .long (jL v107), .long (jL v105), .long (jL v103), .ref m] (gmf m f0 J B) _ _ _
      refine jt_topln (fun v109 bv109 ev109 => ?_)
      have gv109 : v109 = pbd N k 1 (t + 1) := by
        have h9 := pbd_b (N := N) (k := k) (i := 1) (t := t + 1) hN (by omega) (by omega) (by omega) (by omega) (by omega)
        rw [hJ.2.2.2 39 rfl, hNA (2 * k + 1) (by omega) (by omega), hNA (2 * k + 2 + 1) (by omega) (by omega), hNA (2 * k + 4 + 1) (by omega) (by omega), hNA (2 * k + 6 + 1) (by omega) (by omega)] at ev109
        have h8 : (v109 - pbd N k 1 (t + 1)) % 18446744073709551616 = 0 := ev109
        omega
      clear ev109
      refine gct_call (Y := Y_GM_piece) (As := [.long (jL v103), .long (jL v105), .long (jL v107), .long (jL v109)]) (rest := []) d_GM_makePieces_105 GM_c278 yk_GM_piece yv_GM_piece rfl (Nat.le_of_ble_eq_true rfl) rfl rfl (Nat.le_of_ble_eq_true rfl) (c_GM_piece G _ m v103 v105 v107 v109 J B (show 0 ≤ J 10 by omega) (show J 10 < 110 by omega)) (fun rvq110 Iq110 Aq110 hq110 => ?_)
      obtain ⟨rfl, hIq110, hAq110⟩ := hq110
      rw [hIq110, hAq110]
      have p111 := gPo.I 10 ((J 10) + 1) hJ rfl (show 0 ≤ (J 10) + 1 ∧ (J 10) + 1 ≤ 110 by omega)
      have p112 := gPo.A 40 (ju (B 40) (J 10) v103) p111 rfl (gju (p111.2.1 40) (show -9223372036854775808 ≤ v103 ∧ v103 ≤ 9223372036854775807 by omega))
      have p113 := gPo.A 41 (ju (B 41) (J 10) v105) p112 rfl (gju (p112.2.1 41) (show -9223372036854775808 ≤ v105 ∧ v105 ≤ 9223372036854775807 by omega))
      have p114 := gPo.A 42 (ju (B 42) (J 10) v107) p113 rfl (gju (p113.2.1 42) (show -9223372036854775808 ≤ v107 ∧ v107 ≤ 9223372036854775807 by omega))
      have p115 := gPo.A 43 (ju (B 43) (J 10) v109) p114 rfl (gju (p114.2.1 43) (show -9223372036854775808 ≤ v109 ∧ v109 ≤ 9223372036854775807 by omega))
      show jt _ 108 [(0, .ref m), (1, .int (jI k)), (2, .int (jI l)), (3, .int (jI t))] [] (gmf m f0 (va_up J 10 ((J 10) + 1)) (va_up (va_up (va_up (va_up B 40 (ju (B 40) (J 10) v103)) 41 (ju (B 41) (J 10) v105)) 42 (ju (B 42) (J 10) v107)) 43 (ju (B 43) (J 10) v109))) _ _ _
      refine jt_iinc (L' := [(0, .ref m), (1, .int (jI k)), (2, .int (jI l)), (3, .int (jI (t + 1)))]) d_GM_makePieces_108 rfl (Nat.le_of_ble_eq_true rfl) rfl ?_
      refine jt_goto (t := 66) d_GM_makePieces_111 rfl ?_
      exact ih (t + 1) (va_up J 10 ((J 10) + 1)) (va_up (va_up (va_up (va_up B 40 (ju (B 40) (J 10) v103)) 41 (ju (B 41) (J 10) v105)) 42 (ju (B 42) (J 10) v107)) 43 (ju (B 43) (J 10) v109)) p115 (by omega) (by omega) (show 0 ≤ (J 10) + 1 by omega) (show (J 10) + 1 ≤ 8 * (l - 1) + (t + 1) by omega) (show (J 10) + 1 = ((Q9 ++ pbs N k (t + 1).toNat).length : Int) by rw [show (t + 1).toNat = t.toNat + 1 by omega, pbs_s, ← List.append_assoc, List.length_append]; show J 10 + 1 = (((Q9 ++ pbs N k t.toNat).length + 1 : Nat) : Int); omega) (by have h9 := gPc_s (a := v103) (b := v105) (c := v107) (d := v109) hpc hpl; rw [show (t + 1).toNat = t.toNat + 1 by omega, pbs_s, ← List.append_assoc, show ((t.toNat : Nat) : Int) = t by omega]; unfold pbp; rw [← gv103, ← gv105, ← gv107, ← gv109]; exact h9) (by omega)
set_option maxRecDepth 100000 in
set_option maxHeartbeats 1000000 in
theorem l9_GM_makePiecesy (G : jG) (d m : Nat)  (I : Nat → Int) (A : Nat → Int → Int) (hI : gSI I) (hA : gSA A) (L : List Int) (hl : I 12 = (L.length : Int) ∧ I 12 ≤ 12) (hcv : ∀ (i : Nat) (x : Int), L[i]? = some x → A 44 ((i : Int) + 1) = x) (N : Int → Int) (hN : pnr N) (hNA : ∀ z, 0 ≤ z → z < 2 * pke L 0 + 2 → A 39 z = N z) (hk74 : 2 * pke L 0 + 2 ≤ 74) (f0 : jF) (sz : Nat)  : ∀ (n9 : Nat) (k : Int) (l : Int) (J : Nat → Int) (B : Nat → Int → Int), gPo [10] [40, 41, 42, 43] I A J B → (1 ≤ l) → (l ≤ (L.length : Int) + 1) → (0 ≤ k) → (k ≤ 3 * (l - 1)) → (0 ≤ J 10) → (J 10 ≤ 8 * (l - 1)) → (k = pke (L.take (l - 1).toNat) 0) → (J 10 = ((ple N (L.take (l - 1).toNat) 0).length : Int)) → (gPc (B 40) (B 41) (B 42) (B 43) (ple N (L.take (l - 1).toNat) 0)) → 14 - l < (n9 : Int) → jt (jm G Y_GM_makePieces (gR (d + 1)) (gQ m f0 sz (fun (rv : Option Value) (I2 : Nat → Int) (A2 : Nat → Int → Int) => rv = none ∧ gPo [10] [40, 41, 42, 43] I A I2 A2 ∧ I2 10 = ((pls N L).length : Int) ∧ gPc (A2 40) (A2 41) (A2 42) (A2 43) (pls N L)))) 9 [(0, .ref m), (1, .int (jI k)), (2, .int (jI l))] [] (gmf m f0 J B) sz 0 0 := by
  have kp0 := (pke_n L 0).2.1
  intro n9
  induction n9 with
  | zero =>
    intro k l J B hJ l0 l1 k0 k1 p0 p1 hk hpl hpc hmeas
    have f12 : J 12 = I 12 := hJ.2.2.1 12 rfl
    exfalso
    omega
  | succ n9 ih =>
    intro k l J B hJ l0 l1 k0 k1 p0 p1 hk hpl hpc hmeas
    have f12 : J 12 = I 12 := hJ.2.2.1 12 rfl
    refine jt_iload_n d_GM_makePieces_9 rfl ?_
    refine jt_aload_n d_GM_makePieces_10 rfl ?_
    refine gm_gI (k := 12) (v := J 12) d_GM_makePieces_11 GM_f46 (by decide) rfl ?_
    have rb201 : 0 ≤ J 12 ∧ J 12 ≤ 300 := hJ.1 12
    refine jt_icmp_gt (t := 123) d_GM_makePieces_14 rfl (by unfold jRi; omega) (by unfold jRi; omega) (fun c202 => ?_) (fun c202 => ?_)
    · skip
      have hfull : L.take (l - 1).toNat = L := List.take_of_length_le (by omega)
      have hkL : k = pke L 0 := by rw [hfull] at hk; exact hk
      have hqL : ple N (L.take (l - 1).toNat) 0 = ple N L 0 := by rw [hfull]
      have hkl : k ≤ pke L 0 := by omega
      refine jt_aload_n d_GM_makePieces_123 rfl ?_
      refine jt_aload_n d_GM_makePieces_124 rfl ?_
      refine jt_iload_n d_GM_makePieces_125 rfl ?_
      refine jt_iconst d_GM_makePieces_126 ?_
      refine gct_call (Y := Y_GM_coordinate) (As := [.int (jI k), .int (jI 0)]) (rest := [.ref m]) d_GM_makePieces_127 GM_c274 yk_GM_coordinate yv_GM_coordinate rfl (Nat.le_of_ble_eq_true rfl) rfl rfl (Nat.le_of_ble_eq_true rfl) (c_GM_coordinate G _ m k 0 J B (by omega) (by omega)) (fun rvq203 Iq203 Aq203 hq203 => ?_)
      obtain ⟨rfl, hIq203, hAq203⟩ := hq203
      rw [hIq203, hAq203]
      show jt _ 130 [(0, .ref m), (1, .int (jI k)), (2, .int (jI l))] [.long (jL ((B 39) (2 * k + 0) * 512)), .ref m] (gmf m f0 J B) _ _ _
      refine jt_topln (fun v204 bv204 ev204 => ?_)
      have gv204 : v204 = pco N k 0 := by
        have h9 := pco_b (N := N) (k := k) (i := 0) hN (by omega) (by omega)
        rw [hJ.2.2.2 39 rfl, hNA (2 * k + 0) (by omega) (by omega)] at ev204
        have h8 : (v204 - pco N k 0) % 18446744073709551616 = 0 := ev204
        omega
      clear ev204
      refine jt_aload_n d_GM_makePieces_130 rfl ?_
      refine jt_iload_n d_GM_makePieces_131 rfl ?_
      refine jt_iconst d_GM_makePieces_132 ?_
      refine gct_call (Y := Y_GM_coordinate) (As := [.int (jI k), .int (jI 1)]) (rest := [.long (jL v204), .ref m]) d_GM_makePieces_133 GM_c274 yk_GM_coordinate yv_GM_coordinate rfl (Nat.le_of_ble_eq_true rfl) rfl rfl (Nat.le_of_ble_eq_true rfl) (c_GM_coordinate G _ m k 1 J B (by omega) (by omega)) (fun rvq205 Iq205 Aq205 hq205 => ?_)
      obtain ⟨rfl, hIq205, hAq205⟩ := hq205
      rw [hIq205, hAq205]
      show jt _ 136 [(0, .ref m), (1, .int (jI k)), (2, .int (jI l))] [.long (jL ((B 39) (2 * k + 1) * 512)), .long (jL v204), .ref m] (gmf m f0 J B) _ _ _
      refine jt_topln (fun v206 bv206 ev206 => ?_)
      have gv206 : v206 = pco N k 1 := by
        have h9 := pco_b (N := N) (k := k) (i := 1) hN (by omega) (by omega)
        rw [hJ.2.2.2 39 rfl, hNA (2 * k + 1) (by omega) (by omega)] at ev206
        have h8 : (v206 - pco N k 1) % 18446744073709551616 = 0 := ev206
        omega
      clear ev206
      refine jt_aload_n d_GM_makePieces_136 rfl ?_
      refine jt_iconst d_GM_makePieces_137 ?_
      refine jt_iconst d_GM_makePieces_138 ?_
      refine gct_call (Y := Y_GM_coordinate) (As := [.int (jI 0), .int (jI 0)]) (rest := [.long (jL v206), .long (jL v204), .ref m]) d_GM_makePieces_139 GM_c274 yk_GM_coordinate yv_GM_coordinate rfl (Nat.le_of_ble_eq_true rfl) rfl rfl (Nat.le_of_ble_eq_true rfl) (c_GM_coordinate G _ m 0 0 J B (by omega) (by omega)) (fun rvq207 Iq207 Aq207 hq207 => ?_)
      obtain ⟨rfl, hIq207, hAq207⟩ := hq207
      rw [hIq207, hAq207]
      show jt _ 142 [(0, .ref m), (1, .int (jI k)), (2, .int (jI l))] [.long (jL ((B 39) (2 * 0 + 0) * 512)), .long (jL v206), .long (jL v204), .ref m] (gmf m f0 J B) _ _ _
      refine jt_topln (fun v208 bv208 ev208 => ?_)
      have gv208 : v208 = pco N 0 0 := by
        have h9 := pco_b (N := N) (k := 0) (i := 0) hN (by omega) (by omega)
        rw [hJ.2.2.2 39 rfl, hNA (2 * 0 + 0) (by omega) (by omega)] at ev208
        have h8 : (v208 - pco N 0 0) % 18446744073709551616 = 0 := ev208
        omega
      clear ev208
      refine jt_aload_n d_GM_makePieces_142 rfl ?_
      refine jt_iconst d_GM_makePieces_143 ?_
      refine jt_iconst d_GM_makePieces_144 ?_
      refine gct_call (Y := Y_GM_coordinate) (As := [.int (jI 0), .int (jI 1)]) (rest := [.long (jL v208), .long (jL v206), .long (jL v204), .ref m]) d_GM_makePieces_145 GM_c274 yk_GM_coordinate yv_GM_coordinate rfl (Nat.le_of_ble_eq_true rfl) rfl rfl (Nat.le_of_ble_eq_true rfl) (c_GM_coordinate G _ m 0 1 J B (by omega) (by omega)) (fun rvq209 Iq209 Aq209 hq209 => ?_)
      obtain ⟨rfl, hIq209, hAq209⟩ := hq209
      rw [hIq209, hAq209]
      show jt _ 148 [(0, .ref m), (1, .int (jI k)), (2, .int (jI l))] [.long (jL ((B 39) (2 * 0 + 1) * 512)), .long (jL v208), .long (jL v206), .long (jL v204), .ref m] (gmf m f0 J B) _ _ _
      refine jt_topln (fun v210 bv210 ev210 => ?_)
      have gv210 : v210 = pco N 0 1 := by
        have h9 := pco_b (N := N) (k := 0) (i := 1) hN (by omega) (by omega)
        rw [hJ.2.2.2 39 rfl, hNA (2 * 0 + 1) (by omega) (by omega)] at ev210
        have h8 : (v210 - pco N 0 1) % 18446744073709551616 = 0 := ev210
        omega
      clear ev210
      refine gct_call (Y := Y_GM_piece) (As := [.long (jL v204), .long (jL v206), .long (jL v208), .long (jL v210)]) (rest := []) d_GM_makePieces_148 GM_c278 yk_GM_piece yv_GM_piece rfl (Nat.le_of_ble_eq_true rfl) rfl rfl (Nat.le_of_ble_eq_true rfl) (c_GM_piece G _ m v204 v206 v208 v210 J B (show 0 ≤ J 10 by omega) (show J 10 < 110 by omega)) (fun rvq211 Iq211 Aq211 hq211 => ?_)
      obtain ⟨rfl, hIq211, hAq211⟩ := hq211
      rw [hIq211, hAq211]
      have p212 := gPo.I 10 ((J 10) + 1) hJ rfl (show 0 ≤ (J 10) + 1 ∧ (J 10) + 1 ≤ 110 by omega)
      have p213 := gPo.A 40 (ju (B 40) (J 10) v204) p212 rfl (gju (p212.2.1 40) (show -9223372036854775808 ≤ v204 ∧ v204 ≤ 9223372036854775807 by omega))
      have p214 := gPo.A 41 (ju (B 41) (J 10) v206) p213 rfl (gju (p213.2.1 41) (show -9223372036854775808 ≤ v206 ∧ v206 ≤ 9223372036854775807 by omega))
      have p215 := gPo.A 42 (ju (B 42) (J 10) v208) p214 rfl (gju (p214.2.1 42) (show -9223372036854775808 ≤ v208 ∧ v208 ≤ 9223372036854775807 by omega))
      have p216 := gPo.A 43 (ju (B 43) (J 10) v210) p215 rfl (gju (p215.2.1 43) (show -9223372036854775808 ≤ v210 ∧ v210 ≤ 9223372036854775807 by omega))
      show jt _ 151 [(0, .ref m), (1, .int (jI k)), (2, .int (jI l))] [] (gmf m f0 (va_up J 10 ((J 10) + 1)) (va_up (va_up (va_up (va_up B 40 (ju (B 40) (J 10) v204)) 41 (ju (B 41) (J 10) v206)) 42 (ju (B 42) (J 10) v208)) 43 (ju (B 43) (J 10) v210))) _ _ _
      exact gm_vret d_GM_makePieces_151 rfl (⟨rfl, p216, by show J 10 + 1 = _; unfold pls; rw [← hkL, ← hqL, List.length_append]; show J 10 + 1 = (((ple N (L.take (l - 1).toNat) 0).length + 1 : Nat) : Int); omega, by unfold pls; rw [← hkL, ← hqL]; have h9 := gPc_s (a := v204) (b := v206) (c := v208) (d := v210) hpc hpl; rw [← gv204, ← gv206, ← gv208, ← gv210]; exact h9⟩)
    · skip
      obtain ⟨b9, hb9⟩ : ∃ b9, L[(l - 1).toNat]? = some b9 := ⟨_, List.getElem?_eq_getElem (by omega)⟩
      have hcv9 := hcv (l - 1).toNat b9 hb9
      rw [show (((l - 1).toNat : Nat) : Int) + 1 = l by omega] at hcv9
      have hkn := pke_t hb9 0
      have hkl := pke_le L ((l - 1).toNat + 1) 0
      rw [hkn, ← hk] at hkl
      have hle := ple_t (N := N) hb9 0
      rw [← hk] at hle hkn
      refine jt_aload_n d_GM_makePieces_17 rfl ?_
      refine gm_gA (k := 44) (a := m + 29) d_GM_makePieces_18 GM_f145 (by decide) (by decide) rfl ?_
      refine jt_iload_n d_GM_makePieces_21 rfl ?_
      refine gm_ld0 (k := 44) (n := 14) (v := (B 44) l) d_GM_makePieces_22 rfl (by decide) (by decide) rfl rfl (by omega) (by omega) (by omega) rfl ?_
      refine jt_topi (fun v217 ev217 => ?_)
      have bv217 : 0 ≤ v217 ∧ v217 ≤ 1 := by rw [ev217]; exact hJ.2.1 44 l
      rw [hJ.2.2.2 44 rfl, hcv9] at ev217
      refine jt_if_ne (t := 64) d_GM_makePieces_23 rfl (by unfold jRi; omega) (fun c218 => ?_) (fun c218 => ?_)
      · skip
        have hb0 : ¬ b9 = 0 := by omega
        have hnx : pnx k b9 = k + 3 := if_neg hb0
        rw [hnx] at hkl hkn
        have hlg : plg N k b9 = pbs N k 8 := if_neg hb0
        rw [hlg] at hle
        refine jt_iconst d_GM_makePieces_64 ?_
        refine jt_istore_n (L' := [(0, .ref m), (1, .int (jI k)), (2, .int (jI l)), (3, .int (jI 0))]) d_GM_makePieces_65 (Nat.le_of_ble_eq_true rfl) rfl ?_
        refine l66_GM_makePiecesy G d m  I A hI hA L hl hcv N hN hNA hk74 f0 sz k l ((by omega)) ((by omega)) ((by omega)) ((by omega)) hkl (ple N (L.take (l - 1).toNat) 0) (fun to219 Jo219 Bo219 hJo219 t0o219 t1o219 p0o219 p1o219 hplo219 hpco219 teo219 => ?_) 9 0 J B hJ (by omega) (by omega) (show 0 ≤ J 10 by omega) (show J 10 ≤ 8 * (l - 1) + (0) by omega) (by show J 10 = _; rw [show (0 : Int).toNat = 0 from rfl, show pbs N k 0 = [] from rfl, List.append_nil]; exact hpl) (by rw [show (0 : Int).toNat = 0 from rfl, show pbs N k 0 = [] from rfl, List.append_nil]; exact hpc) (by omega)
        refine jt_iinc (L' := [(0, .ref m), (1, .int (jI (k + 3))), (2, .int (jI l)), (3, .int (jI to219))]) d_GM_makePieces_114 rfl (Nat.le_of_ble_eq_true rfl) rfl ?_
        refine jt_iinc (L' := [(0, .ref m), (1, .int (jI (k + 3))), (2, .int (jI (l + 1))), (3, .int (jI to219))]) d_GM_makePieces_117 rfl (Nat.le_of_ble_eq_true rfl) rfl ?_
        refine jt_goto (t := 9) d_GM_makePieces_120 rfl ?_
        refine jt_sub (L' := [(0, .ref m), (1, .int (jI (k + 3))), (2, .int (jI (l + 1)))]) (fun _ h => List.mem_append_left [(3, Value.int (jI to219))] h) ?_
        exact ih (k + 3) (l + 1) Jo219 Bo219 hJo219 (by omega) (by omega) (by omega) (by omega) (show 0 ≤ Jo219 10 by omega) (show Jo219 10 ≤ 8 * (l + 1 - 1) by omega) (by rw [show (l + 1 - 1).toNat = (l - 1).toNat + 1 by omega, hkn]) (show Jo219 10 = ((ple N (L.take (l + 1 - 1).toNat) 0).length : Int) by rw [show (l + 1 - 1).toNat = (l - 1).toNat + 1 by omega, hle]; exact (by have h9 := hplo219; rw [show (to219).toNat = 8 by omega] at h9; exact h9)) (by rw [show (l + 1 - 1).toNat = (l - 1).toNat + 1 by omega, hle]; exact (by have h9 := hpco219; rw [show (to219).toNat = 8 by omega] at h9; exact h9)) (by omega)
      · skip
        have hb0 : b9 = 0 := by omega
        have hnx : pnx k b9 = k + 1 := if_pos hb0
        rw [hnx] at hkl hkn
        have hlg : plg N k b9 = [plp N k] := if_pos hb0
        rw [hlg] at hle
        refine jt_aload_n d_GM_makePieces_26 rfl ?_
        refine jt_aload_n d_GM_makePieces_27 rfl ?_
        refine jt_iload_n d_GM_makePieces_28 rfl ?_
        refine jt_iconst d_GM_makePieces_29 ?_
        refine gct_call (Y := Y_GM_coordinate) (As := [.int (jI k), .int (jI 0)]) (rest := [.ref m]) d_GM_makePieces_30 GM_c274 yk_GM_coordinate yv_GM_coordinate rfl (Nat.le_of_ble_eq_true rfl) rfl rfl (Nat.le_of_ble_eq_true rfl) (c_GM_coordinate G _ m k 0 J B (by omega) (by omega)) (fun rvq220 Iq220 Aq220 hq220 => ?_)
        obtain ⟨rfl, hIq220, hAq220⟩ := hq220
        rw [hIq220, hAq220]
        show jt _ 33 [(0, .ref m), (1, .int (jI k)), (2, .int (jI l))] [.long (jL ((B 39) (2 * k + 0) * 512)), .ref m] (gmf m f0 J B) _ _ _
        refine jt_topln (fun v221 bv221 ev221 => ?_)
        have gv221 : v221 = pco N k 0 := by
          have h9 := pco_b (N := N) (k := k) (i := 0) hN (by omega) (by omega)
          rw [hJ.2.2.2 39 rfl, hNA (2 * k + 0) (by omega) (by omega)] at ev221
          have h8 : (v221 - pco N k 0) % 18446744073709551616 = 0 := ev221
          omega
        clear ev221
        refine jt_aload_n d_GM_makePieces_33 rfl ?_
        refine jt_iload_n d_GM_makePieces_34 rfl ?_
        refine jt_iconst d_GM_makePieces_35 ?_
        refine gct_call (Y := Y_GM_coordinate) (As := [.int (jI k), .int (jI 1)]) (rest := [.long (jL v221), .ref m]) d_GM_makePieces_36 GM_c274 yk_GM_coordinate yv_GM_coordinate rfl (Nat.le_of_ble_eq_true rfl) rfl rfl (Nat.le_of_ble_eq_true rfl) (c_GM_coordinate G _ m k 1 J B (by omega) (by omega)) (fun rvq222 Iq222 Aq222 hq222 => ?_)
        obtain ⟨rfl, hIq222, hAq222⟩ := hq222
        rw [hIq222, hAq222]
        show jt _ 39 [(0, .ref m), (1, .int (jI k)), (2, .int (jI l))] [.long (jL ((B 39) (2 * k + 1) * 512)), .long (jL v221), .ref m] (gmf m f0 J B) _ _ _
        refine jt_topln (fun v223 bv223 ev223 => ?_)
        have gv223 : v223 = pco N k 1 := by
          have h9 := pco_b (N := N) (k := k) (i := 1) hN (by omega) (by omega)
          rw [hJ.2.2.2 39 rfl, hNA (2 * k + 1) (by omega) (by omega)] at ev223
          have h8 : (v223 - pco N k 1) % 18446744073709551616 = 0 := ev223
          omega
        clear ev223
        refine jt_aload_n d_GM_makePieces_39 rfl ?_
        refine jt_iload_n d_GM_makePieces_40 rfl ?_
        refine jt_iconst d_GM_makePieces_41 ?_
        refine jt_iadd d_GM_makePieces_42 ?_
        refine jt_iconst d_GM_makePieces_43 ?_
        refine gct_call (Y := Y_GM_coordinate) (As := [.int (jI (k + 1)), .int (jI 0)]) (rest := [.long (jL v223), .long (jL v221), .ref m]) d_GM_makePieces_44 GM_c274 yk_GM_coordinate yv_GM_coordinate rfl (Nat.le_of_ble_eq_true rfl) rfl rfl (Nat.le_of_ble_eq_true rfl) (c_GM_coordinate G _ m (k + 1) 0 J B (by omega) (by omega)) (fun rvq224 Iq224 Aq224 hq224 => ?_)
        obtain ⟨rfl, hIq224, hAq224⟩ := hq224
        rw [hIq224, hAq224]
        show jt _ 47 [(0, .ref m), (1, .int (jI k)), (2, .int (jI l))] [.long (jL ((B 39) (2 * (k + 1) + 0) * 512)), .long (jL v223), .long (jL v221), .ref m] (gmf m f0 J B) _ _ _
        refine jt_topln (fun v225 bv225 ev225 => ?_)
        have gv225 : v225 = pco N (k + 1) 0 := by
          have h9 := pco_b (N := N) (k := k + 1) (i := 0) hN (by omega) (by omega)
          rw [hJ.2.2.2 39 rfl, hNA (2 * (k + 1) + 0) (by omega) (by omega)] at ev225
          have h8 : (v225 - pco N (k + 1) 0) % 18446744073709551616 = 0 := ev225
          omega
        clear ev225
        refine jt_aload_n d_GM_makePieces_47 rfl ?_
        refine jt_iload_n d_GM_makePieces_48 rfl ?_
        refine jt_iconst d_GM_makePieces_49 ?_
        refine jt_iadd d_GM_makePieces_50 ?_
        refine jt_iconst d_GM_makePieces_51 ?_
        refine gct_call (Y := Y_GM_coordinate) (As := [.int (jI (k + 1)), .int (jI 1)]) (rest := [.long (jL v225), .long (jL v223), .long (jL v221), .ref m]) d_GM_makePieces_52 GM_c274 yk_GM_coordinate yv_GM_coordinate rfl (Nat.le_of_ble_eq_true rfl) rfl rfl (Nat.le_of_ble_eq_true rfl) (c_GM_coordinate G _ m (k + 1) 1 J B (by omega) (by omega)) (fun rvq226 Iq226 Aq226 hq226 => ?_)
        obtain ⟨rfl, hIq226, hAq226⟩ := hq226
        rw [hIq226, hAq226]
        show jt _ 55 [(0, .ref m), (1, .int (jI k)), (2, .int (jI l))] [.long (jL ((B 39) (2 * (k + 1) + 1) * 512)), .long (jL v225), .long (jL v223), .long (jL v221), .ref m] (gmf m f0 J B) _ _ _
        refine jt_topln (fun v227 bv227 ev227 => ?_)
        have gv227 : v227 = pco N (k + 1) 1 := by
          have h9 := pco_b (N := N) (k := k + 1) (i := 1) hN (by omega) (by omega)
          rw [hJ.2.2.2 39 rfl, hNA (2 * (k + 1) + 1) (by omega) (by omega)] at ev227
          have h8 : (v227 - pco N (k + 1) 1) % 18446744073709551616 = 0 := ev227
          omega
        clear ev227
        refine gct_call (Y := Y_GM_piece) (As := [.long (jL v221), .long (jL v223), .long (jL v225), .long (jL v227)]) (rest := []) d_GM_makePieces_55 GM_c278 yk_GM_piece yv_GM_piece rfl (Nat.le_of_ble_eq_true rfl) rfl rfl (Nat.le_of_ble_eq_true rfl) (c_GM_piece G _ m v221 v223 v225 v227 J B (show 0 ≤ J 10 by omega) (show J 10 < 110 by omega)) (fun rvq228 Iq228 Aq228 hq228 => ?_)
        obtain ⟨rfl, hIq228, hAq228⟩ := hq228
        rw [hIq228, hAq228]
        have p229 := gPo.I 10 ((J 10) + 1) hJ rfl (show 0 ≤ (J 10) + 1 ∧ (J 10) + 1 ≤ 110 by omega)
        have p230 := gPo.A 40 (ju (B 40) (J 10) v221) p229 rfl (gju (p229.2.1 40) (show -9223372036854775808 ≤ v221 ∧ v221 ≤ 9223372036854775807 by omega))
        have p231 := gPo.A 41 (ju (B 41) (J 10) v223) p230 rfl (gju (p230.2.1 41) (show -9223372036854775808 ≤ v223 ∧ v223 ≤ 9223372036854775807 by omega))
        have p232 := gPo.A 42 (ju (B 42) (J 10) v225) p231 rfl (gju (p231.2.1 42) (show -9223372036854775808 ≤ v225 ∧ v225 ≤ 9223372036854775807 by omega))
        have p233 := gPo.A 43 (ju (B 43) (J 10) v227) p232 rfl (gju (p232.2.1 43) (show -9223372036854775808 ≤ v227 ∧ v227 ≤ 9223372036854775807 by omega))
        show jt _ 58 [(0, .ref m), (1, .int (jI k)), (2, .int (jI l))] [] (gmf m f0 (va_up J 10 ((J 10) + 1)) (va_up (va_up (va_up (va_up B 40 (ju (B 40) (J 10) v221)) 41 (ju (B 41) (J 10) v223)) 42 (ju (B 42) (J 10) v225)) 43 (ju (B 43) (J 10) v227))) _ _ _
        refine jt_iinc (L' := [(0, .ref m), (1, .int (jI (k + 1))), (2, .int (jI l))]) d_GM_makePieces_58 rfl (Nat.le_of_ble_eq_true rfl) rfl ?_
        refine jt_goto (t := 117) d_GM_makePieces_61 rfl ?_
        refine jt_iinc (L' := [(0, .ref m), (1, .int (jI (k + 1))), (2, .int (jI (l + 1)))]) d_GM_makePieces_117 rfl (Nat.le_of_ble_eq_true rfl) rfl ?_
        refine jt_goto (t := 9) d_GM_makePieces_120 rfl ?_
        exact ih (k + 1) (l + 1) (va_up J 10 ((J 10) + 1)) (va_up (va_up (va_up (va_up B 40 (ju (B 40) (J 10) v221)) 41 (ju (B 41) (J 10) v223)) 42 (ju (B 42) (J 10) v225)) 43 (ju (B 43) (J 10) v227)) p233 (by omega) (by omega) (by omega) (by omega) (show 0 ≤ (J 10) + 1 by omega) (show (J 10) + 1 ≤ 8 * (l + 1 - 1) by omega) (by rw [show (l + 1 - 1).toNat = (l - 1).toNat + 1 by omega, hkn]) (show (J 10) + 1 = ((ple N (L.take (l + 1 - 1).toNat) 0).length : Int) by rw [show (l + 1 - 1).toNat = (l - 1).toNat + 1 by omega, hle, List.length_append]; show J 10 + 1 = (((ple N (L.take (l - 1).toNat) 0).length + 1 : Nat) : Int); omega) (by rw [show (l + 1 - 1).toNat = (l - 1).toNat + 1 by omega, hle]; have h9 := gPc_s (a := v221) (b := v223) (c := v225) (d := v227) hpc hpl; unfold plp; rw [← gv221, ← gv223, ← gv225, ← gv227]; exact h9) (by omega)
set_option maxRecDepth 100000 in
set_option maxHeartbeats 1000000 in
theorem y_GM_makePieces (G : jG) (d m : Nat)  (I : Nat → Int) (A : Nat → Int → Int) (hI : gSI I) (hA : gSA A) (L : List Int) (hl : I 12 = (L.length : Int) ∧ I 12 ≤ 12) (hcv : ∀ (i : Nat) (x : Int), L[i]? = some x → A 44 ((i : Int) + 1) = x) (N : Int → Int) (hN : pnr N) (hNA : ∀ z, 0 ≤ z → z < 2 * pke L 0 + 2 → A 39 z = N z) (hk74 : 2 * pke L 0 + 2 ≤ 74) : gct G Y_GM_makePieces (d + 1) m [] I A (fun (rv : Option Value) (I2 : Nat → Int) (A2 : Nat → Int → Int) => rv = none ∧ gPo [10] [40, 41, 42, 43] I A I2 A2 ∧ I2 10 = ((pls N L).length : Int) ∧ gPc (A2 40) (A2 41) (A2 42) (A2 43) (pls N L)) := by
  refine gct_of (by decide) (Nat.le_of_ble_eq_true rfl) (fun f0 sz => ?_)
  show jt _ 0 [(0, .ref m)] [] _ _ _ _
  have kp0 := (pke_n L 0).2.1
  have hz0 : gPo [10] [40, 41, 42, 43] I A I A := gPo.refl hI hA
  refine jt_iconst d_GM_makePieces_0 ?_
  refine jt_istore_n (L' := [(0, .ref m), (1, .int (jI 0))]) d_GM_makePieces_1 (Nat.le_of_ble_eq_true rfl) rfl ?_
  refine jt_aload_n d_GM_makePieces_2 rfl ?_
  refine jt_iconst d_GM_makePieces_3 ?_
  refine gm_pI (k := 10) (v := 0) (J := va_up I 10 0) d_GM_makePieces_4 (GM_w40 _ rfl) (by decide) rfl rfl rfl ?_
  have p1 := gPo.I 10 0 hz0 rfl (show 0 ≤ 0 ∧ 0 ≤ 110 by omega)
  refine jt_iconst d_GM_makePieces_7 ?_
  refine jt_istore_n (L' := [(0, .ref m), (1, .int (jI 0)), (2, .int (jI 1))]) d_GM_makePieces_8 (Nat.le_of_ble_eq_true rfl) rfl ?_
  exact l9_GM_makePiecesy G d m  I A hI hA L hl hcv N hN hNA hk74 f0 sz  15 0 1 (va_up I 10 0) A p1 (by omega) (by omega) (by omega) (by omega) (show 0 ≤ 0 by omega) (show 0 ≤ 8 * (1 - 1) by omega) (by rfl) (by rfl) (gPc_0 _ _ _ _) (by omega)
set_option maxRecDepth 100000 in
set_option maxHeartbeats 1000000 in
theorem l14_GM_painty (G : jG) (d m : Nat) (f : Int) (I : Nat → Int) (A : Nat → Int → Int) (hI : gSI I) (hA : gSA A) (hf : 0 ≤ f ∧ f ≤ 1) (L : List Int) (hl : I 12 = (L.length : Int) ∧ I 12 ≤ 12) (hcv : ∀ (i : Nat) (x : Int), L[i]? = some x → A 44 ((i : Int) + 1) = x) (N : Int → Int) (hN : pnr N) (hNA : ∀ z, 0 ≤ z → z < 2 * pke L 0 + 2 → A 39 z = N z) (hk74 : 2 * pke L 0 + 2 ≤ 74) (f0 : jF) (sz : Nat) (j : Int) (j0 : 0 ≤ j) (j1 : j < 24) (hout : ∀ (i : Int) (J : Nat → Int) (B : Nat → Int → Int), gPo [10] [40, 41, 42, 43, 45] I A J B → (0 ≤ i) → (i ≤ 32) → (J 10 = ((pls N L).length : Int)) → (gPc (B 40) (B 41) (B 42) (B 43) (pls N L)) → (ptq f (pls N L) (A 45) (B 45) (j * 32 + i)) → (32 ≤ i) → jt (jm G Y_GM_paint (gR (d + 2)) (gQ m f0 sz (fun (rv : Option Value) (I2 : Nat → Int) (A2 : Nat → Int → Int) => rv = none ∧ gPo [10] [40, 41, 42, 43, 45] I A I2 A2 ∧ ptd f (pls N L) (A 45) (A2 45)))) 65 [(0, .ref m), (1, .int (jI f)), (2, .int (jI j)), (3, .int (jI i))] [] (gmf m f0 J B) sz 0 0) : ∀ (n9 : Nat) (i : Int) (J : Nat → Int) (B : Nat → Int → Int), gPo [10] [40, 41, 42, 43, 45] I A J B → (0 ≤ i) → (i ≤ 32) → (J 10 = ((pls N L).length : Int)) → (gPc (B 40) (B 41) (B 42) (B 43) (pls N L)) → (ptq f (pls N L) (A 45) (B 45) (j * 32 + i)) → 32 - i < (n9 : Int) → jt (jm G Y_GM_paint (gR (d + 2)) (gQ m f0 sz (fun (rv : Option Value) (I2 : Nat → Int) (A2 : Nat → Int → Int) => rv = none ∧ gPo [10] [40, 41, 42, 43, 45] I A I2 A2 ∧ ptd f (pls N L) (A 45) (A2 45)))) 14 [(0, .ref m), (1, .int (jI f)), (2, .int (jI j)), (3, .int (jI i))] [] (gmf m f0 J B) sz 0 0 := by
  have kp0 := (pke_n L 0).2.1
  intro n9
  induction n9 with
  | zero =>
    intro i J B hJ i0 i1 hpl hpc hq hmeas
    exfalso
    omega
  | succ n9 ih =>
    intro i J B hJ i0 i1 hpl hpc hq hmeas
    refine jt_iload_n d_GM_paint_14 rfl ?_
    refine jt_bipush d_GM_paint_15 (by omega) ?_
    refine jt_icmp_ge (t := 65) d_GM_paint_17 rfl (by unfold jRi; omega) (by unfold jRi; omega) (fun c101 => ?_) (fun c101 => ?_)
    · skip
      exact hout i J B hJ i0 i1 hpl hpc hq (by omega)
    · skip
      refine jt_aload_n d_GM_paint_20 rfl ?_
      refine jt_iload_n d_GM_paint_21 rfl ?_
      refine jt_i2l d_GM_paint_22 (by unfold jRi; omega) ?_
      refine jt_ldc2 (z := 8192) d_GM_paint_23 GM_k289 ?_
      refine jt_lmul d_GM_paint_26 ?_
      refine jt_topln (fun v102 bv102 ev102 => ?_)
      refine jt_ldc2 (z := 4096) d_GM_paint_27 GM_k211 ?_
      refine jt_ladd d_GM_paint_30 ?_
      refine jt_topln (fun v103 bv103 ev103 => ?_)
      refine jt_iload_n d_GM_paint_31 rfl ?_
      refine jt_i2l d_GM_paint_32 (by unfold jRi; omega) ?_
      refine jt_ldc2 (z := 8192) d_GM_paint_33 GM_k289 ?_
      refine jt_lmul d_GM_paint_36 ?_
      refine jt_topln (fun v104 bv104 ev104 => ?_)
      refine jt_ldc2 (z := 4096) d_GM_paint_37 GM_k211 ?_
      refine jt_ladd d_GM_paint_40 ?_
      refine jt_topln (fun v105 bv105 ev105 => ?_)
      refine gct_call (Y := Y_GM_winding) (As := [.long (jL v103), .long (jL v105)]) (rest := []) d_GM_paint_41 GM_c291 yk_GM_winding yv_GM_winding rfl (Nat.le_of_ble_eq_true rfl) rfl rfl (Nat.le_of_ble_eq_true rfl) (y_GM_winding G _ m v103 v105 J B hJ.1 hJ.2.1 (by omega) (by omega) (pls N L) hpc hpl (pls_in hN L (by omega))) (fun rvq106 Iq106 Aq106 hq106 => ?_)
      obtain ⟨yq106, rfl, ryq106, hqq106, hxq106⟩ := hq106
      have hpq106 := gPo.trans hJ hqq106 rfl rfl
      have f1q106 : Iq106 1 = I 1 := hpq106.2.2.1 1 rfl
      show jt _ 44 [(0, .ref m), (1, .int (jI f)), (2, .int (jI j)), (3, .int (jI i))] [.int (jI yq106)] (gmf m f0 Iq106 Aq106) _ _ _
      refine jt_if_eq (t := 59) d_GM_paint_44 rfl (by unfold jRi; omega) (fun c107 => ?_) (fun c107 => ?_)
      · skip
        refine jt_iinc (L' := [(0, .ref m), (1, .int (jI f)), (2, .int (jI j)), (3, .int (jI (i + 1)))]) d_GM_paint_59 rfl (Nat.le_of_ble_eq_true rfl) rfl ?_
        refine jt_goto (t := 14) d_GM_paint_62 rfl ?_
        exact ih (i + 1) Iq106 Aq106 hpq106 (by omega) (by omega) (show Iq106 10 = _ by rw [hqq106.2.2.1 10 rfl]; exact hpl) (show gPc (Aq106 40) (Aq106 41) (Aq106 42) (Aq106 43) (pls N L) by rw [hqq106.2.2.2 40 rfl, hqq106.2.2.2 41 rfl, hqq106.2.2.2 42 rfl, hqq106.2.2.2 43 rfl]; exact hpc) (by have e1 : v103 = pmd i := (by unfold pmd; omega); have e2 : v105 = pmd j := (by unfold pmd; omega); have h9 := hxq106; rw [e1, e2] at h9; have h8 := ptq_n hq i0 (by omega) (show pwn (pmd i) (pmd j) (pls N L) = 0 by omega); rw [← (hqq106.2.2.2 45 rfl)] at h8; exact h8) (by omega)
      · skip
        refine jt_aload_n d_GM_paint_47 rfl ?_
        refine gm_gA (k := 45) (a := m + 30) d_GM_paint_48 GM_f148 (by decide) (by decide) rfl ?_
        refine jt_iload_n d_GM_paint_51 rfl ?_
        refine jt_bipush d_GM_paint_52 (by omega) ?_
        refine jt_imul d_GM_paint_54 ?_
        refine jt_iload_n d_GM_paint_55 rfl ?_
        refine jt_iadd d_GM_paint_56 ?_
        refine jt_iload_n d_GM_paint_57 rfl ?_
        refine gm_st2 (k := 45) (n := 768) (B := va_up Aq106 45 (ju (Aq106 45) ((j * 32) + i) f)) d_GM_paint_58 rfl (by decide) (by decide) rfl rfl (by omega) (by omega) (by omega) (by omega) rfl ?_
        have p108 := gPo.A 45 (ju (Aq106 45) ((j * 32) + i) f) hpq106 rfl (gju (hpq106.2.1 45) (show 0 ≤ f ∧ f ≤ 1 by omega))
        refine jt_iinc (L' := [(0, .ref m), (1, .int (jI f)), (2, .int (jI j)), (3, .int (jI (i + 1)))]) d_GM_paint_59 rfl (Nat.le_of_ble_eq_true rfl) rfl ?_
        refine jt_goto (t := 14) d_GM_paint_62 rfl ?_
        exact ih (i + 1) Iq106 (va_up Aq106 45 (ju (Aq106 45) ((j * 32) + i) f)) p108 (by omega) (by omega) (show Iq106 10 = _ by rw [hqq106.2.2.1 10 rfl]; exact hpl) (show gPc (Aq106 40) (Aq106 41) (Aq106 42) (Aq106 43) (pls N L) by rw [hqq106.2.2.2 40 rfl, hqq106.2.2.2 41 rfl, hqq106.2.2.2 42 rfl, hqq106.2.2.2 43 rfl]; exact hpc) (by have e1 : v103 = pmd i := (by unfold pmd; omega); have e2 : v105 = pmd j := (by unfold pmd; omega); have h9 := hxq106; rw [e1, e2] at h9; have h8 := ptq_y hq i0 (by omega) (show pwn (pmd i) (pmd j) (pls N L) ≠ 0 by omega); rw [← (hqq106.2.2.2 45 rfl)] at h8; exact h8) (by omega)
set_option maxRecDepth 100000 in
set_option maxHeartbeats 1000000 in
theorem l6_GM_painty (G : jG) (d m : Nat) (f : Int) (I : Nat → Int) (A : Nat → Int → Int) (hI : gSI I) (hA : gSA A) (hf : 0 ≤ f ∧ f ≤ 1) (L : List Int) (hl : I 12 = (L.length : Int) ∧ I 12 ≤ 12) (hcv : ∀ (i : Nat) (x : Int), L[i]? = some x → A 44 ((i : Int) + 1) = x) (N : Int → Int) (hN : pnr N) (hNA : ∀ z, 0 ≤ z → z < 2 * pke L 0 + 2 → A 39 z = N z) (hk74 : 2 * pke L 0 + 2 ≤ 74) (f0 : jF) (sz : Nat)  : ∀ (n9 : Nat) (j : Int) (J : Nat → Int) (B : Nat → Int → Int), gPo [10] [40, 41, 42, 43, 45] I A J B → (0 ≤ j) → (j ≤ 24) → (J 10 = ((pls N L).length : Int)) → (gPc (B 40) (B 41) (B 42) (B 43) (pls N L)) → (ptq f (pls N L) (A 45) (B 45) (j * 32)) → 24 - j < (n9 : Int) → jt (jm G Y_GM_paint (gR (d + 2)) (gQ m f0 sz (fun (rv : Option Value) (I2 : Nat → Int) (A2 : Nat → Int → Int) => rv = none ∧ gPo [10] [40, 41, 42, 43, 45] I A I2 A2 ∧ ptd f (pls N L) (A 45) (A2 45)))) 6 [(0, .ref m), (1, .int (jI f)), (2, .int (jI j))] [] (gmf m f0 J B) sz 0 0 := by
  have kp0 := (pke_n L 0).2.1
  intro n9
  induction n9 with
  | zero =>
    intro j J B hJ j0 j1 hpl hpc hq hmeas
    exfalso
    omega
  | succ n9 ih =>
    intro j J B hJ j0 j1 hpl hpc hq hmeas
    refine jt_iload_n d_GM_paint_6 rfl ?_
    refine jt_bipush d_GM_paint_7 (by omega) ?_
    refine jt_icmp_ge (t := 71) d_GM_paint_9 rfl (by unfold jRi; omega) (by unfold jRi; omega) (fun c201 => ?_) (fun c201 => ?_)
    · skip
      exact gm_vret d_GM_paint_71 rfl (⟨rfl, hJ, ptq_e (by have h9 := hq; rw [show j * 32 = 768 by omega] at h9; exact h9)⟩)
    · skip
      refine jt_iconst d_GM_paint_12 ?_
      refine jt_istore_n (L' := [(0, .ref m), (1, .int (jI f)), (2, .int (jI j)), (3, .int (jI 0))]) d_GM_paint_13 (Nat.le_of_ble_eq_true rfl) rfl ?_
      refine l14_GM_painty G d m f I A hI hA hf L hl hcv N hN hNA hk74 f0 sz j ((by omega)) ((by omega)) (fun io202 Jo202 Bo202 hJo202 i0o202 i1o202 hplo202 hpco202 hqo202 ieo202 => ?_) 33 0 J B hJ (by omega) (by omega) hpl hpc (by rw [Int.add_zero]; exact hq) (by omega)
      refine jt_iinc (L' := [(0, .ref m), (1, .int (jI f)), (2, .int (jI (j + 1))), (3, .int (jI io202))]) d_GM_paint_65 rfl (Nat.le_of_ble_eq_true rfl) rfl ?_
      refine jt_goto (t := 6) d_GM_paint_68 rfl ?_
      refine jt_sub (L' := [(0, .ref m), (1, .int (jI f)), (2, .int (jI (j + 1)))]) (fun _ h => List.mem_append_left [(3, Value.int (jI io202))] h) ?_
      exact ih (j + 1) Jo202 Bo202 hJo202 (by omega) (by omega) hplo202 hpco202 (by have h9 := hqo202; rw [show j * 32 + io202 = (j + 1) * 32 by omega] at h9; exact h9) (by omega)
set_option maxRecDepth 100000 in
set_option maxHeartbeats 1000000 in
theorem y_GM_paint (G : jG) (d m : Nat) (f : Int) (I : Nat → Int) (A : Nat → Int → Int) (hI : gSI I) (hA : gSA A) (hf : 0 ≤ f ∧ f ≤ 1) (L : List Int) (hl : I 12 = (L.length : Int) ∧ I 12 ≤ 12) (hcv : ∀ (i : Nat) (x : Int), L[i]? = some x → A 44 ((i : Int) + 1) = x) (N : Int → Int) (hN : pnr N) (hNA : ∀ z, 0 ≤ z → z < 2 * pke L 0 + 2 → A 39 z = N z) (hk74 : 2 * pke L 0 + 2 ≤ 74) : gct G Y_GM_paint (d + 2) m [.int (jI f)] I A (fun (rv : Option Value) (I2 : Nat → Int) (A2 : Nat → Int → Int) => rv = none ∧ gPo [10] [40, 41, 42, 43, 45] I A I2 A2 ∧ ptd f (pls N L) (A 45) (A2 45)) := by
  refine gct_of (by decide) (Nat.le_of_ble_eq_true rfl) (fun f0 sz => ?_)
  show jt _ 0 [(0, .ref m), (1, .int (jI f))] [] _ _ _ _
  have kp0 := (pke_n L 0).2.1
  have hz0 : gPo [10] [40, 41, 42, 43, 45] I A I A := gPo.refl hI hA
  refine jt_aload_n d_GM_paint_0 rfl ?_
  refine gct_call (Y := Y_GM_makePieces) (As := []) (rest := []) d_GM_paint_1 GM_c286 yk_GM_makePieces yv_GM_makePieces rfl (Nat.le_of_ble_eq_true rfl) rfl rfl (Nat.le_of_ble_eq_true rfl) (y_GM_makePieces G _ m I A hz0.1 hz0.2.1 L hl hcv N hN hNA hk74) (fun rvq1 Iq1 Aq1 hq1 => ?_)
  obtain ⟨rfl, hqq1, hxq1⟩ := hq1
  have hpq1 := gPo.trans hz0 hqq1 rfl rfl
  have f1q1 : Iq1 1 = I 1 := hpq1.2.2.1 1 rfl
  show jt _ 4 [(0, .ref m), (1, .int (jI f))] [] (gmf m f0 Iq1 Aq1) _ _ _
  refine jt_iconst d_GM_paint_4 ?_
  refine jt_istore_n (L' := [(0, .ref m), (1, .int (jI f)), (2, .int (jI 0))]) d_GM_paint_5 (Nat.le_of_ble_eq_true rfl) rfl ?_
  exact l6_GM_painty G d m f I A hI hA hf L hl hcv N hN hNA hk74 f0 sz  25 0 Iq1 Aq1 hpq1 (by omega) (by omega) hxq1.1 hxq1.2 (by rw [show (0 : Int) * 32 = 0 by omega, hqq1.2.2.2 45 rfl]; exact ptq_0 _ _ _) (by omega)

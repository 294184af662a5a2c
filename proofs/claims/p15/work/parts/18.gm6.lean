/-- where an argument ends that begins at q; where the arguments of a call at k begin; whether the call has its shape -/
def gEnd (I : Nat → Int) (A : Nat → Int → Int) : Nat → Int → Int → Int
  | 0, q, _ => q
  | n + 1, q, o => if q < I 1 ∧ (0 < o ∨ (¬ gW I A q 5 ∧ ¬ gW I A q 4)) then gEnd I A n (q + 1) ((if gW I A q 3 then o + 1 else o) - (if gW I A q 4 then 1 else 0)) else q
def gAe (I : Nat → Int) (A : Nat → Int → Int) (q : Int) : Int := gEnd I A (I 1 - q).toNat q 0
def gAq (I : Nat → Int) (A : Nat → Int → Int) (k : Int) : Nat → Int
  | 0 => k + 2
  | i + 1 => gAe I A (gAq I A k i) + 1
def gAo (I : Nat → Int) (A : Nat → Int → Int) (k n i : Int) : Prop := gAe I A (gAq I A k i.toNat) < I 1 ∧ gW I A (gAe I A (gAq I A k i.toNat)) (if i < n - 1 then 5 else 4)
def gAok (I : Nat → Int) (A : Nat → Int → Int) (k n : Int) : Prop := gW I A (k + 1) 3 ∧ ∀ i, 0 ≤ i → i < n → gAo I A k n i
theorem gEnd_stop (I : Nat → Int) (A : Nat → Int → Int) (n : Nat) (q o : Int) (h : ¬ (q < I 1 ∧ (0 < o ∨ (¬ gW I A q 5 ∧ ¬ gW I A q 4)))) : gEnd I A n q o = q := by
  cases n with
  | zero => rfl
  | succ n => unfold gEnd; rw [if_neg h]
theorem gEnd_go (I : Nat → Int) (A : Nat → Int → Int) (q o o2 : Int) (h : q < I 1 ∧ (0 < o ∨ (¬ gW I A q 5 ∧ ¬ gW I A q 4))) (ho : (if gW I A q 3 then o + 1 else o) - (if gW I A q 4 then 1 else 0) = o2) : gEnd I A (I 1 - q).toNat q o = gEnd I A (I 1 - (q + 1)).toNat (q + 1) o2 := by
  rw [show (I 1 - q).toNat = (I 1 - (q + 1)).toNat + 1 by omega]
  conv => lhs; unfold gEnd
  rw [if_pos h, ho]
theorem gEnd_le (I : Nat → Int) (A : Nat → Int → Int) : ∀ (n : Nat) (q o : Int), q ≤ gEnd I A n q o ∧ (gEnd I A n q o ≤ q ∨ gEnd I A n q o ≤ I 1)
  | 0, q, o => ⟨Int.le_refl _, Or.inl (Int.le_refl _)⟩
  | n + 1, q, o => by
    unfold gEnd
    by_cases h : q < I 1 ∧ (0 < o ∨ (¬ gW I A q 5 ∧ ¬ gW I A q 4))
    · rw [if_pos h]
      have := gEnd_le I A n (q + 1) ((if gW I A q 3 then o + 1 else o) - (if gW I A q 4 then 1 else 0))
      omega
    · rw [if_neg h]
      omega
theorem gAe_le (I : Nat → Int) (A : Nat → Int → Int) (q : Int) : q ≤ gAe I A q ∧ (gAe I A q ≤ q ∨ gAe I A q ≤ I 1) := gEnd_le I A _ q 0
theorem gW_oc {I : Nat → Int} {A : Nat → Int → Int} {q : Int} (h : gW I A q 3) : ¬ gW I A q 4 := fun h2 => by omega
theorem gAq_s (I : Nat → Int) (A : Nat → Int → Int) (k i : Int) (h : 0 ≤ i) : gAq I A k (i + 1).toNat = gAe I A (gAq I A k i.toNat) + 1 := by
  rw [show (i + 1).toNat = i.toNat + 1 by omega]
  rfl
set_option maxRecDepth 100000 in
set_option maxHeartbeats 4000000 in
theorem l37_GM_arguments (G : jG) (d m : Nat) (k : Int) (n : Int) (I : Nat → Int) (A : Nat → Int → Int)  (hR : gRw I A) (k0 : 0 ≤ k) (k1 : k < I 1) (n0 : 1 ≤ n) (n1 : n ≤ 3) (f0 : jF) (sz : Nat) (i e : Int) (X Y : Int → Int) (i0 : 0 ≤ i) (i1 : i < n) (hout : e < I 1 → gW I A e (if i < n - 1 then 5 else 4) → jt (jm G Y_GM_arguments (gR (d + 1)) (gQ m f0 sz (fun (rv : Option Value) (I2 : Nat → Int) (A2 : Nat → Int → Int) => I2 = I ∧ ∃ X Y : Int → Int, A2 = va_up (va_up A 28 X) 29 Y ∧ (gAok I A k n → rv = some (.int (jI (gAq I A k n.toNat))) ∧ ∀ j, 0 ≤ j → j < n → X j = gAq I A k j.toNat ∧ Y j = gAe I A (gAq I A k j.toNat)) ∧ (¬ gAok I A k n → rv = some (.int (jI (-1))))))) 20 [(0, .ref m), (1, .int (jI k)), (2, .int (jI n)), (3, .int (jI (e + 1))), (4, .int (jI (i + 1)))] [] (gmf m f0 I (va_up (va_up A 28 X) 29 (ju Y i e))) sz 0 0) (hbad : ¬ (e < I 1 ∧ gW I A e (if i < n - 1 then 5 else 4)) → (fun (rv : Option Value) (I2 : Nat → Int) (A2 : Nat → Int → Int) => I2 = I ∧ ∃ X Y : Int → Int, A2 = va_up (va_up A 28 X) 29 Y ∧ (gAok I A k n → rv = some (.int (jI (gAq I A k n.toNat))) ∧ ∀ j, 0 ≤ j → j < n → X j = gAq I A k j.toNat ∧ Y j = gAe I A (gAq I A k j.toNat)) ∧ (¬ gAok I A k n → rv = some (.int (jI (-1))))) (some (Value.int (jI (-1)))) I (va_up (va_up A 28 X) 29 Y)) : ∀ (n9 : Nat) (q : Int) (o : Int), (0 ≤ o) → (o ≤ q) → (0 ≤ q) → (q ≤ 1000) → (gEnd I A (I 1 - q).toNat q o = e) → 1000 - q < (n9 : Int) → jt (jm G Y_GM_arguments (gR (d + 1)) (gQ m f0 sz (fun (rv : Option Value) (I2 : Nat → Int) (A2 : Nat → Int → Int) => I2 = I ∧ ∃ X Y : Int → Int, A2 = va_up (va_up A 28 X) 29 Y ∧ (gAok I A k n → rv = some (.int (jI (gAq I A k n.toNat))) ∧ ∀ j, 0 ≤ j → j < n → X j = gAq I A k j.toNat ∧ Y j = gAe I A (gAq I A k j.toNat)) ∧ (¬ gAok I A k n → rv = some (.int (jI (-1))))))) 37 [(0, .ref m), (1, .int (jI k)), (2, .int (jI n)), (3, .int (jI q)), (4, .int (jI i)), (5, .int (jI o))] [] (gmf m f0 I (va_up (va_up A 28 X) 29 Y)) sz 0 0 := by
  obtain ⟨r0, r1, rt⟩ := id hR
  intro n9
  induction n9 with
  | zero =>
    intro q o o0 o1 q0 q1 he hmeas
    exfalso
    omega
  | succ n9 ih =>
    intro q o o0 o1 q0 q1 he hmeas
    refine jt_iload_n d_GM_arguments_37 rfl ?_
    refine jt_aload_n d_GM_arguments_38 rfl ?_
    refine gm_gI (k := 1) (v := I 1) d_GM_arguments_39 GM_f13 (by decide) rfl ?_
    refine jt_icmp_ge (t := 98) d_GM_arguments_42 rfl (by unfold jRi; omega) (by unfold jRi; omega) (fun c101 => ?_) (fun c101 => ?_)
    · skip
      have hqe : q = e := by rw [← he]; exact (gEnd_stop I A _ q o (by omega)).symm
      subst hqe
      refine jt_iload_n d_GM_arguments_98 rfl ?_
      refine jt_aload_n d_GM_arguments_99 rfl ?_
      refine gm_gI (k := 1) (v := I 1) d_GM_arguments_100 GM_f13 (by decide) rfl ?_
      refine jt_icmp_ge (t := 127) d_GM_arguments_103 rfl (by unfold jRi; omega) (by unfold jRi; omega) (fun c102 => ?_) (fun c102 => ?_)
      · skip
        refine jt_iconst d_GM_arguments_127 ?_
        exact gm_ret d_GM_arguments_128 rfl rfl (hbad (fun h => by first | (have := h.1; omega) | (have h2 := h.2; rw [if_pos (by omega)] at h2; exact absurd h2 (by assumption)) | (have h2 := h.2; rw [if_neg (by omega)] at h2; exact absurd h2 (by assumption))))
      · skip
        refine jt_aload_n d_GM_arguments_106 rfl ?_
        refine jt_iload_n d_GM_arguments_107 rfl ?_
        refine jt_iload d_GM_arguments_108 rfl ?_
        refine jt_iload_n d_GM_arguments_110 rfl ?_
        refine jt_iconst d_GM_arguments_111 ?_
        refine jt_isub d_GM_arguments_112 ?_
        refine jt_icmp_ge (t := 120) d_GM_arguments_113 rfl (by unfold jRi; omega) (by unfold jRi; omega) (fun c103 => ?_) (fun c103 => ?_)
        · skip
          refine jt_iconst d_GM_arguments_120 ?_
          refine gct_call (Y := Y_GM_isWord) (As := [.int (jI q), .int (jI 4)]) (rest := []) d_GM_arguments_121 GM_c156 yk_GM_isWord yv_GM_isWord rfl (Nat.le_of_ble_eq_true rfl) rfl rfl (Nat.le_of_ble_eq_true rfl) (c_GM_isWord G _ m q 4 I (va_up (va_up A 28 X) 29 Y) (by omega) (by unfold jRi; omega) (by unfold jRi; omega) (by unfold jRi; omega) (fun z => by have q5 := rt q (by omega) z; unfold gtok at q5; show q < 700 ∧ jRi (A 22 q) ∧ jRi (A 23 q); unfold jRi; omega)) (fun rvq104 Iq104 Aq104 hq104 => ?_)
          obtain ⟨haq104, hbq104, hIq104, hAq104⟩ := hq104
          rw [hIq104, hAq104]
          by_cases gq104 : gW I A q 4
          · skip
            obtain rfl := haq104 gq104
            show jt _ 124 [(0, .ref m), (1, .int (jI k)), (2, .int (jI n)), (3, .int (jI q)), (4, .int (jI i)), (5, .int (jI o))] [.int (jI 1)] (gmf m f0 I (va_up (va_up A 28 X) 29 Y)) _ _ _
            refine jt_if_ne (t := 129) d_GM_arguments_124 rfl (by unfold jRi; omega) (fun c105 => ?_) (fun c105 => ?_)
            · skip
              refine jt_aload_n d_GM_arguments_129 rfl ?_
              refine gm_gA (k := 29) (a := m + 14) d_GM_arguments_130 GM_f99 (by decide) (by decide) rfl ?_
              refine jt_iload d_GM_arguments_133 rfl ?_
              refine jt_iload_n d_GM_arguments_135 rfl ?_
              refine gm_st0 (k := 29) (n := 3) (B := va_up (va_up A 28 X) 29 (ju Y i q)) d_GM_arguments_136 rfl (by decide) (by decide) rfl rfl (by omega) (by omega) (by omega) (bx_uu _ _ _ _) ?_
              refine jt_iinc (L' := [(0, .ref m), (1, .int (jI k)), (2, .int (jI n)), (3, .int (jI (q + 1))), (4, .int (jI i)), (5, .int (jI o))]) d_GM_arguments_137 rfl (Nat.le_of_ble_eq_true rfl) rfl ?_
              refine jt_iinc (L' := [(0, .ref m), (1, .int (jI k)), (2, .int (jI n)), (3, .int (jI (q + 1))), (4, .int (jI (i + 1))), (5, .int (jI o))]) d_GM_arguments_140 rfl (Nat.le_of_ble_eq_true rfl) rfl ?_
              refine jt_goto (t := 20) d_GM_arguments_143 rfl ?_
              refine jt_sub (L' := [(0, .ref m), (1, .int (jI k)), (2, .int (jI n)), (3, .int (jI (q + 1))), (4, .int (jI (i + 1)))]) (fun _ h => List.mem_append_left [(5, Value.int (jI o))] h) ?_
              exact hout (by omega) (by first | (rw [if_pos (by omega)]; assumption) | (rw [if_neg (by omega)]; assumption))
            · skip
              exfalso
              omega
          · skip
            obtain rfl := hbq104 gq104
            show jt _ 124 [(0, .ref m), (1, .int (jI k)), (2, .int (jI n)), (3, .int (jI q)), (4, .int (jI i)), (5, .int (jI o))] [.int (jI 0)] (gmf m f0 I (va_up (va_up A 28 X) 29 Y)) _ _ _
            refine jt_if_ne (t := 129) d_GM_arguments_124 rfl (by unfold jRi; omega) (fun c106 => ?_) (fun c106 => ?_)
            · skip
              exfalso
              omega
            · skip
              refine jt_iconst d_GM_arguments_127 ?_
              exact gm_ret d_GM_arguments_128 rfl rfl (hbad (fun h => by first | (have := h.1; omega) | (have h2 := h.2; rw [if_pos (by omega)] at h2; exact absurd h2 (by assumption)) | (have h2 := h.2; rw [if_neg (by omega)] at h2; exact absurd h2 (by assumption))))
        · skip
          refine jt_iconst d_GM_arguments_116 ?_
          refine jt_goto (t := 121) d_GM_arguments_117 rfl ?_
          refine gct_call (Y := Y_GM_isWord) (As := [.int (jI q), .int (jI 5)]) (rest := []) d_GM_arguments_121 GM_c156 yk_GM_isWord yv_GM_isWord rfl (Nat.le_of_ble_eq_true rfl) rfl rfl (Nat.le_of_ble_eq_true rfl) (c_GM_isWord G _ m q 5 I (va_up (va_up A 28 X) 29 Y) (by omega) (by unfold jRi; omega) (by unfold jRi; omega) (by unfold jRi; omega) (fun z => by have q5 := rt q (by omega) z; unfold gtok at q5; show q < 700 ∧ jRi (A 22 q) ∧ jRi (A 23 q); unfold jRi; omega)) (fun rvq107 Iq107 Aq107 hq107 => ?_)
          obtain ⟨haq107, hbq107, hIq107, hAq107⟩ := hq107
          rw [hIq107, hAq107]
          by_cases gq107 : gW I A q 5
          · skip
            obtain rfl := haq107 gq107
            show jt _ 124 [(0, .ref m), (1, .int (jI k)), (2, .int (jI n)), (3, .int (jI q)), (4, .int (jI i)), (5, .int (jI o))] [.int (jI 1)] (gmf m f0 I (va_up (va_up A 28 X) 29 Y)) _ _ _
            refine jt_if_ne (t := 129) d_GM_arguments_124 rfl (by unfold jRi; omega) (fun c108 => ?_) (fun c108 => ?_)
            · skip
              refine jt_aload_n d_GM_arguments_129 rfl ?_
              refine gm_gA (k := 29) (a := m + 14) d_GM_arguments_130 GM_f99 (by decide) (by decide) rfl ?_
              refine jt_iload d_GM_arguments_133 rfl ?_
              refine jt_iload_n d_GM_arguments_135 rfl ?_
              refine gm_st0 (k := 29) (n := 3) (B := va_up (va_up A 28 X) 29 (ju Y i q)) d_GM_arguments_136 rfl (by decide) (by decide) rfl rfl (by omega) (by omega) (by omega) (bx_uu _ _ _ _) ?_
              refine jt_iinc (L' := [(0, .ref m), (1, .int (jI k)), (2, .int (jI n)), (3, .int (jI (q + 1))), (4, .int (jI i)), (5, .int (jI o))]) d_GM_arguments_137 rfl (Nat.le_of_ble_eq_true rfl) rfl ?_
              refine jt_iinc (L' := [(0, .ref m), (1, .int (jI k)), (2, .int (jI n)), (3, .int (jI (q + 1))), (4, .int (jI (i + 1))), (5, .int (jI o))]) d_GM_arguments_140 rfl (Nat.le_of_ble_eq_true rfl) rfl ?_
              refine jt_goto (t := 20) d_GM_arguments_143 rfl ?_
              refine jt_sub (L' := [(0, .ref m), (1, .int (jI k)), (2, .int (jI n)), (3, .int (jI (q + 1))), (4, .int (jI (i + 1)))]) (fun _ h => List.mem_append_left [(5, Value.int (jI o))] h) ?_
              exact hout (by omega) (by first | (rw [if_pos (by omega)]; assumption) | (rw [if_neg (by omega)]; assumption))
            · skip
              exfalso
              omega
          · skip
            obtain rfl := hbq107 gq107
            show jt _ 124 [(0, .ref m), (1, .int (jI k)), (2, .int (jI n)), (3, .int (jI q)), (4, .int (jI i)), (5, .int (jI o))] [.int (jI 0)] (gmf m f0 I (va_up (va_up A 28 X) 29 Y)) _ _ _
            refine jt_if_ne (t := 129) d_GM_arguments_124 rfl (by unfold jRi; omega) (fun c109 => ?_) (fun c109 => ?_)
            · skip
              exfalso
              omega
            · skip
              refine jt_iconst d_GM_arguments_127 ?_
              exact gm_ret d_GM_arguments_128 rfl rfl (hbad (fun h => by first | (have := h.1; omega) | (have h2 := h.2; rw [if_pos (by omega)] at h2; exact absurd h2 (by assumption)) | (have h2 := h.2; rw [if_neg (by omega)] at h2; exact absurd h2 (by assumption))))
    · skip
      refine jt_iload d_GM_arguments_45 rfl ?_
      refine jt_if_gt (t := 68) d_GM_arguments_47 rfl (by unfold jRi; omega) (fun c110 => ?_) (fun c110 => ?_)
      · skip
        refine jt_aload_n d_GM_arguments_68 rfl ?_
        refine jt_iload_n d_GM_arguments_69 rfl ?_
        refine jt_iconst d_GM_arguments_70 ?_
        refine gct_call (Y := Y_GM_isWord) (As := [.int (jI q), .int (jI 3)]) (rest := []) d_GM_arguments_71 GM_c156 yk_GM_isWord yv_GM_isWord rfl (Nat.le_of_ble_eq_true rfl) rfl rfl (Nat.le_of_ble_eq_true rfl) (c_GM_isWord G _ m q 3 I (va_up (va_up A 28 X) 29 Y) (by omega) (by unfold jRi; omega) (by unfold jRi; omega) (by unfold jRi; omega) (fun z => by have q5 := rt q (by omega) z; unfold gtok at q5; show q < 700 ∧ jRi (A 22 q) ∧ jRi (A 23 q); unfold jRi; omega)) (fun rvq111 Iq111 Aq111 hq111 => ?_)
        obtain ⟨haq111, hbq111, hIq111, hAq111⟩ := hq111
        rw [hIq111, hAq111]
        by_cases gq111 : gW I A q 3
        · skip
          obtain rfl := haq111 gq111
          show jt _ 74 [(0, .ref m), (1, .int (jI k)), (2, .int (jI n)), (3, .int (jI q)), (4, .int (jI i)), (5, .int (jI o))] [.int (jI 1)] (gmf m f0 I (va_up (va_up A 28 X) 29 Y)) _ _ _
          refine jt_if_eq (t := 80) d_GM_arguments_74 rfl (by unfold jRi; omega) (fun c112 => ?_) (fun c112 => ?_)
          · skip
            exfalso
            omega
          · skip
            refine jt_iinc (L' := [(0, .ref m), (1, .int (jI k)), (2, .int (jI n)), (3, .int (jI q)), (4, .int (jI i)), (5, .int (jI (o + 1)))]) d_GM_arguments_77 rfl (Nat.le_of_ble_eq_true rfl) rfl ?_
            refine jt_aload_n d_GM_arguments_80 rfl ?_
            refine jt_iload_n d_GM_arguments_81 rfl ?_
            refine jt_iconst d_GM_arguments_82 ?_
            refine gct_call (Y := Y_GM_isWord) (As := [.int (jI q), .int (jI 4)]) (rest := []) d_GM_arguments_83 GM_c156 yk_GM_isWord yv_GM_isWord rfl (Nat.le_of_ble_eq_true rfl) rfl rfl (Nat.le_of_ble_eq_true rfl) (c_GM_isWord G _ m q 4 I (va_up (va_up A 28 X) 29 Y) (by omega) (by unfold jRi; omega) (by unfold jRi; omega) (by unfold jRi; omega) (fun z => by have q5 := rt q (by omega) z; unfold gtok at q5; show q < 700 ∧ jRi (A 22 q) ∧ jRi (A 23 q); unfold jRi; omega)) (fun rvq113 Iq113 Aq113 hq113 => ?_)
            obtain ⟨haq113, hbq113, hIq113, hAq113⟩ := hq113
            rw [hIq113, hAq113]
            by_cases gq113 : gW I A q 4
            · skip
              obtain rfl := haq113 gq113
              show jt _ 86 [(0, .ref m), (1, .int (jI k)), (2, .int (jI n)), (3, .int (jI q)), (4, .int (jI i)), (5, .int (jI (o + 1)))] [.int (jI 1)] (gmf m f0 I (va_up (va_up A 28 X) 29 Y)) _ _ _
              refine jt_if_eq (t := 92) d_GM_arguments_86 rfl (by unfold jRi; omega) (fun c114 => ?_) (fun c114 => ?_)
              · skip
                exfalso
                omega
              · skip
                refine jt_iinc (L' := [(0, .ref m), (1, .int (jI k)), (2, .int (jI n)), (3, .int (jI q)), (4, .int (jI i)), (5, .int (jI ((o + 1) + (-1))))]) d_GM_arguments_89 rfl (Nat.le_of_ble_eq_true rfl) rfl ?_
                refine jt_iinc (L' := [(0, .ref m), (1, .int (jI k)), (2, .int (jI n)), (3, .int (jI (q + 1))), (4, .int (jI i)), (5, .int (jI ((o + 1) + (-1))))]) d_GM_arguments_92 rfl (Nat.le_of_ble_eq_true rfl) rfl ?_
                refine jt_goto (t := 37) d_GM_arguments_95 rfl ?_
                refine ih _ _ (by omega) (by omega) (by omega) (by omega) ?_ (by omega)
                rw [← he]
                refine (gEnd_go I A q o _ ⟨by omega, ?_⟩ ?_).symm
                · first | exact Or.inl (by omega) | exact Or.inr ⟨by assumption, by assumption⟩
                · first | (rw [if_pos (by assumption), if_pos (by assumption)]; omega) | (rw [if_pos (by assumption), if_neg (by assumption)]; omega) | (rw [if_neg (by assumption), if_pos (by assumption)]; omega) | (rw [if_neg (by assumption), if_neg (by assumption)]; omega)
            · skip
              obtain rfl := hbq113 gq113
              show jt _ 86 [(0, .ref m), (1, .int (jI k)), (2, .int (jI n)), (3, .int (jI q)), (4, .int (jI i)), (5, .int (jI (o + 1)))] [.int (jI 0)] (gmf m f0 I (va_up (va_up A 28 X) 29 Y)) _ _ _
              refine jt_if_eq (t := 92) d_GM_arguments_86 rfl (by unfold jRi; omega) (fun c115 => ?_) (fun c115 => ?_)
              · skip
                refine jt_iinc (L' := [(0, .ref m), (1, .int (jI k)), (2, .int (jI n)), (3, .int (jI (q + 1))), (4, .int (jI i)), (5, .int (jI (o + 1)))]) d_GM_arguments_92 rfl (Nat.le_of_ble_eq_true rfl) rfl ?_
                refine jt_goto (t := 37) d_GM_arguments_95 rfl ?_
                refine ih _ _ (by omega) (by omega) (by omega) (by omega) ?_ (by omega)
                rw [← he]
                refine (gEnd_go I A q o _ ⟨by omega, ?_⟩ ?_).symm
                · first | exact Or.inl (by omega) | exact Or.inr ⟨by assumption, by assumption⟩
                · first | (rw [if_pos (by assumption), if_pos (by assumption)]; omega) | (rw [if_pos (by assumption), if_neg (by assumption)]; omega) | (rw [if_neg (by assumption), if_pos (by assumption)]; omega) | (rw [if_neg (by assumption), if_neg (by assumption)]; omega)
              · skip
                exfalso
                omega
        · skip
          obtain rfl := hbq111 gq111
          show jt _ 74 [(0, .ref m), (1, .int (jI k)), (2, .int (jI n)), (3, .int (jI q)), (4, .int (jI i)), (5, .int (jI o))] [.int (jI 0)] (gmf m f0 I (va_up (va_up A 28 X) 29 Y)) _ _ _
          refine jt_if_eq (t := 80) d_GM_arguments_74 rfl (by unfold jRi; omega) (fun c116 => ?_) (fun c116 => ?_)
          · skip
            refine jt_aload_n d_GM_arguments_80 rfl ?_
            refine jt_iload_n d_GM_arguments_81 rfl ?_
            refine jt_iconst d_GM_arguments_82 ?_
            refine gct_call (Y := Y_GM_isWord) (As := [.int (jI q), .int (jI 4)]) (rest := []) d_GM_arguments_83 GM_c156 yk_GM_isWord yv_GM_isWord rfl (Nat.le_of_ble_eq_true rfl) rfl rfl (Nat.le_of_ble_eq_true rfl) (c_GM_isWord G _ m q 4 I (va_up (va_up A 28 X) 29 Y) (by omega) (by unfold jRi; omega) (by unfold jRi; omega) (by unfold jRi; omega) (fun z => by have q5 := rt q (by omega) z; unfold gtok at q5; show q < 700 ∧ jRi (A 22 q) ∧ jRi (A 23 q); unfold jRi; omega)) (fun rvq117 Iq117 Aq117 hq117 => ?_)
            obtain ⟨haq117, hbq117, hIq117, hAq117⟩ := hq117
            rw [hIq117, hAq117]
            by_cases gq117 : gW I A q 4
            · skip
              obtain rfl := haq117 gq117
              show jt _ 86 [(0, .ref m), (1, .int (jI k)), (2, .int (jI n)), (3, .int (jI q)), (4, .int (jI i)), (5, .int (jI o))] [.int (jI 1)] (gmf m f0 I (va_up (va_up A 28 X) 29 Y)) _ _ _
              refine jt_if_eq (t := 92) d_GM_arguments_86 rfl (by unfold jRi; omega) (fun c118 => ?_) (fun c118 => ?_)
              · skip
                exfalso
                omega
              · skip
                refine jt_iinc (L' := [(0, .ref m), (1, .int (jI k)), (2, .int (jI n)), (3, .int (jI q)), (4, .int (jI i)), (5, .int (jI (o + (-1))))]) d_GM_arguments_89 rfl (Nat.le_of_ble_eq_true rfl) rfl ?_
                refine jt_iinc (L' := [(0, .ref m), (1, .int (jI k)), (2, .int (jI n)), (3, .int (jI (q + 1))), (4, .int (jI i)), (5, .int (jI (o + (-1))))]) d_GM_arguments_92 rfl (Nat.le_of_ble_eq_true rfl) rfl ?_
                refine jt_goto (t := 37) d_GM_arguments_95 rfl ?_
                refine ih _ _ (by omega) (by omega) (by omega) (by omega) ?_ (by omega)
                rw [← he]
                refine (gEnd_go I A q o _ ⟨by omega, ?_⟩ ?_).symm
                · first | exact Or.inl (by omega) | exact Or.inr ⟨by assumption, by assumption⟩
                · first | (rw [if_pos (by assumption), if_pos (by assumption)]; omega) | (rw [if_pos (by assumption), if_neg (by assumption)]; omega) | (rw [if_neg (by assumption), if_pos (by assumption)]; omega) | (rw [if_neg (by assumption), if_neg (by assumption)]; omega)
            · skip
              obtain rfl := hbq117 gq117
              show jt _ 86 [(0, .ref m), (1, .int (jI k)), (2, .int (jI n)), (3, .int (jI q)), (4, .int (jI i)), (5, .int (jI o))] [.int (jI 0)] (gmf m f0 I (va_up (va_up A 28 X) 29 Y)) _ _ _
              refine jt_if_eq (t := 92) d_GM_arguments_86 rfl (by unfold jRi; omega) (fun c119 => ?_) (fun c119 => ?_)
              · skip
                refine jt_iinc (L' := [(0, .ref m), (1, .int (jI k)), (2, .int (jI n)), (3, .int (jI (q + 1))), (4, .int (jI i)), (5, .int (jI o))]) d_GM_arguments_92 rfl (Nat.le_of_ble_eq_true rfl) rfl ?_
                refine jt_goto (t := 37) d_GM_arguments_95 rfl ?_
                refine ih _ _ (by omega) (by omega) (by omega) (by omega) ?_ (by omega)
                rw [← he]
                refine (gEnd_go I A q o _ ⟨by omega, ?_⟩ ?_).symm
                · first | exact Or.inl (by omega) | exact Or.inr ⟨by assumption, by assumption⟩
                · first | (rw [if_pos (by assumption), if_pos (by assumption)]; omega) | (rw [if_pos (by assumption), if_neg (by assumption)]; omega) | (rw [if_neg (by assumption), if_pos (by assumption)]; omega) | (rw [if_neg (by assumption), if_neg (by assumption)]; omega)
              · skip
                exfalso
                omega
          · skip
            exfalso
            omega
      · skip
        refine jt_aload_n d_GM_arguments_50 rfl ?_
        refine jt_iload_n d_GM_arguments_51 rfl ?_
        refine jt_iconst d_GM_arguments_52 ?_
        refine gct_call (Y := Y_GM_isWord) (As := [.int (jI q), .int (jI 5)]) (rest := []) d_GM_arguments_53 GM_c156 yk_GM_isWord yv_GM_isWord rfl (Nat.le_of_ble_eq_true rfl) rfl rfl (Nat.le_of_ble_eq_true rfl) (c_GM_isWord G _ m q 5 I (va_up (va_up A 28 X) 29 Y) (by omega) (by unfold jRi; omega) (by unfold jRi; omega) (by unfold jRi; omega) (fun z => by have q5 := rt q (by omega) z; unfold gtok at q5; show q < 700 ∧ jRi (A 22 q) ∧ jRi (A 23 q); unfold jRi; omega)) (fun rvq120 Iq120 Aq120 hq120 => ?_)
        obtain ⟨haq120, hbq120, hIq120, hAq120⟩ := hq120
        rw [hIq120, hAq120]
        by_cases gq120 : gW I A q 5
        · skip
          obtain rfl := haq120 gq120
          show jt _ 56 [(0, .ref m), (1, .int (jI k)), (2, .int (jI n)), (3, .int (jI q)), (4, .int (jI i)), (5, .int (jI o))] [.int (jI 1)] (gmf m f0 I (va_up (va_up A 28 X) 29 Y)) _ _ _
          refine jt_if_ne (t := 98) d_GM_arguments_56 rfl (by unfold jRi; omega) (fun c121 => ?_) (fun c121 => ?_)
          · skip
            have hqe : q = e := by rw [← he]; exact (gEnd_stop I A _ q o (by omega)).symm
            subst hqe
            refine jt_iload_n d_GM_arguments_98 rfl ?_
            refine jt_aload_n d_GM_arguments_99 rfl ?_
            refine gm_gI (k := 1) (v := I 1) d_GM_arguments_100 GM_f13 (by decide) rfl ?_
            refine jt_icmp_ge (t := 127) d_GM_arguments_103 rfl (by unfold jRi; omega) (by unfold jRi; omega) (fun c122 => ?_) (fun c122 => ?_)
            · skip
              refine jt_iconst d_GM_arguments_127 ?_
              exact gm_ret d_GM_arguments_128 rfl rfl (hbad (fun h => by first | (have := h.1; omega) | (have h2 := h.2; rw [if_pos (by omega)] at h2; exact absurd h2 (by assumption)) | (have h2 := h.2; rw [if_neg (by omega)] at h2; exact absurd h2 (by assumption))))
            · skip
              refine jt_aload_n d_GM_arguments_106 rfl ?_
              refine jt_iload_n d_GM_arguments_107 rfl ?_
              refine jt_iload d_GM_arguments_108 rfl ?_
              refine jt_iload_n d_GM_arguments_110 rfl ?_
              refine jt_iconst d_GM_arguments_111 ?_
              refine jt_isub d_GM_arguments_112 ?_
              refine jt_icmp_ge (t := 120) d_GM_arguments_113 rfl (by unfold jRi; omega) (by unfold jRi; omega) (fun c123 => ?_) (fun c123 => ?_)
              · skip
                refine jt_iconst d_GM_arguments_120 ?_
                refine gct_call (Y := Y_GM_isWord) (As := [.int (jI q), .int (jI 4)]) (rest := []) d_GM_arguments_121 GM_c156 yk_GM_isWord yv_GM_isWord rfl (Nat.le_of_ble_eq_true rfl) rfl rfl (Nat.le_of_ble_eq_true rfl) (c_GM_isWord G _ m q 4 I (va_up (va_up A 28 X) 29 Y) (by omega) (by unfold jRi; omega) (by unfold jRi; omega) (by unfold jRi; omega) (fun z => by have q5 := rt q (by omega) z; unfold gtok at q5; show q < 700 ∧ jRi (A 22 q) ∧ jRi (A 23 q); unfold jRi; omega)) (fun rvq124 Iq124 Aq124 hq124 => ?_)
                obtain ⟨haq124, hbq124, hIq124, hAq124⟩ := hq124
                rw [hIq124, hAq124]
                by_cases gq124 : gW I A q 4
                · skip
                  obtain rfl := haq124 gq124
                  show jt _ 124 [(0, .ref m), (1, .int (jI k)), (2, .int (jI n)), (3, .int (jI q)), (4, .int (jI i)), (5, .int (jI o))] [.int (jI 1)] (gmf m f0 I (va_up (va_up A 28 X) 29 Y)) _ _ _
                  refine jt_if_ne (t := 129) d_GM_arguments_124 rfl (by unfold jRi; omega) (fun c125 => ?_) (fun c125 => ?_)
                  · skip
                    refine jt_aload_n d_GM_arguments_129 rfl ?_
                    refine gm_gA (k := 29) (a := m + 14) d_GM_arguments_130 GM_f99 (by decide) (by decide) rfl ?_
                    refine jt_iload d_GM_arguments_133 rfl ?_
                    refine jt_iload_n d_GM_arguments_135 rfl ?_
                    refine gm_st0 (k := 29) (n := 3) (B := va_up (va_up A 28 X) 29 (ju Y i q)) d_GM_arguments_136 rfl (by decide) (by decide) rfl rfl (by omega) (by omega) (by omega) (bx_uu _ _ _ _) ?_
                    refine jt_iinc (L' := [(0, .ref m), (1, .int (jI k)), (2, .int (jI n)), (3, .int (jI (q + 1))), (4, .int (jI i)), (5, .int (jI o))]) d_GM_arguments_137 rfl (Nat.le_of_ble_eq_true rfl) rfl ?_
                    refine jt_iinc (L' := [(0, .ref m), (1, .int (jI k)), (2, .int (jI n)), (3, .int (jI (q + 1))), (4, .int (jI (i + 1))), (5, .int (jI o))]) d_GM_arguments_140 rfl (Nat.le_of_ble_eq_true rfl) rfl ?_
                    refine jt_goto (t := 20) d_GM_arguments_143 rfl ?_
                    refine jt_sub (L' := [(0, .ref m), (1, .int (jI k)), (2, .int (jI n)), (3, .int (jI (q + 1))), (4, .int (jI (i + 1)))]) (fun _ h => List.mem_append_left [(5, Value.int (jI o))] h) ?_
                    exact hout (by omega) (by first | (rw [if_pos (by omega)]; assumption) | (rw [if_neg (by omega)]; assumption))
                  · skip
                    exfalso
                    omega
                · skip
                  obtain rfl := hbq124 gq124
                  show jt _ 124 [(0, .ref m), (1, .int (jI k)), (2, .int (jI n)), (3, .int (jI q)), (4, .int (jI i)), (5, .int (jI o))] [.int (jI 0)] (gmf m f0 I (va_up (va_up A 28 X) 29 Y)) _ _ _
                  refine jt_if_ne (t := 129) d_GM_arguments_124 rfl (by unfold jRi; omega) (fun c126 => ?_) (fun c126 => ?_)
                  · skip
                    exfalso
                    omega
                  · skip
                    refine jt_iconst d_GM_arguments_127 ?_
                    exact gm_ret d_GM_arguments_128 rfl rfl (hbad (fun h => by first | (have := h.1; omega) | (have h2 := h.2; rw [if_pos (by omega)] at h2; exact absurd h2 (by assumption)) | (have h2 := h.2; rw [if_neg (by omega)] at h2; exact absurd h2 (by assumption))))
              · skip
                refine jt_iconst d_GM_arguments_116 ?_
                refine jt_goto (t := 121) d_GM_arguments_117 rfl ?_
                refine gct_call (Y := Y_GM_isWord) (As := [.int (jI q), .int (jI 5)]) (rest := []) d_GM_arguments_121 GM_c156 yk_GM_isWord yv_GM_isWord rfl (Nat.le_of_ble_eq_true rfl) rfl rfl (Nat.le_of_ble_eq_true rfl) (c_GM_isWord G _ m q 5 I (va_up (va_up A 28 X) 29 Y) (by omega) (by unfold jRi; omega) (by unfold jRi; omega) (by unfold jRi; omega) (fun z => by have q5 := rt q (by omega) z; unfold gtok at q5; show q < 700 ∧ jRi (A 22 q) ∧ jRi (A 23 q); unfold jRi; omega)) (fun rvq127 Iq127 Aq127 hq127 => ?_)
                obtain ⟨haq127, hbq127, hIq127, hAq127⟩ := hq127
                rw [hIq127, hAq127]
                by_cases gq127 : gW I A q 5
                · skip
                  obtain rfl := haq127 gq127
                  show jt _ 124 [(0, .ref m), (1, .int (jI k)), (2, .int (jI n)), (3, .int (jI q)), (4, .int (jI i)), (5, .int (jI o))] [.int (jI 1)] (gmf m f0 I (va_up (va_up A 28 X) 29 Y)) _ _ _
                  refine jt_if_ne (t := 129) d_GM_arguments_124 rfl (by unfold jRi; omega) (fun c128 => ?_) (fun c128 => ?_)
                  · skip
                    refine jt_aload_n d_GM_arguments_129 rfl ?_
                    refine gm_gA (k := 29) (a := m + 14) d_GM_arguments_130 GM_f99 (by decide) (by decide) rfl ?_
                    refine jt_iload d_GM_arguments_133 rfl ?_
                    refine jt_iload_n d_GM_arguments_135 rfl ?_
                    refine gm_st0 (k := 29) (n := 3) (B := va_up (va_up A 28 X) 29 (ju Y i q)) d_GM_arguments_136 rfl (by decide) (by decide) rfl rfl (by omega) (by omega) (by omega) (bx_uu _ _ _ _) ?_
                    refine jt_iinc (L' := [(0, .ref m), (1, .int (jI k)), (2, .int (jI n)), (3, .int (jI (q + 1))), (4, .int (jI i)), (5, .int (jI o))]) d_GM_arguments_137 rfl (Nat.le_of_ble_eq_true rfl) rfl ?_
                    refine jt_iinc (L' := [(0, .ref m), (1, .int (jI k)), (2, .int (jI n)), (3, .int (jI (q + 1))), (4, .int (jI (i + 1))), (5, .int (jI o))]) d_GM_arguments_140 rfl (Nat.le_of_ble_eq_true rfl) rfl ?_
                    refine jt_goto (t := 20) d_GM_arguments_143 rfl ?_
                    refine jt_sub (L' := [(0, .ref m), (1, .int (jI k)), (2, .int (jI n)), (3, .int (jI (q + 1))), (4, .int (jI (i + 1)))]) (fun _ h => List.mem_append_left [(5, Value.int (jI o))] h) ?_
                    exact hout (by omega) (by first | (rw [if_pos (by omega)]; assumption) | (rw [if_neg (by omega)]; assumption))
                  · skip
                    exfalso
                    omega
                · skip
                  obtain rfl := hbq127 gq127
                  show jt _ 124 [(0, .ref m), (1, .int (jI k)), (2, .int (jI n)), (3, .int (jI q)), (4, .int (jI i)), (5, .int (jI o))] [.int (jI 0)] (gmf m f0 I (va_up (va_up A 28 X) 29 Y)) _ _ _
                  refine jt_if_ne (t := 129) d_GM_arguments_124 rfl (by unfold jRi; omega) (fun c129 => ?_) (fun c129 => ?_)
                  · skip
                    exfalso
                    omega
                  · skip
                    refine jt_iconst d_GM_arguments_127 ?_
                    exact gm_ret d_GM_arguments_128 rfl rfl (hbad (fun h => by first | (have := h.1; omega) | (have h2 := h.2; rw [if_pos (by omega)] at h2; exact absurd h2 (by assumption)) | (have h2 := h.2; rw [if_neg (by omega)] at h2; exact absurd h2 (by assumption))))
          · skip
            exfalso
            omega
        · skip
          obtain rfl := hbq120 gq120
          show jt _ 56 [(0, .ref m), (1, .int (jI k)), (2, .int (jI n)), (3, .int (jI q)), (4, .int (jI i)), (5, .int (jI o))] [.int (jI 0)] (gmf m f0 I (va_up (va_up A 28 X) 29 Y)) _ _ _
          refine jt_if_ne (t := 98) d_GM_arguments_56 rfl (by unfold jRi; omega) (fun c130 => ?_) (fun c130 => ?_)
          · skip
            exfalso
            omega
          · skip
            refine jt_aload_n d_GM_arguments_59 rfl ?_
            refine jt_iload_n d_GM_arguments_60 rfl ?_
            refine jt_iconst d_GM_arguments_61 ?_
            refine gct_call (Y := Y_GM_isWord) (As := [.int (jI q), .int (jI 4)]) (rest := []) d_GM_arguments_62 GM_c156 yk_GM_isWord yv_GM_isWord rfl (Nat.le_of_ble_eq_true rfl) rfl rfl (Nat.le_of_ble_eq_true rfl) (c_GM_isWord G _ m q 4 I (va_up (va_up A 28 X) 29 Y) (by omega) (by unfold jRi; omega) (by unfold jRi; omega) (by unfold jRi; omega) (fun z => by have q5 := rt q (by omega) z; unfold gtok at q5; show q < 700 ∧ jRi (A 22 q) ∧ jRi (A 23 q); unfold jRi; omega)) (fun rvq131 Iq131 Aq131 hq131 => ?_)
            obtain ⟨haq131, hbq131, hIq131, hAq131⟩ := hq131
            rw [hIq131, hAq131]
            by_cases gq131 : gW I A q 4
            · skip
              obtain rfl := haq131 gq131
              show jt _ 65 [(0, .ref m), (1, .int (jI k)), (2, .int (jI n)), (3, .int (jI q)), (4, .int (jI i)), (5, .int (jI o))] [.int (jI 1)] (gmf m f0 I (va_up (va_up A 28 X) 29 Y)) _ _ _
              refine jt_if_ne (t := 98) d_GM_arguments_65 rfl (by unfold jRi; omega) (fun c132 => ?_) (fun c132 => ?_)
              · skip
                have hqe : q = e := by rw [← he]; exact (gEnd_stop I A _ q o (by omega)).symm
                subst hqe
                refine jt_iload_n d_GM_arguments_98 rfl ?_
                refine jt_aload_n d_GM_arguments_99 rfl ?_
                refine gm_gI (k := 1) (v := I 1) d_GM_arguments_100 GM_f13 (by decide) rfl ?_
                refine jt_icmp_ge (t := 127) d_GM_arguments_103 rfl (by unfold jRi; omega) (by unfold jRi; omega) (fun c133 => ?_) (fun c133 => ?_)
                · skip
                  refine jt_iconst d_GM_arguments_127 ?_
                  exact gm_ret d_GM_arguments_128 rfl rfl (hbad (fun h => by first | (have := h.1; omega) | (have h2 := h.2; rw [if_pos (by omega)] at h2; exact absurd h2 (by assumption)) | (have h2 := h.2; rw [if_neg (by omega)] at h2; exact absurd h2 (by assumption))))
                · skip
                  refine jt_aload_n d_GM_arguments_106 rfl ?_
                  refine jt_iload_n d_GM_arguments_107 rfl ?_
                  refine jt_iload d_GM_arguments_108 rfl ?_
                  refine jt_iload_n d_GM_arguments_110 rfl ?_
                  refine jt_iconst d_GM_arguments_111 ?_
                  refine jt_isub d_GM_arguments_112 ?_
                  refine jt_icmp_ge (t := 120) d_GM_arguments_113 rfl (by unfold jRi; omega) (by unfold jRi; omega) (fun c134 => ?_) (fun c134 => ?_)
                  · skip
                    refine jt_iconst d_GM_arguments_120 ?_
                    refine gct_call (Y := Y_GM_isWord) (As := [.int (jI q), .int (jI 4)]) (rest := []) d_GM_arguments_121 GM_c156 yk_GM_isWord yv_GM_isWord rfl (Nat.le_of_ble_eq_true rfl) rfl rfl (Nat.le_of_ble_eq_true rfl) (c_GM_isWord G _ m q 4 I (va_up (va_up A 28 X) 29 Y) (by omega) (by unfold jRi; omega) (by unfold jRi; omega) (by unfold jRi; omega) (fun z => by have q5 := rt q (by omega) z; unfold gtok at q5; show q < 700 ∧ jRi (A 22 q) ∧ jRi (A 23 q); unfold jRi; omega)) (fun rvq135 Iq135 Aq135 hq135 => ?_)
                    obtain ⟨haq135, hbq135, hIq135, hAq135⟩ := hq135
                    rw [hIq135, hAq135]
                    by_cases gq135 : gW I A q 4
                    · skip
                      obtain rfl := haq135 gq135
                      show jt _ 124 [(0, .ref m), (1, .int (jI k)), (2, .int (jI n)), (3, .int (jI q)), (4, .int (jI i)), (5, .int (jI o))] [.int (jI 1)] (gmf m f0 I (va_up (va_up A 28 X) 29 Y)) _ _ _
                      refine jt_if_ne (t := 129) d_GM_arguments_124 rfl (by unfold jRi; omega) (fun c136 => ?_) (fun c136 => ?_)
                      · skip
                        refine jt_aload_n d_GM_arguments_129 rfl ?_
                        refine gm_gA (k := 29) (a := m + 14) d_GM_arguments_130 GM_f99 (by decide) (by decide) rfl ?_
                        refine jt_iload d_GM_arguments_133 rfl ?_
                        refine jt_iload_n d_GM_arguments_135 rfl ?_
                        refine gm_st0 (k := 29) (n := 3) (B := va_up (va_up A 28 X) 29 (ju Y i q)) d_GM_arguments_136 rfl (by decide) (by decide) rfl rfl (by omega) (by omega) (by omega) (bx_uu _ _ _ _) ?_
                        refine jt_iinc (L' := [(0, .ref m), (1, .int (jI k)), (2, .int (jI n)), (3, .int (jI (q + 1))), (4, .int (jI i)), (5, .int (jI o))]) d_GM_arguments_137 rfl (Nat.le_of_ble_eq_true rfl) rfl ?_
                        refine jt_iinc (L' := [(0, .ref m), (1, .int (jI k)), (2, .int (jI n)), (3, .int (jI (q + 1))), (4, .int (jI (i + 1))), (5, .int (jI o))]) d_GM_arguments_140 rfl (Nat.le_of_ble_eq_true rfl) rfl ?_
                        refine jt_goto (t := 20) d_GM_arguments_143 rfl ?_
                        refine jt_sub (L' := [(0, .ref m), (1, .int (jI k)), (2, .int (jI n)), (3, .int (jI (q + 1))), (4, .int (jI (i + 1)))]) (fun _ h => List.mem_append_left [(5, Value.int (jI o))] h) ?_
                        exact hout (by omega) (by first | (rw [if_pos (by omega)]; assumption) | (rw [if_neg (by omega)]; assumption))
                      · skip
                        exfalso
                        omega
                    · skip
                      obtain rfl := hbq135 gq135
                      show jt _ 124 [(0, .ref m), (1, .int (jI k)), (2, .int (jI n)), (3, .int (jI q)), (4, .int (jI i)), (5, .int (jI o))] [.int (jI 0)] (gmf m f0 I (va_up (va_up A 28 X) 29 Y)) _ _ _
                      refine jt_if_ne (t := 129) d_GM_arguments_124 rfl (by unfold jRi; omega) (fun c137 => ?_) (fun c137 => ?_)
                      · skip
                        exfalso
                        omega
                      · skip
                        refine jt_iconst d_GM_arguments_127 ?_
                        exact gm_ret d_GM_arguments_128 rfl rfl (hbad (fun h => by first | (have := h.1; omega) | (have h2 := h.2; rw [if_pos (by omega)] at h2; exact absurd h2 (by assumption)) | (have h2 := h.2; rw [if_neg (by omega)] at h2; exact absurd h2 (by assumption))))
                  · skip
                    refine jt_iconst d_GM_arguments_116 ?_
                    refine jt_goto (t := 121) d_GM_arguments_117 rfl ?_
                    refine gct_call (Y := Y_GM_isWord) (As := [.int (jI q), .int (jI 5)]) (rest := []) d_GM_arguments_121 GM_c156 yk_GM_isWord yv_GM_isWord rfl (Nat.le_of_ble_eq_true rfl) rfl rfl (Nat.le_of_ble_eq_true rfl) (c_GM_isWord G _ m q 5 I (va_up (va_up A 28 X) 29 Y) (by omega) (by unfold jRi; omega) (by unfold jRi; omega) (by unfold jRi; omega) (fun z => by have q5 := rt q (by omega) z; unfold gtok at q5; show q < 700 ∧ jRi (A 22 q) ∧ jRi (A 23 q); unfold jRi; omega)) (fun rvq138 Iq138 Aq138 hq138 => ?_)
                    obtain ⟨haq138, hbq138, hIq138, hAq138⟩ := hq138
                    rw [hIq138, hAq138]
                    by_cases gq138 : gW I A q 5
                    · skip
                      obtain rfl := haq138 gq138
                      show jt _ 124 [(0, .ref m), (1, .int (jI k)), (2, .int (jI n)), (3, .int (jI q)), (4, .int (jI i)), (5, .int (jI o))] [.int (jI 1)] (gmf m f0 I (va_up (va_up A 28 X) 29 Y)) _ _ _
                      refine jt_if_ne (t := 129) d_GM_arguments_124 rfl (by unfold jRi; omega) (fun c139 => ?_) (fun c139 => ?_)
                      · skip
                        refine jt_aload_n d_GM_arguments_129 rfl ?_
                        refine gm_gA (k := 29) (a := m + 14) d_GM_arguments_130 GM_f99 (by decide) (by decide) rfl ?_
                        refine jt_iload d_GM_arguments_133 rfl ?_
                        refine jt_iload_n d_GM_arguments_135 rfl ?_
                        refine gm_st0 (k := 29) (n := 3) (B := va_up (va_up A 28 X) 29 (ju Y i q)) d_GM_arguments_136 rfl (by decide) (by decide) rfl rfl (by omega) (by omega) (by omega) (bx_uu _ _ _ _) ?_
                        refine jt_iinc (L' := [(0, .ref m), (1, .int (jI k)), (2, .int (jI n)), (3, .int (jI (q + 1))), (4, .int (jI i)), (5, .int (jI o))]) d_GM_arguments_137 rfl (Nat.le_of_ble_eq_true rfl) rfl ?_
                        refine jt_iinc (L' := [(0, .ref m), (1, .int (jI k)), (2, .int (jI n)), (3, .int (jI (q + 1))), (4, .int (jI (i + 1))), (5, .int (jI o))]) d_GM_arguments_140 rfl (Nat.le_of_ble_eq_true rfl) rfl ?_
                        refine jt_goto (t := 20) d_GM_arguments_143 rfl ?_
                        refine jt_sub (L' := [(0, .ref m), (1, .int (jI k)), (2, .int (jI n)), (3, .int (jI (q + 1))), (4, .int (jI (i + 1)))]) (fun _ h => List.mem_append_left [(5, Value.int (jI o))] h) ?_
                        exact hout (by omega) (by first | (rw [if_pos (by omega)]; assumption) | (rw [if_neg (by omega)]; assumption))
                      · skip
                        exfalso
                        omega
                    · skip
                      obtain rfl := hbq138 gq138
                      show jt _ 124 [(0, .ref m), (1, .int (jI k)), (2, .int (jI n)), (3, .int (jI q)), (4, .int (jI i)), (5, .int (jI o))] [.int (jI 0)] (gmf m f0 I (va_up (va_up A 28 X) 29 Y)) _ _ _
                      refine jt_if_ne (t := 129) d_GM_arguments_124 rfl (by unfold jRi; omega) (fun c140 => ?_) (fun c140 => ?_)
                      · skip
                        exfalso
                        omega
                      · skip
                        refine jt_iconst d_GM_arguments_127 ?_
                        exact gm_ret d_GM_arguments_128 rfl rfl (hbad (fun h => by first | (have := h.1; omega) | (have h2 := h.2; rw [if_pos (by omega)] at h2; exact absurd h2 (by assumption)) | (have h2 := h.2; rw [if_neg (by omega)] at h2; exact absurd h2 (by assumption))))
              · skip
                exfalso
                omega
            · skip
              obtain rfl := hbq131 gq131
              show jt _ 65 [(0, .ref m), (1, .int (jI k)), (2, .int (jI n)), (3, .int (jI q)), (4, .int (jI i)), (5, .int (jI o))] [.int (jI 0)] (gmf m f0 I (va_up (va_up A 28 X) 29 Y)) _ _ _
              refine jt_if_ne (t := 98) d_GM_arguments_65 rfl (by unfold jRi; omega) (fun c141 => ?_) (fun c141 => ?_)
              · skip
                exfalso
                omega
              · skip
                refine jt_aload_n d_GM_arguments_68 rfl ?_
                refine jt_iload_n d_GM_arguments_69 rfl ?_
                refine jt_iconst d_GM_arguments_70 ?_
                refine gct_call (Y := Y_GM_isWord) (As := [.int (jI q), .int (jI 3)]) (rest := []) d_GM_arguments_71 GM_c156 yk_GM_isWord yv_GM_isWord rfl (Nat.le_of_ble_eq_true rfl) rfl rfl (Nat.le_of_ble_eq_true rfl) (c_GM_isWord G _ m q 3 I (va_up (va_up A 28 X) 29 Y) (by omega) (by unfold jRi; omega) (by unfold jRi; omega) (by unfold jRi; omega) (fun z => by have q5 := rt q (by omega) z; unfold gtok at q5; show q < 700 ∧ jRi (A 22 q) ∧ jRi (A 23 q); unfold jRi; omega)) (fun rvq142 Iq142 Aq142 hq142 => ?_)
                obtain ⟨haq142, hbq142, hIq142, hAq142⟩ := hq142
                rw [hIq142, hAq142]
                by_cases gq142 : gW I A q 3
                · skip
                  obtain rfl := haq142 gq142
                  show jt _ 74 [(0, .ref m), (1, .int (jI k)), (2, .int (jI n)), (3, .int (jI q)), (4, .int (jI i)), (5, .int (jI o))] [.int (jI 1)] (gmf m f0 I (va_up (va_up A 28 X) 29 Y)) _ _ _
                  refine jt_if_eq (t := 80) d_GM_arguments_74 rfl (by unfold jRi; omega) (fun c143 => ?_) (fun c143 => ?_)
                  · skip
                    exfalso
                    omega
                  · skip
                    refine jt_iinc (L' := [(0, .ref m), (1, .int (jI k)), (2, .int (jI n)), (3, .int (jI q)), (4, .int (jI i)), (5, .int (jI (o + 1)))]) d_GM_arguments_77 rfl (Nat.le_of_ble_eq_true rfl) rfl ?_
                    refine jt_aload_n d_GM_arguments_80 rfl ?_
                    refine jt_iload_n d_GM_arguments_81 rfl ?_
                    refine jt_iconst d_GM_arguments_82 ?_
                    refine gct_call (Y := Y_GM_isWord) (As := [.int (jI q), .int (jI 4)]) (rest := []) d_GM_arguments_83 GM_c156 yk_GM_isWord yv_GM_isWord rfl (Nat.le_of_ble_eq_true rfl) rfl rfl (Nat.le_of_ble_eq_true rfl) (c_GM_isWord G _ m q 4 I (va_up (va_up A 28 X) 29 Y) (by omega) (by unfold jRi; omega) (by unfold jRi; omega) (by unfold jRi; omega) (fun z => by have q5 := rt q (by omega) z; unfold gtok at q5; show q < 700 ∧ jRi (A 22 q) ∧ jRi (A 23 q); unfold jRi; omega)) (fun rvq144 Iq144 Aq144 hq144 => ?_)
                    obtain ⟨haq144, hbq144, hIq144, hAq144⟩ := hq144
                    rw [hIq144, hAq144]
                    by_cases gq144 : gW I A q 4
                    · skip
                      obtain rfl := haq144 gq144
                      show jt _ 86 [(0, .ref m), (1, .int (jI k)), (2, .int (jI n)), (3, .int (jI q)), (4, .int (jI i)), (5, .int (jI (o + 1)))] [.int (jI 1)] (gmf m f0 I (va_up (va_up A 28 X) 29 Y)) _ _ _
                      refine jt_if_eq (t := 92) d_GM_arguments_86 rfl (by unfold jRi; omega) (fun c145 => ?_) (fun c145 => ?_)
                      · skip
                        exfalso
                        omega
                      · skip
                        refine jt_iinc (L' := [(0, .ref m), (1, .int (jI k)), (2, .int (jI n)), (3, .int (jI q)), (4, .int (jI i)), (5, .int (jI ((o + 1) + (-1))))]) d_GM_arguments_89 rfl (Nat.le_of_ble_eq_true rfl) rfl ?_
                        refine jt_iinc (L' := [(0, .ref m), (1, .int (jI k)), (2, .int (jI n)), (3, .int (jI (q + 1))), (4, .int (jI i)), (5, .int (jI ((o + 1) + (-1))))]) d_GM_arguments_92 rfl (Nat.le_of_ble_eq_true rfl) rfl ?_
                        refine jt_goto (t := 37) d_GM_arguments_95 rfl ?_
                        refine ih _ _ (by omega) (by omega) (by omega) (by omega) ?_ (by omega)
                        rw [← he]
                        refine (gEnd_go I A q o _ ⟨by omega, ?_⟩ ?_).symm
                        · first | exact Or.inl (by omega) | exact Or.inr ⟨by assumption, by assumption⟩
                        · first | (rw [if_pos (by assumption), if_pos (by assumption)]; omega) | (rw [if_pos (by assumption), if_neg (by assumption)]; omega) | (rw [if_neg (by assumption), if_pos (by assumption)]; omega) | (rw [if_neg (by assumption), if_neg (by assumption)]; omega)
                    · skip
                      obtain rfl := hbq144 gq144
                      show jt _ 86 [(0, .ref m), (1, .int (jI k)), (2, .int (jI n)), (3, .int (jI q)), (4, .int (jI i)), (5, .int (jI (o + 1)))] [.int (jI 0)] (gmf m f0 I (va_up (va_up A 28 X) 29 Y)) _ _ _
                      refine jt_if_eq (t := 92) d_GM_arguments_86 rfl (by unfold jRi; omega) (fun c146 => ?_) (fun c146 => ?_)
                      · skip
                        refine jt_iinc (L' := [(0, .ref m), (1, .int (jI k)), (2, .int (jI n)), (3, .int (jI (q + 1))), (4, .int (jI i)), (5, .int (jI (o + 1)))]) d_GM_arguments_92 rfl (Nat.le_of_ble_eq_true rfl) rfl ?_
                        refine jt_goto (t := 37) d_GM_arguments_95 rfl ?_
                        refine ih _ _ (by omega) (by omega) (by omega) (by omega) ?_ (by omega)
                        rw [← he]
                        refine (gEnd_go I A q o _ ⟨by omega, ?_⟩ ?_).symm
                        · first | exact Or.inl (by omega) | exact Or.inr ⟨by assumption, by assumption⟩
                        · first | (rw [if_pos (by assumption), if_pos (by assumption)]; omega) | (rw [if_pos (by assumption), if_neg (by assumption)]; omega) | (rw [if_neg (by assumption), if_pos (by assumption)]; omega) | (rw [if_neg (by assumption), if_neg (by assumption)]; omega)
                      · skip
                        exfalso
                        omega
                · skip
                  obtain rfl := hbq142 gq142
                  show jt _ 74 [(0, .ref m), (1, .int (jI k)), (2, .int (jI n)), (3, .int (jI q)), (4, .int (jI i)), (5, .int (jI o))] [.int (jI 0)] (gmf m f0 I (va_up (va_up A 28 X) 29 Y)) _ _ _
                  refine jt_if_eq (t := 80) d_GM_arguments_74 rfl (by unfold jRi; omega) (fun c147 => ?_) (fun c147 => ?_)
                  · skip
                    refine jt_aload_n d_GM_arguments_80 rfl ?_
                    refine jt_iload_n d_GM_arguments_81 rfl ?_
                    refine jt_iconst d_GM_arguments_82 ?_
                    refine gct_call (Y := Y_GM_isWord) (As := [.int (jI q), .int (jI 4)]) (rest := []) d_GM_arguments_83 GM_c156 yk_GM_isWord yv_GM_isWord rfl (Nat.le_of_ble_eq_true rfl) rfl rfl (Nat.le_of_ble_eq_true rfl) (c_GM_isWord G _ m q 4 I (va_up (va_up A 28 X) 29 Y) (by omega) (by unfold jRi; omega) (by unfold jRi; omega) (by unfold jRi; omega) (fun z => by have q5 := rt q (by omega) z; unfold gtok at q5; show q < 700 ∧ jRi (A 22 q) ∧ jRi (A 23 q); unfold jRi; omega)) (fun rvq148 Iq148 Aq148 hq148 => ?_)
                    obtain ⟨haq148, hbq148, hIq148, hAq148⟩ := hq148
                    rw [hIq148, hAq148]
                    by_cases gq148 : gW I A q 4
                    · skip
                      obtain rfl := haq148 gq148
                      show jt _ 86 [(0, .ref m), (1, .int (jI k)), (2, .int (jI n)), (3, .int (jI q)), (4, .int (jI i)), (5, .int (jI o))] [.int (jI 1)] (gmf m f0 I (va_up (va_up A 28 X) 29 Y)) _ _ _
                      refine jt_if_eq (t := 92) d_GM_arguments_86 rfl (by unfold jRi; omega) (fun c149 => ?_) (fun c149 => ?_)
                      · skip
                        exfalso
                        omega
                      · skip
                        refine jt_iinc (L' := [(0, .ref m), (1, .int (jI k)), (2, .int (jI n)), (3, .int (jI q)), (4, .int (jI i)), (5, .int (jI (o + (-1))))]) d_GM_arguments_89 rfl (Nat.le_of_ble_eq_true rfl) rfl ?_
                        refine jt_iinc (L' := [(0, .ref m), (1, .int (jI k)), (2, .int (jI n)), (3, .int (jI (q + 1))), (4, .int (jI i)), (5, .int (jI (o + (-1))))]) d_GM_arguments_92 rfl (Nat.le_of_ble_eq_true rfl) rfl ?_
                        refine jt_goto (t := 37) d_GM_arguments_95 rfl ?_
                        refine ih _ _ (by omega) (by omega) (by omega) (by omega) ?_ (by omega)
                        rw [← he]
                        refine (gEnd_go I A q o _ ⟨by omega, ?_⟩ ?_).symm
                        · first | exact Or.inl (by omega) | exact Or.inr ⟨by assumption, by assumption⟩
                        · first | (rw [if_pos (by assumption), if_pos (by assumption)]; omega) | (rw [if_pos (by assumption), if_neg (by assumption)]; omega) | (rw [if_neg (by assumption), if_pos (by assumption)]; omega) | (rw [if_neg (by assumption), if_neg (by assumption)]; omega)
                    · skip
                      obtain rfl := hbq148 gq148
                      show jt _ 86 [(0, .ref m), (1, .int (jI k)), (2, .int (jI n)), (3, .int (jI q)), (4, .int (jI i)), (5, .int (jI o))] [.int (jI 0)] (gmf m f0 I (va_up (va_up A 28 X) 29 Y)) _ _ _
                      refine jt_if_eq (t := 92) d_GM_arguments_86 rfl (by unfold jRi; omega) (fun c150 => ?_) (fun c150 => ?_)
                      · skip
                        refine jt_iinc (L' := [(0, .ref m), (1, .int (jI k)), (2, .int (jI n)), (3, .int (jI (q + 1))), (4, .int (jI i)), (5, .int (jI o))]) d_GM_arguments_92 rfl (Nat.le_of_ble_eq_true rfl) rfl ?_
                        refine jt_goto (t := 37) d_GM_arguments_95 rfl ?_
                        refine ih _ _ (by omega) (by omega) (by omega) (by omega) ?_ (by omega)
                        rw [← he]
                        refine (gEnd_go I A q o _ ⟨by omega, ?_⟩ ?_).symm
                        · first | exact Or.inl (by omega) | exact Or.inr ⟨by assumption, by assumption⟩
                        · first | (rw [if_pos (by assumption), if_pos (by assumption)]; omega) | (rw [if_pos (by assumption), if_neg (by assumption)]; omega) | (rw [if_neg (by assumption), if_pos (by assumption)]; omega) | (rw [if_neg (by assumption), if_neg (by assumption)]; omega)
                      · skip
                        exfalso
                        omega
                  · skip
                    exfalso
                    omega
set_option maxRecDepth 100000 in
set_option maxHeartbeats 4000000 in
theorem l20_GM_arguments (G : jG) (d m : Nat) (k : Int) (n : Int) (I : Nat → Int) (A : Nat → Int → Int)  (hR : gRw I A) (k0 : 0 ≤ k) (k1 : k < I 1) (n0 : 1 ≤ n) (n1 : n ≤ 3) (f0 : jF) (sz : Nat) (hw3 : gW I A (k + 1) 3) : ∀ (n9 : Nat) (i : Int) (q : Int) (X : Int → Int) (Y : Int → Int), (0 ≤ i) → (i ≤ n) → (q = gAq I A k i.toNat) → (0 ≤ q) → (q ≤ 990 + i) → (∀ j, 0 ≤ j → j < i → gAo I A k n j) → (∀ j, 0 ≤ j → j < i → X j = gAq I A k j.toNat ∧ Y j = gAe I A (gAq I A k j.toNat)) → n - i < (n9 : Int) → jt (jm G Y_GM_arguments (gR (d + 1)) (gQ m f0 sz (fun (rv : Option Value) (I2 : Nat → Int) (A2 : Nat → Int → Int) => I2 = I ∧ ∃ X Y : Int → Int, A2 = va_up (va_up A 28 X) 29 Y ∧ (gAok I A k n → rv = some (.int (jI (gAq I A k n.toNat))) ∧ ∀ j, 0 ≤ j → j < n → X j = gAq I A k j.toNat ∧ Y j = gAe I A (gAq I A k j.toNat)) ∧ (¬ gAok I A k n → rv = some (.int (jI (-1))))))) 20 [(0, .ref m), (1, .int (jI k)), (2, .int (jI n)), (3, .int (jI q)), (4, .int (jI i))] [] (gmf m f0 I (va_up (va_up A 28 X) 29 Y)) sz 0 0 := by
  obtain ⟨r0, r1, rt⟩ := id hR
  intro n9
  induction n9 with
  | zero =>
    intro i q X Y i0 i1 hq q0 q1 hj1 hXY hmeas
    exfalso
    omega
  | succ n9 ih =>
    intro i q X Y i0 i1 hq q0 q1 hj1 hXY hmeas
    refine jt_iload d_GM_arguments_20 rfl ?_
    refine jt_iload_n d_GM_arguments_22 rfl ?_
    refine jt_icmp_ge (t := 146) d_GM_arguments_23 rfl (by unfold jRi; omega) (by unfold jRi; omega) (fun c201 => ?_) (fun c201 => ?_)
    · skip
      refine jt_iload_n d_GM_arguments_146 rfl ?_
      exact gm_ret d_GM_arguments_147 rfl rfl (by
    obtain rfl : i = n := by omega
    exact ⟨rfl, X, Y, rfl, fun _ => ⟨by rw [hq], hXY⟩, fun h => absurd ⟨hw3, hj1⟩ h⟩)
    · skip
      refine jt_iconst d_GM_arguments_26 ?_
      refine jt_istore (L' := [(0, .ref m), (1, .int (jI k)), (2, .int (jI n)), (3, .int (jI q)), (4, .int (jI i)), (5, .int (jI 0))]) d_GM_arguments_27 (Nat.le_of_ble_eq_true rfl) rfl ?_
      refine jt_aload_n d_GM_arguments_29 rfl ?_
      refine gm_gA (k := 28) (a := m + 13) d_GM_arguments_30 GM_f96 (by decide) (by decide) rfl ?_
      refine jt_iload d_GM_arguments_33 rfl ?_
      refine jt_iload_n d_GM_arguments_35 rfl ?_
      refine gm_st0 (k := 28) (n := 3) (B := va_up (va_up A 28 (ju X i q)) 29 Y) d_GM_arguments_36 rfl (by decide) (by decide) rfl rfl (by omega) (by omega) (by omega) (gup3 _ _ _ _ (by decide)) ?_
      have gb := gAe_le I A q
      refine l37_GM_arguments G d m k n I A  hR k0 k1 n0 n1 f0 sz i (gAe I A q) (ju X i q) Y i0 (by omega) (fun a b => ?_) (fun h => ?_) 1001 _ _ (by omega) (by omega) (by omega) (by omega) rfl (by omega)
      · refine ih _ _ _ _ (by omega) (by omega) (by rw [gAq_s I A k i i0, ← hq]) (by omega) (by omega) (fun j j0 j1 => ?_) (fun j j0 j1 => ?_) (by omega)
        · by_cases hj : j = i
          · rw [hj]; unfold gAo; rw [← hq]; exact ⟨a, b⟩
          · exact hj1 j j0 (by omega)
        · unfold ju
          by_cases hj : j = i
          · rw [if_pos hj, if_pos hj, hj, hq]; exact ⟨rfl, rfl⟩
          · rw [if_neg hj, if_neg hj]; exact hXY j j0 (by omega)
      · refine ⟨rfl, _, _, rfl, fun h2 => absurd (h2.2 i i0 (by omega)) ?_, fun _ => rfl⟩
        unfold gAo
        rw [← hq]
        exact h
set_option maxRecDepth 100000 in
set_option maxHeartbeats 4000000 in
theorem c_GM_arguments (G : jG) (d m : Nat) (k : Int) (n : Int) (I : Nat → Int) (A : Nat → Int → Int)  (hR : gRw I A) (k0 : 0 ≤ k) (k1 : k < I 1) (n0 : 1 ≤ n) (n1 : n ≤ 3) : gct G Y_GM_arguments (d + 1) m [.int (jI k), .int (jI n)] I A (fun (rv : Option Value) (I2 : Nat → Int) (A2 : Nat → Int → Int) => I2 = I ∧ ∃ X Y : Int → Int, A2 = va_up (va_up A 28 X) 29 Y ∧ (gAok I A k n → rv = some (.int (jI (gAq I A k n.toNat))) ∧ ∀ j, 0 ≤ j → j < n → X j = gAq I A k j.toNat ∧ Y j = gAe I A (gAq I A k j.toNat)) ∧ (¬ gAok I A k n → rv = some (.int (jI (-1))))) := by
  refine gct_of (by decide) (Nat.le_of_ble_eq_true rfl) (fun f0 sz => ?_)
  show jt _ 0 [(0, .ref m), (1, .int (jI k)), (2, .int (jI n))] [] _ _ _ _
  obtain ⟨r0, r1, rt⟩ := id hR
  refine jt_aload_n d_GM_arguments_0 rfl ?_
  refine jt_iload_n d_GM_arguments_1 rfl ?_
  refine jt_iconst d_GM_arguments_2 ?_
  refine jt_iadd d_GM_arguments_3 ?_
  refine jt_iconst d_GM_arguments_4 ?_
  refine gct_call (Y := Y_GM_isWord) (As := [.int (jI (k + 1)), .int (jI 3)]) (rest := []) d_GM_arguments_5 GM_c156 yk_GM_isWord yv_GM_isWord rfl (Nat.le_of_ble_eq_true rfl) rfl rfl (Nat.le_of_ble_eq_true rfl) (c_GM_isWord G _ m (k + 1) 3 I A (by omega) (by unfold jRi; omega) (by unfold jRi; omega) (by unfold jRi; omega) (fun z => by have q5 := rt (k + 1) (by omega) z; unfold gtok at q5; show (k + 1) < 700 ∧ jRi (A 22 (k + 1)) ∧ jRi (A 23 (k + 1)); unfold jRi; omega)) (fun rvq1 Iq1 Aq1 hq1 => ?_)
  obtain ⟨haq1, hbq1, hIq1, hAq1⟩ := hq1
  rw [hIq1, hAq1]
  by_cases gq1 : gW I A (k + 1) 3
  · skip
    obtain rfl := haq1 gq1
    show jt _ 8 [(0, .ref m), (1, .int (jI k)), (2, .int (jI n))] [.int (jI 1)] (gmf m f0 I A) _ _ _
    refine jt_if_ne (t := 13) d_GM_arguments_8 rfl (by unfold jRi; omega) (fun c2 => ?_) (fun c2 => ?_)
    · skip
      refine jt_iload_n d_GM_arguments_13 rfl ?_
      refine jt_iconst d_GM_arguments_14 ?_
      refine jt_iadd d_GM_arguments_15 ?_
      refine jt_topi (fun v3 ev3 => ?_)
      refine jt_istore_n (L' := [(0, .ref m), (1, .int (jI k)), (2, .int (jI n)), (3, .int (jI v3))]) d_GM_arguments_16 (Nat.le_of_ble_eq_true rfl) rfl ?_
      refine jt_iconst d_GM_arguments_17 ?_
      refine jt_istore (L' := [(0, .ref m), (1, .int (jI k)), (2, .int (jI n)), (3, .int (jI v3)), (4, .int (jI 0))]) d_GM_arguments_18 (Nat.le_of_ble_eq_true rfl) rfl ?_
      refine gm_eA (B := va_up (va_up A 28 (A 28)) 29 (A 29)) ((gup_id A 28).trans (gup_id (va_up A 28 (A 28)) 29)) ?_
      refine l20_GM_arguments G d m k n I A  hR k0 k1 n0 n1 f0 sz (by assumption) 4 _ _ _ _ (by omega) (by omega) ?_ (by omega) (by omega) (fun j a b => by omega) (fun j a b => by omega) (by omega)
      rw [ev3]
      rfl
    · skip
      exfalso
      omega
  · skip
    obtain rfl := hbq1 gq1
    show jt _ 8 [(0, .ref m), (1, .int (jI k)), (2, .int (jI n))] [.int (jI 0)] (gmf m f0 I A) _ _ _
    refine jt_if_ne (t := 13) d_GM_arguments_8 rfl (by unfold jRi; omega) (fun c4 => ?_) (fun c4 => ?_)
    · skip
      exfalso
      omega
    · skip
      refine jt_iconst d_GM_arguments_11 ?_
      exact gm_ret d_GM_arguments_12 rfl rfl (⟨rfl, A 28, A 29, (gup_id A 28).trans (gup_id (va_up A 28 (A 28)) 29), fun h => absurd h.1 (by assumption), fun _ => rfl⟩)

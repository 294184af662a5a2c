/-- a token; a row of tokens; a place in it -/
def gtok (k v : Int) : Prop := (k = 0 ∧ -16000 ≤ v ∧ v ≤ 16000) ∨ (k = 1 ∧ 0 ≤ v ∧ v ≤ 11) ∨ (k = 2 ∧ 0 ≤ v ∧ v ≤ 2) ∨ (k = 3 ∧ 0 ≤ v ∧ v ≤ 5) ∨ (k = 4 ∧ 0 ≤ v ∧ v ≤ 13)
def gRw (I : Nat → Int) (A : Nat → Int → Int) : Prop := 0 ≤ I 1 ∧ I 1 ≤ 700 ∧ ∀ k, 0 ≤ k → k < I 1 → gtok (A 22 k) (A 23 k)
def gP (I : Nat → Int) (A : Nat → Int → Int) : Prop := gRw I A ∧ 0 ≤ I 4 ∧ I 4 ≤ 700
def gsy (I : Nat → Int) : Nat → Int := if I 5 = 0 then va_up (va_up I 5 (-8)) 6 (I 4) else I
def gnd (I : Nat → Int) (A : Nat → Int → Int) (w : Int) : Nat → Int := if I 5 = 0 then (if gW I A (I 4) w then va_up I 4 (I 4 + 1) else gsy I) else I
def gob (I : Nat → Int) (A : Nat → Int → Int) : Nat → Int := if I 5 = 0 then (if gW I A (I 4) 3 then (if I 14 = 8 then va_up (va_up I 5 (-5)) 6 (I 4) else va_up (va_up I 14 (I 14 + 1)) 4 (I 4 + 1)) else gsy I) else I
set_option maxRecDepth 100000 in
set_option maxHeartbeats 4000000 in
theorem c_GM_word (G : jG) (d m : Nat) (w : Int) (I : Nat → Int) (A : Nat → Int → Int)  (hP : gP I A) (hw : jRi w) : gct G Y_GM_word (d + 1) m [.int (jI w)] I A (fun rv I2 A2 => (gW I A (I 4) w → rv = some (.int (jI 1))) ∧ (¬ gW I A (I 4) w → rv = some (.int (jI 0))) ∧ I2 = I ∧ A2 = A) := by
  refine gct_of (by decide) (Nat.le_of_ble_eq_true rfl) (fun f0 sz => ?_)
  show jt _ 0 [(0, .ref m), (1, .int (jI w))] [] _ _ _ _
  obtain ⟨⟨r0, r1, rt⟩, p0, p1⟩ := id hP
  unfold jRi at hw
  refine jt_aload_n d_GM_word_0 rfl ?_
  refine jt_aload_n d_GM_word_1 rfl ?_
  refine gm_gI (k := 4) (v := I 4) d_GM_word_2 GM_f22 (by decide) rfl ?_
  refine jt_iload_n d_GM_word_5 rfl ?_
  refine gct_call (Y := Y_GM_isWord) (As := [.int (jI (I 4)), .int (jI w)]) (rest := []) d_GM_word_6 GM_c156 yk_GM_isWord yv_GM_isWord rfl (Nat.le_of_ble_eq_true rfl) rfl rfl (Nat.le_of_ble_eq_true rfl) (c_GM_isWord G _ m (I 4) w I A (by omega) (by unfold jRi; omega) (by unfold jRi; omega) (by unfold jRi; omega) (fun z => by have q := rt (I 4) p0 z; unfold gtok at q; unfold jRi; omega)) (fun rvq1 Iq1 Aq1 hq1 => ?_)
  obtain ⟨haq1, hbq1, hIq1, hAq1⟩ := hq1
  rw [hIq1, hAq1]
  by_cases gq1 : gW I A (I 4) w
  · skip
    obtain rfl := haq1 gq1
    show jt _ 9 [(0, .ref m), (1, .int (jI w))] [.int (jI 1)] (gmf m f0 I A) _ _ _
    exact gm_ret d_GM_word_9 rfl (jnz (by omega)) (⟨fun z => by first | rfl | exact absurd z (by assumption), fun z => by first | rfl | exact absurd (by assumption) z, rfl, rfl⟩)
  · skip
    obtain rfl := hbq1 gq1
    show jt _ 9 [(0, .ref m), (1, .int (jI w))] [.int (jI 0)] (gmf m f0 I A) _ _ _
    exact gm_ret d_GM_word_9 rfl (jnz (by omega)) (⟨fun z => by first | rfl | exact absurd z (by assumption), fun z => by first | rfl | exact absurd (by assumption) z, rfl, rfl⟩)
set_option maxRecDepth 100000 in
set_option maxHeartbeats 4000000 in
theorem c_GM_syntax (G : jG) (d m : Nat)  (I : Nat → Int) (A : Nat → Int → Int)  (he : jRi (I 5)) : gct G Y_GM_syntax (d + 1) m [] I A (fun rv I2 A2 => rv = none ∧ I2 = gsy I ∧ A2 = A) := by
  refine gct_of (by decide) (Nat.le_of_ble_eq_true rfl) (fun f0 sz => ?_)
  show jt _ 0 [(0, .ref m)] [] _ _ _ _
  unfold jRi at he
  refine jt_aload_n d_GM_syntax_0 rfl ?_
  refine gm_gI (k := 5) (v := I 5) d_GM_syntax_1 GM_f25 (by decide) rfl ?_
  refine jt_if_ne (t := 17) d_GM_syntax_4 rfl (by unfold jRi; omega) (fun c1 => ?_) (fun c1 => ?_)
  · skip
    exact gm_vret d_GM_syntax_17 rfl (⟨rfl, by unfold gsy; first | rw [if_pos (by omega)] | rw [if_neg (by omega)], rfl⟩)
  · skip
    refine jt_aload_n d_GM_syntax_7 rfl ?_
    refine jt_bipush d_GM_syntax_8 (by omega) ?_
    refine jt_aload_n d_GM_syntax_10 rfl ?_
    refine gm_gI (k := 4) (v := I 4) d_GM_syntax_11 GM_f22 (by decide) rfl ?_
    refine gct_call (Y := Y_GM_stop) (As := [.int (jI (-8)), .int (jI (I 4))]) (rest := []) d_GM_syntax_14 GM_c164 yk_GM_stop yv_GM_stop rfl (Nat.le_of_ble_eq_true rfl) rfl rfl (Nat.le_of_ble_eq_true rfl) (c_GM_stop G _ m (-8) (I 4) I A) (fun rvq2 Iq2 Aq2 hq2 => ?_)
    obtain ⟨rfl, hIq2, hAq2⟩ := hq2
    rw [hIq2, hAq2]
    show jt _ 17 [(0, .ref m)] [] (gmf m f0 (va_up (va_up I 5 (-8)) 6 (I 4)) A) _ _ _
    exact gm_vret d_GM_syntax_17 rfl (⟨rfl, by unfold gsy; first | rw [if_pos (by omega)] | rw [if_neg (by omega)], rfl⟩)
set_option maxRecDepth 100000 in
set_option maxHeartbeats 4000000 in
theorem c_GM_need (G : jG) (d m : Nat) (w : Int) (I : Nat → Int) (A : Nat → Int → Int)  (hP : gP I A) (hw : jRi w) (he : jRi (I 5)) : gct G Y_GM_need (d + 2) m [.int (jI w)] I A (fun rv I2 A2 => rv = none ∧ I2 = gnd I A w ∧ A2 = A) := by
  refine gct_of (by decide) (Nat.le_of_ble_eq_true rfl) (fun f0 sz => ?_)
  show jt _ 0 [(0, .ref m), (1, .int (jI w))] [] _ _ _ _
  obtain ⟨⟨r0, r1, rt⟩, p0, p1⟩ := id hP
  unfold jRi at hw he
  refine jt_aload_n d_GM_need_0 rfl ?_
  refine gm_gI (k := 5) (v := I 5) d_GM_need_1 GM_f25 (by decide) rfl ?_
  refine jt_if_eq (t := 8) d_GM_need_4 rfl (by unfold jRi; omega) (fun c1 => ?_) (fun c1 => ?_)
  · skip
    refine jt_aload_n d_GM_need_8 rfl ?_
    refine jt_iload_n d_GM_need_9 rfl ?_
    refine gct_call (Y := Y_GM_word) (As := [.int (jI w)]) (rest := []) d_GM_need_10 GM_c201 yk_GM_word yv_GM_word rfl (Nat.le_of_ble_eq_true rfl) rfl rfl (Nat.le_of_ble_eq_true rfl) (c_GM_word G _ m w I A (hP) (by unfold jRi; omega)) (fun rvq2 Iq2 Aq2 hq2 => ?_)
    obtain ⟨haq2, hbq2, hIq2, hAq2⟩ := hq2
    rw [hIq2, hAq2]
    by_cases gq2 : gW I A (I 4) w
    · skip
      obtain rfl := haq2 gq2
      show jt _ 13 [(0, .ref m), (1, .int (jI w))] [.int (jI 1)] (gmf m f0 I A) _ _ _
      refine jt_if_eq (t := 29) d_GM_need_13 rfl (by unfold jRi; omega) (fun c3 => ?_) (fun c3 => ?_)
      · skip
        exfalso
        omega
      · skip
        refine jt_aload_n d_GM_need_16 rfl ?_
        refine jt_dup d_GM_need_17 rfl ?_
        refine gm_gI (k := 4) (v := I 4) d_GM_need_18 GM_f22 (by decide) rfl ?_
        refine jt_iconst d_GM_need_21 ?_
        refine jt_iadd d_GM_need_22 ?_
        refine jt_topi (fun v4 ev4 => ?_)
        refine gm_pI (k := 4) (v := v4) (J := va_up I 4 v4) d_GM_need_23 (GM_w22 _ rfl) (by decide) rfl rfl rfl ?_
        refine jt_goto (t := 33) d_GM_need_26 rfl ?_
        exact gm_vret d_GM_need_33 rfl (⟨rfl, by rw [ev4]; unfold gnd; first | rw [if_pos (by omega), if_pos (by assumption)] | rw [if_pos (by omega), if_neg (by assumption)] | rw [if_neg (by omega)], rfl⟩)
    · skip
      obtain rfl := hbq2 gq2
      show jt _ 13 [(0, .ref m), (1, .int (jI w))] [.int (jI 0)] (gmf m f0 I A) _ _ _
      refine jt_if_eq (t := 29) d_GM_need_13 rfl (by unfold jRi; omega) (fun c5 => ?_) (fun c5 => ?_)
      · skip
        refine jt_aload_n d_GM_need_29 rfl ?_
        refine gct_call (Y := Y_GM_syntax) (As := []) (rest := []) d_GM_need_30 GM_c205 yk_GM_syntax yv_GM_syntax rfl (Nat.le_of_ble_eq_true rfl) rfl rfl (Nat.le_of_ble_eq_true rfl) (c_GM_syntax G _ m I A (by unfold jRi; omega)) (fun rvq6 Iq6 Aq6 hq6 => ?_)
        obtain ⟨rfl, hIq6, hAq6⟩ := hq6
        rw [hIq6, hAq6]
        show jt _ 33 [(0, .ref m), (1, .int (jI w))] [] (gmf m f0 ((gsy I)) A) _ _ _
        exact gm_vret d_GM_need_33 rfl (⟨rfl, by unfold gnd; first | rw [if_pos (by omega), if_pos (by assumption)] | rw [if_pos (by omega), if_neg (by assumption)] | rw [if_neg (by omega)], rfl⟩)
      · skip
        exfalso
        omega
  · skip
    exact gm_vret d_GM_need_7 rfl (⟨rfl, by unfold gnd; first | rw [if_pos (by omega), if_pos (by assumption)] | rw [if_pos (by omega), if_neg (by assumption)] | rw [if_neg (by omega)], rfl⟩)
set_option maxRecDepth 100000 in
set_option maxHeartbeats 4000000 in
theorem c_GM_openBracket (G : jG) (d m : Nat)  (I : Nat → Int) (A : Nat → Int → Int)  (hP : gP I A) (he : jRi (I 5)) (hn : jRi (I 14)) : gct G Y_GM_openBracket (d + 2) m [] I A (fun rv I2 A2 => rv = none ∧ I2 = gob I A ∧ A2 = A) := by
  refine gct_of (by decide) (Nat.le_of_ble_eq_true rfl) (fun f0 sz => ?_)
  show jt _ 0 [(0, .ref m)] [] _ _ _ _
  obtain ⟨⟨r0, r1, rt⟩, p0, p1⟩ := id hP
  unfold jRi at he hn
  refine jt_aload_n d_GM_openBracket_0 rfl ?_
  refine gm_gI (k := 5) (v := I 5) d_GM_openBracket_1 GM_f25 (by decide) rfl ?_
  refine jt_if_eq (t := 8) d_GM_openBracket_4 rfl (by unfold jRi; omega) (fun c1 => ?_) (fun c1 => ?_)
  · skip
    refine jt_aload_n d_GM_openBracket_8 rfl ?_
    refine jt_iconst d_GM_openBracket_9 ?_
    refine gct_call (Y := Y_GM_word) (As := [.int (jI 3)]) (rest := []) d_GM_openBracket_10 GM_c201 yk_GM_word yv_GM_word rfl (Nat.le_of_ble_eq_true rfl) rfl rfl (Nat.le_of_ble_eq_true rfl) (c_GM_word G _ m 3 I A (hP) (by unfold jRi; omega)) (fun rvq2 Iq2 Aq2 hq2 => ?_)
    obtain ⟨haq2, hbq2, hIq2, hAq2⟩ := hq2
    rw [hIq2, hAq2]
    by_cases gq2 : gW I A (I 4) 3
    · skip
      obtain rfl := haq2 gq2
      show jt _ 13 [(0, .ref m)] [.int (jI 1)] (gmf m f0 I A) _ _ _
      refine jt_if_ne (t := 23) d_GM_openBracket_13 rfl (by unfold jRi; omega) (fun c3 => ?_) (fun c3 => ?_)
      · skip
        refine jt_aload_n d_GM_openBracket_23 rfl ?_
        refine gm_gI (k := 14) (v := I 14) d_GM_openBracket_24 GM_f52 (by decide) rfl ?_
        refine jt_bipush d_GM_openBracket_27 (by omega) ?_
        refine jt_icmp_ne (t := 45) d_GM_openBracket_29 rfl (by unfold jRi; omega) (by unfold jRi; omega) (fun c4 => ?_) (fun c4 => ?_)
        · skip
          refine jt_aload_n d_GM_openBracket_45 rfl ?_
          refine jt_dup d_GM_openBracket_46 rfl ?_
          refine gm_gI (k := 14) (v := I 14) d_GM_openBracket_47 GM_f52 (by decide) rfl ?_
          refine jt_iconst d_GM_openBracket_50 ?_
          refine jt_iadd d_GM_openBracket_51 ?_
          refine jt_topi (fun v5 ev5 => ?_)
          refine gm_pI (k := 14) (v := v5) (J := va_up I 14 v5) d_GM_openBracket_52 (GM_w52 _ rfl) (by decide) rfl rfl rfl ?_
          refine jt_aload_n d_GM_openBracket_55 rfl ?_
          refine jt_dup d_GM_openBracket_56 rfl ?_
          refine gm_gI (k := 4) (v := I 4) d_GM_openBracket_57 GM_f22 (by decide) rfl ?_
          refine jt_iconst d_GM_openBracket_60 ?_
          refine jt_iadd d_GM_openBracket_61 ?_
          refine jt_topi (fun v6 ev6 => ?_)
          refine gm_pI (k := 4) (v := v6) (J := va_up (va_up I 14 v5) 4 v6) d_GM_openBracket_62 (GM_w22 _ rfl) (by decide) rfl rfl rfl ?_
          exact gm_vret d_GM_openBracket_65 rfl (⟨rfl, by rw [ev5]; rw [ev6]; unfold gob; first | rw [if_pos (by omega), if_pos (by assumption), if_pos (by omega)] | rw [if_pos (by omega), if_pos (by assumption), if_neg (by omega)] | rw [if_pos (by omega), if_neg (by assumption)] | rw [if_neg (by omega)], rfl⟩)
        · skip
          refine jt_aload_n d_GM_openBracket_32 rfl ?_
          refine jt_bipush d_GM_openBracket_33 (by omega) ?_
          refine jt_aload_n d_GM_openBracket_35 rfl ?_
          refine gm_gI (k := 4) (v := I 4) d_GM_openBracket_36 GM_f22 (by decide) rfl ?_
          refine gct_call (Y := Y_GM_stop) (As := [.int (jI (-5)), .int (jI (I 4))]) (rest := []) d_GM_openBracket_39 GM_c164 yk_GM_stop yv_GM_stop rfl (Nat.le_of_ble_eq_true rfl) rfl rfl (Nat.le_of_ble_eq_true rfl) (c_GM_stop G _ m (-5) (I 4) I A) (fun rvq7 Iq7 Aq7 hq7 => ?_)
          obtain ⟨rfl, hIq7, hAq7⟩ := hq7
          rw [hIq7, hAq7]
          show jt _ 42 [(0, .ref m)] [] (gmf m f0 (va_up (va_up I 5 (-5)) 6 (I 4)) A) _ _ _
          refine jt_goto (t := 65) d_GM_openBracket_42 rfl ?_
          exact gm_vret d_GM_openBracket_65 rfl (⟨rfl, by unfold gob; first | rw [if_pos (by omega), if_pos (by assumption), if_pos (by omega)] | rw [if_pos (by omega), if_pos (by assumption), if_neg (by omega)] | rw [if_pos (by omega), if_neg (by assumption)] | rw [if_neg (by omega)], rfl⟩)
      · skip
        exfalso
        omega
    · skip
      obtain rfl := hbq2 gq2
      show jt _ 13 [(0, .ref m)] [.int (jI 0)] (gmf m f0 I A) _ _ _
      refine jt_if_ne (t := 23) d_GM_openBracket_13 rfl (by unfold jRi; omega) (fun c8 => ?_) (fun c8 => ?_)
      · skip
        exfalso
        omega
      · skip
        refine jt_aload_n d_GM_openBracket_16 rfl ?_
        refine gct_call (Y := Y_GM_syntax) (As := []) (rest := []) d_GM_openBracket_17 GM_c205 yk_GM_syntax yv_GM_syntax rfl (Nat.le_of_ble_eq_true rfl) rfl rfl (Nat.le_of_ble_eq_true rfl) (c_GM_syntax G _ m I A (by unfold jRi; omega)) (fun rvq9 Iq9 Aq9 hq9 => ?_)
        obtain ⟨rfl, hIq9, hAq9⟩ := hq9
        rw [hIq9, hAq9]
        show jt _ 20 [(0, .ref m)] [] (gmf m f0 ((gsy I)) A) _ _ _
        refine jt_goto (t := 65) d_GM_openBracket_20 rfl ?_
        exact gm_vret d_GM_openBracket_65 rfl (⟨rfl, by unfold gob; first | rw [if_pos (by omega), if_pos (by assumption), if_pos (by omega)] | rw [if_pos (by omega), if_pos (by assumption), if_neg (by omega)] | rw [if_pos (by omega), if_neg (by assumption)] | rw [if_neg (by omega)], rfl⟩)
  · skip
    exact gm_vret d_GM_openBracket_7 rfl (⟨rfl, by unfold gob; first | rw [if_pos (by omega), if_pos (by assumption), if_pos (by omega)] | rw [if_pos (by omega), if_pos (by assumption), if_neg (by omega)] | rw [if_pos (by omega), if_neg (by assumption)] | rw [if_neg (by omega)], rfl⟩)
set_option maxRecDepth 100000 in
set_option maxHeartbeats 4000000 in
theorem c_GM_state (G : jG) (d m : Nat) (v : Int) (I : Nat → Int) (A : Nat → Int → Int)  (hv : jRi v) : gct G Y_GM_state (d + 1) m [.int (jI v)] I A (fun rv I2 A2 => rv = some (.int (jI (if v < 0 ∨ 11 < v then -1 else A 30 v))) ∧ I2 = I ∧ A2 = A) := by
  refine gct_of (by decide) (Nat.le_of_ble_eq_true rfl) (fun f0 sz => ?_)
  show jt _ 0 [(0, .ref m), (1, .int (jI v))] [] _ _ _ _
  unfold jRi at hv
  refine jt_aload_n d_GM_state_0 rfl ?_
  refine jt_iload_n d_GM_state_1 rfl ?_
  refine jt_iconst d_GM_state_2 ?_
  refine jt_bipush d_GM_state_3 (by omega) ?_
  refine gct_call (Y := Y_GM_out) (As := [.int (jI v), .int (jI 0), .int (jI 11)]) (rest := []) d_GM_state_5 GM_c152 yk_GM_out yv_GM_out rfl (Nat.le_of_ble_eq_true rfl) rfl rfl (Nat.le_of_ble_eq_true rfl) (c_GM_out G _ m v 0 11 I A (by unfold jRi; omega) (by unfold jRi; omega) (by unfold jRi; omega)) (fun rvq1 Iq1 Aq1 hq1 => ?_)
  obtain ⟨haq1, hbq1, hIq1, hAq1⟩ := hq1
  rw [hIq1, hAq1]
  by_cases gq1 : v < 0 ∨ 11 < v
  · skip
    obtain rfl := haq1 gq1
    show jt _ 8 [(0, .ref m), (1, .int (jI v))] [.int (jI 1)] (gmf m f0 I A) _ _ _
    refine jt_if_eq (t := 15) d_GM_state_8 rfl (by unfold jRi; omega) (fun c2 => ?_) (fun c2 => ?_)
    · skip
      exfalso
      omega
    · skip
      refine jt_iconst d_GM_state_11 ?_
      refine jt_goto (t := 21) d_GM_state_12 rfl ?_
      exact gm_ret d_GM_state_21 rfl rfl (⟨by first | rw [if_pos (by omega)] | rw [if_neg (by omega)], rfl, rfl⟩)
  · skip
    obtain rfl := hbq1 gq1
    show jt _ 8 [(0, .ref m), (1, .int (jI v))] [.int (jI 0)] (gmf m f0 I A) _ _ _
    refine jt_if_eq (t := 15) d_GM_state_8 rfl (by unfold jRi; omega) (fun c3 => ?_) (fun c3 => ?_)
    · skip
      refine jt_aload_n d_GM_state_15 rfl ?_
      refine gm_gA (k := 30) (a := m + 15) d_GM_state_16 GM_f102 (by decide) (by decide) rfl ?_
      refine jt_iload_n d_GM_state_19 rfl ?_
      refine gm_ld0 (k := 30) (n := 12) (v := (A 30) v) d_GM_state_20 rfl (by decide) (by decide) rfl rfl (by omega) (by omega) (by omega) rfl ?_
      exact gm_ret d_GM_state_21 rfl rfl (⟨by first | rw [if_pos (by omega)] | rw [if_neg (by omega)], rfl, rfl⟩)
    · skip
      exfalso
      omega
set_option maxRecDepth 100000 in
set_option maxHeartbeats 4000000 in
theorem c_GM_number (G : jG) (d m : Nat) (v : Int) (I : Nat → Int) (A : Nat → Int → Int)  (hv : jRi v) (hs : ∀ z, 0 ≤ z → z < 12 → 0 ≤ A 30 z ∧ A 30 z ≤ 2) : gct G Y_GM_number (d + 1) m [.int (jI v)] I A (fun rv I2 A2 => rv = some (.long (jL (if v < 0 ∨ 11 < v ∨ A 30 v = 0 then 1000000000000000 else A 31 (v * 13 + 12)))) ∧ I2 = I ∧ A2 = A) := by
  refine gct_of (by decide) (Nat.le_of_ble_eq_true rfl) (fun f0 sz => ?_)
  show jt _ 0 [(0, .ref m), (1, .int (jI v))] [] _ _ _ _
  unfold jRi at hv
  refine jt_aload_n d_GM_number_0 rfl ?_
  refine jt_iload_n d_GM_number_1 rfl ?_
  refine jt_iconst d_GM_number_2 ?_
  refine jt_bipush d_GM_number_3 (by omega) ?_
  refine gct_call (Y := Y_GM_out) (As := [.int (jI v), .int (jI 0), .int (jI 11)]) (rest := []) d_GM_number_5 GM_c152 yk_GM_out yv_GM_out rfl (Nat.le_of_ble_eq_true rfl) rfl rfl (Nat.le_of_ble_eq_true rfl) (c_GM_out G _ m v 0 11 I A (by unfold jRi; omega) (by unfold jRi; omega) (by unfold jRi; omega)) (fun rvq1 Iq1 Aq1 hq1 => ?_)
  obtain ⟨haq1, hbq1, hIq1, hAq1⟩ := hq1
  rw [hIq1, hAq1]
  by_cases gq1 : v < 0 ∨ 11 < v
  · skip
    obtain rfl := haq1 gq1
    show jt _ 8 [(0, .ref m), (1, .int (jI v))] [.int (jI 1)] (gmf m f0 I A) _ _ _
    refine jt_if_ne (t := 20) d_GM_number_8 rfl (by unfold jRi; omega) (fun c2 => ?_) (fun c2 => ?_)
    · skip
      refine jt_ldc2 (z := 1000000000000000) d_GM_number_20 GM_k335 ?_
      refine jt_goto (t := 38) d_GM_number_23 rfl ?_
      exact gm_lret d_GM_number_38 rfl (⟨by first | rw [if_pos (by omega)] | rw [if_neg (by omega)], rfl, rfl⟩)
    · skip
      exfalso
      omega
  · skip
    obtain rfl := hbq1 gq1
    have q := hs v (by omega) (by omega)
    show jt _ 8 [(0, .ref m), (1, .int (jI v))] [.int (jI 0)] (gmf m f0 I A) _ _ _
    refine jt_if_ne (t := 20) d_GM_number_8 rfl (by unfold jRi; omega) (fun c3 => ?_) (fun c3 => ?_)
    · skip
      exfalso
      omega
    · skip
      refine jt_aload_n d_GM_number_11 rfl ?_
      refine gm_gA (k := 30) (a := m + 15) d_GM_number_12 GM_f102 (by decide) (by decide) rfl ?_
      refine jt_iload_n d_GM_number_15 rfl ?_
      refine gm_ld0 (k := 30) (n := 12) (v := (A 30) v) d_GM_number_16 rfl (by decide) (by decide) rfl rfl (by omega) (by omega) (by omega) rfl ?_
      refine jt_if_ne (t := 26) d_GM_number_17 rfl (by unfold jRi; omega) (fun c4 => ?_) (fun c4 => ?_)
      · skip
        refine jt_aload_n d_GM_number_26 rfl ?_
        refine gm_gA (k := 31) (a := m + 16) d_GM_number_27 GM_f105 (by decide) (by decide) rfl ?_
        refine jt_iload_n d_GM_number_30 rfl ?_
        refine jt_bipush d_GM_number_31 (by omega) ?_
        refine jt_imul d_GM_number_33 ?_
        refine jt_bipush d_GM_number_34 (by omega) ?_
        refine jt_iadd d_GM_number_36 ?_
        refine gm_ld1 (k := 31) (n := 156) (v := (A 31) ((v * 13) + 12)) d_GM_number_37 rfl (by decide) (by decide) rfl rfl (by omega) (by omega) (by omega) rfl ?_
        exact gm_lret d_GM_number_38 rfl (⟨by first | rw [if_pos (by omega)] | rw [if_neg (by omega)], rfl, rfl⟩)
      · skip
        refine jt_ldc2 (z := 1000000000000000) d_GM_number_20 GM_k335 ?_
        refine jt_goto (t := 38) d_GM_number_23 rfl ?_
        exact gm_lret d_GM_number_38 rfl (⟨by first | rw [if_pos (by omega)] | rw [if_neg (by omega)], rfl, rfl⟩)
set_option maxRecDepth 100000 in
set_option maxHeartbeats 4000000 in
theorem c_GM_factor (G : jG) (d m : Nat) (v : Int) (w : Int) (I : Nat → Int) (A : Nat → Int → Int)  (hv : jRi v) (hw : jRi w) (hs : ∀ z, 0 ≤ z → z < 12 → 0 ≤ A 30 z ∧ A 30 z ≤ 2) : gct G Y_GM_factor (d + 1) m [.int (jI v), .int (jI w)] I A (fun rv I2 A2 => rv = some (.long (jL (if v < 0 ∨ 11 < v ∨ w < 0 ∨ 11 < w ∨ ¬ A 30 v = 1 then 1000000000000000 else A 31 (v * 13 + w)))) ∧ I2 = I ∧ A2 = A) := by
  refine gct_of (by decide) (Nat.le_of_ble_eq_true rfl) (fun f0 sz => ?_)
  show jt _ 0 [(0, .ref m), (1, .int (jI v)), (2, .int (jI w))] [] _ _ _ _
  unfold jRi at hv hw
  refine jt_aload_n d_GM_factor_0 rfl ?_
  refine jt_iload_n d_GM_factor_1 rfl ?_
  refine jt_iconst d_GM_factor_2 ?_
  refine jt_bipush d_GM_factor_3 (by omega) ?_
  refine gct_call (Y := Y_GM_out) (As := [.int (jI v), .int (jI 0), .int (jI 11)]) (rest := []) d_GM_factor_5 GM_c152 yk_GM_out yv_GM_out rfl (Nat.le_of_ble_eq_true rfl) rfl rfl (Nat.le_of_ble_eq_true rfl) (c_GM_out G _ m v 0 11 I A (by unfold jRi; omega) (by unfold jRi; omega) (by unfold jRi; omega)) (fun rvq1 Iq1 Aq1 hq1 => ?_)
  obtain ⟨haq1, hbq1, hIq1, hAq1⟩ := hq1
  rw [hIq1, hAq1]
  by_cases gq1 : v < 0 ∨ 11 < v
  · skip
    obtain rfl := haq1 gq1
    show jt _ 8 [(0, .ref m), (1, .int (jI v)), (2, .int (jI w))] [.int (jI 1)] (gmf m f0 I A) _ _ _
    refine jt_if_ne (t := 32) d_GM_factor_8 rfl (by unfold jRi; omega) (fun c2 => ?_) (fun c2 => ?_)
    · skip
      refine jt_ldc2 (z := 1000000000000000) d_GM_factor_32 GM_k335 ?_
      refine jt_goto (t := 49) d_GM_factor_35 rfl ?_
      exact gm_lret d_GM_factor_49 rfl (⟨by first | rw [if_pos (by omega)] | rw [if_neg (by omega)], rfl, rfl⟩)
    · skip
      exfalso
      omega
  · skip
    obtain rfl := hbq1 gq1
    have q := hs v (by omega) (by omega)
    show jt _ 8 [(0, .ref m), (1, .int (jI v)), (2, .int (jI w))] [.int (jI 0)] (gmf m f0 I A) _ _ _
    refine jt_if_ne (t := 32) d_GM_factor_8 rfl (by unfold jRi; omega) (fun c3 => ?_) (fun c3 => ?_)
    · skip
      exfalso
      omega
    · skip
      refine jt_aload_n d_GM_factor_11 rfl ?_
      refine jt_iload_n d_GM_factor_12 rfl ?_
      refine jt_iconst d_GM_factor_13 ?_
      refine jt_bipush d_GM_factor_14 (by omega) ?_
      refine gct_call (Y := Y_GM_out) (As := [.int (jI w), .int (jI 0), .int (jI 11)]) (rest := []) d_GM_factor_16 GM_c152 yk_GM_out yv_GM_out rfl (Nat.le_of_ble_eq_true rfl) rfl rfl (Nat.le_of_ble_eq_true rfl) (c_GM_out G _ m w 0 11 I A (by unfold jRi; omega) (by unfold jRi; omega) (by unfold jRi; omega)) (fun rvq4 Iq4 Aq4 hq4 => ?_)
      obtain ⟨haq4, hbq4, hIq4, hAq4⟩ := hq4
      rw [hIq4, hAq4]
      by_cases gq4 : w < 0 ∨ 11 < w
      · skip
        obtain rfl := haq4 gq4
        show jt _ 19 [(0, .ref m), (1, .int (jI v)), (2, .int (jI w))] [.int (jI 1)] (gmf m f0 I A) _ _ _
        refine jt_if_ne (t := 32) d_GM_factor_19 rfl (by unfold jRi; omega) (fun c5 => ?_) (fun c5 => ?_)
        · skip
          refine jt_ldc2 (z := 1000000000000000) d_GM_factor_32 GM_k335 ?_
          refine jt_goto (t := 49) d_GM_factor_35 rfl ?_
          exact gm_lret d_GM_factor_49 rfl (⟨by first | rw [if_pos (by omega)] | rw [if_neg (by omega)], rfl, rfl⟩)
        · skip
          exfalso
          omega
      · skip
        obtain rfl := hbq4 gq4
        show jt _ 19 [(0, .ref m), (1, .int (jI v)), (2, .int (jI w))] [.int (jI 0)] (gmf m f0 I A) _ _ _
        refine jt_if_ne (t := 32) d_GM_factor_19 rfl (by unfold jRi; omega) (fun c6 => ?_) (fun c6 => ?_)
        · skip
          exfalso
          omega
        · skip
          refine jt_aload_n d_GM_factor_22 rfl ?_
          refine gm_gA (k := 30) (a := m + 15) d_GM_factor_23 GM_f102 (by decide) (by decide) rfl ?_
          refine jt_iload_n d_GM_factor_26 rfl ?_
          refine gm_ld0 (k := 30) (n := 12) (v := (A 30) v) d_GM_factor_27 rfl (by decide) (by decide) rfl rfl (by omega) (by omega) (by omega) rfl ?_
          refine jt_iconst d_GM_factor_28 ?_
          refine jt_icmp_eq (t := 38) d_GM_factor_29 rfl (by unfold jRi; omega) (by unfold jRi; omega) (fun c7 => ?_) (fun c7 => ?_)
          · skip
            refine jt_aload_n d_GM_factor_38 rfl ?_
            refine gm_gA (k := 31) (a := m + 16) d_GM_factor_39 GM_f105 (by decide) (by decide) rfl ?_
            refine jt_iload_n d_GM_factor_42 rfl ?_
            refine jt_bipush d_GM_factor_43 (by omega) ?_
            refine jt_imul d_GM_factor_45 ?_
            refine jt_iload_n d_GM_factor_46 rfl ?_
            refine jt_iadd d_GM_factor_47 ?_
            refine gm_ld1 (k := 31) (n := 156) (v := (A 31) ((v * 13) + w)) d_GM_factor_48 rfl (by decide) (by decide) rfl rfl (by omega) (by omega) (by omega) rfl ?_
            exact gm_lret d_GM_factor_49 rfl (⟨by first | rw [if_pos (by omega)] | rw [if_neg (by omega)], rfl, rfl⟩)
          · skip
            refine jt_ldc2 (z := 1000000000000000) d_GM_factor_32 GM_k335 ?_
            refine jt_goto (t := 49) d_GM_factor_35 rfl ?_
            exact gm_lret d_GM_factor_49 rfl (⟨by first | rw [if_pos (by omega)] | rw [if_neg (by omega)], rfl, rfl⟩)
set_option maxRecDepth 100000 in
set_option maxHeartbeats 4000000 in
theorem c_GM_black (G : jG) (d m : Nat) (i : Int) (j : Int) (I : Nat → Int) (A : Nat → Int → Int)  (hi : jRi i) (hj : jRi j) (hs : ∀ z, 0 ≤ z → z < 768 → A 45 z = 0 ∨ A 45 z = 1) : gct G Y_GM_black (d + 1) m [.int (jI i), .int (jI j)] I A (fun rv I2 A2 => rv = some (.int (jI (if i < 0 ∨ 31 < i ∨ j < 0 ∨ 23 < j then 0 else A 45 (j * 32 + i)))) ∧ I2 = I ∧ A2 = A) := by
  refine gct_of (by decide) (Nat.le_of_ble_eq_true rfl) (fun f0 sz => ?_)
  show jt _ 0 [(0, .ref m), (1, .int (jI i)), (2, .int (jI j))] [] _ _ _ _
  unfold jRi at hi hj
  refine jt_aload_n d_GM_black_0 rfl ?_
  refine jt_iload_n d_GM_black_1 rfl ?_
  refine jt_iconst d_GM_black_2 ?_
  refine jt_bipush d_GM_black_3 (by omega) ?_
  refine gct_call (Y := Y_GM_out) (As := [.int (jI i), .int (jI 0), .int (jI 31)]) (rest := []) d_GM_black_5 GM_c152 yk_GM_out yv_GM_out rfl (Nat.le_of_ble_eq_true rfl) rfl rfl (Nat.le_of_ble_eq_true rfl) (c_GM_out G _ m i 0 31 I A (by unfold jRi; omega) (by unfold jRi; omega) (by unfold jRi; omega)) (fun rvq1 Iq1 Aq1 hq1 => ?_)
  obtain ⟨haq1, hbq1, hIq1, hAq1⟩ := hq1
  rw [hIq1, hAq1]
  by_cases gq1 : i < 0 ∨ 31 < i
  · skip
    obtain rfl := haq1 gq1
    show jt _ 8 [(0, .ref m), (1, .int (jI i)), (2, .int (jI j))] [.int (jI 1)] (gmf m f0 I A) _ _ _
    refine jt_if_ne (t := 40) d_GM_black_8 rfl (by unfold jRi; omega) (fun c2 => ?_) (fun c2 => ?_)
    · skip
      refine jt_iconst d_GM_black_40 ?_
      exact gm_ret d_GM_black_41 rfl (jnz (by omega)) (⟨by first | rw [if_pos (by omega)] | (rw [if_neg (by omega)]; congr 3; omega), rfl, rfl⟩)
    · skip
      exfalso
      omega
  · skip
    obtain rfl := hbq1 gq1
    show jt _ 8 [(0, .ref m), (1, .int (jI i)), (2, .int (jI j))] [.int (jI 0)] (gmf m f0 I A) _ _ _
    refine jt_if_ne (t := 40) d_GM_black_8 rfl (by unfold jRi; omega) (fun c3 => ?_) (fun c3 => ?_)
    · skip
      exfalso
      omega
    · skip
      refine jt_aload_n d_GM_black_11 rfl ?_
      refine jt_iload_n d_GM_black_12 rfl ?_
      refine jt_iconst d_GM_black_13 ?_
      refine jt_bipush d_GM_black_14 (by omega) ?_
      refine gct_call (Y := Y_GM_out) (As := [.int (jI j), .int (jI 0), .int (jI 23)]) (rest := []) d_GM_black_16 GM_c152 yk_GM_out yv_GM_out rfl (Nat.le_of_ble_eq_true rfl) rfl rfl (Nat.le_of_ble_eq_true rfl) (c_GM_out G _ m j 0 23 I A (by unfold jRi; omega) (by unfold jRi; omega) (by unfold jRi; omega)) (fun rvq4 Iq4 Aq4 hq4 => ?_)
      obtain ⟨haq4, hbq4, hIq4, hAq4⟩ := hq4
      rw [hIq4, hAq4]
      by_cases gq4 : j < 0 ∨ 23 < j
      · skip
        obtain rfl := haq4 gq4
        show jt _ 19 [(0, .ref m), (1, .int (jI i)), (2, .int (jI j))] [.int (jI 1)] (gmf m f0 I A) _ _ _
        refine jt_if_ne (t := 40) d_GM_black_19 rfl (by unfold jRi; omega) (fun c5 => ?_) (fun c5 => ?_)
        · skip
          refine jt_iconst d_GM_black_40 ?_
          exact gm_ret d_GM_black_41 rfl (jnz (by omega)) (⟨by first | rw [if_pos (by omega)] | (rw [if_neg (by omega)]; congr 3; omega), rfl, rfl⟩)
        · skip
          exfalso
          omega
      · skip
        obtain rfl := hbq4 gq4
        have q := hs (j * 32 + i) (by omega) (by omega)
        show jt _ 19 [(0, .ref m), (1, .int (jI i)), (2, .int (jI j))] [.int (jI 0)] (gmf m f0 I A) _ _ _
        refine jt_if_ne (t := 40) d_GM_black_19 rfl (by unfold jRi; omega) (fun c6 => ?_) (fun c6 => ?_)
        · skip
          exfalso
          omega
        · skip
          refine jt_aload_n d_GM_black_22 rfl ?_
          refine gm_gA (k := 45) (a := m + 30) d_GM_black_23 GM_f148 (by decide) (by decide) rfl ?_
          refine jt_iload_n d_GM_black_26 rfl ?_
          refine jt_bipush d_GM_black_27 (by omega) ?_
          refine jt_imul d_GM_black_29 ?_
          refine jt_iload_n d_GM_black_30 rfl ?_
          refine jt_iadd d_GM_black_31 ?_
          refine gm_ld2 (k := 45) (n := 768) (v := (A 45) ((j * 32) + i)) d_GM_black_32 rfl (by decide) (by decide) rfl rfl (by omega) (by omega) (by omega) rfl ?_
          refine jt_if_eq (t := 40) d_GM_black_33 rfl (by unfold jRi; omega) (fun c7 => ?_) (fun c7 => ?_)
          · skip
            refine jt_iconst d_GM_black_40 ?_
            exact gm_ret d_GM_black_41 rfl (jnz (by omega)) (⟨by first | rw [if_pos (by omega)] | (rw [if_neg (by omega)]; congr 3; omega), rfl, rfl⟩)
          · skip
            refine jt_iconst d_GM_black_36 ?_
            refine jt_goto (t := 41) d_GM_black_37 rfl ?_
            exact gm_ret d_GM_black_41 rfl (jnz (by omega)) (⟨by first | rw [if_pos (by omega)] | (rw [if_neg (by omega)]; congr 3; omega), rfl, rfl⟩)
set_option maxRecDepth 100000 in
set_option maxHeartbeats 4000000 in
theorem c_GM_feed (G : jG) (d m : Nat) (k : Int) (v : Int) (I : Nat → Int) (A : Nat → Int → Int)  (hk : jRi k) (hv : jRi v) (s0 : 0 ≤ I 0) (s1 : I 0 ≤ 120) : gct G Y_GM_feed (d + 1) m [.int (jI k), .int (jI v)] I A (fun rv I2 A2 => (¬ gtok k v → rv = some (.int (jI (-1))) ∧ I2 = I ∧ A2 = A) ∧ (gtok k v → I 0 = 120 → rv = some (.int (jI (-2))) ∧ I2 = I ∧ A2 = A) ∧ (gtok k v → ¬ I 0 = 120 → rv = some (.int (jI (I 0 + 1))) ∧ I2 = va_up I 0 (I 0 + 1) ∧ A2 = va_up (va_up A 16 (ju (A 16) (I 0) k)) 17 (ju (A 17) (I 0) v))) := by
  refine gct_of (by decide) (Nat.le_of_ble_eq_true rfl) (fun f0 sz => ?_)
  show jt _ 0 [(0, .ref m), (1, .int (jI k)), (2, .int (jI v))] [] _ _ _ _
  unfold jRi at hk hv
  refine jt_aload_n d_GM_feed_0 rfl ?_
  refine jt_iload_n d_GM_feed_1 rfl ?_
  refine jt_iconst d_GM_feed_2 ?_
  refine jt_iconst d_GM_feed_3 ?_
  refine gct_call (Y := Y_GM_out) (As := [.int (jI k), .int (jI 0), .int (jI 4)]) (rest := []) d_GM_feed_4 GM_c152 yk_GM_out yv_GM_out rfl (Nat.le_of_ble_eq_true rfl) rfl rfl (Nat.le_of_ble_eq_true rfl) (c_GM_out G _ m k 0 4 I A (by unfold jRi; omega) (by unfold jRi; omega) (by unfold jRi; omega)) (fun rvq1 Iq1 Aq1 hq1 => ?_)
  obtain ⟨haq1, hbq1, hIq1, hAq1⟩ := hq1
  rw [hIq1, hAq1]
  by_cases gq1 : k < 0 ∨ 4 < k
  · skip
    obtain rfl := haq1 gq1
    show jt _ 7 [(0, .ref m), (1, .int (jI k)), (2, .int (jI v))] [.int (jI 1)] (gmf m f0 I A) _ _ _
    refine jt_if_ne (t := 59) d_GM_feed_7 rfl (by unfold jRi; omega) (fun c2 => ?_) (fun c2 => ?_)
    · skip
      refine jt_iconst d_GM_feed_59 ?_
      exact gm_ret d_GM_feed_60 rfl rfl (⟨fun z => by unfold gtok at z; first | exact ⟨rfl, rfl, rfl⟩ | (exfalso; omega), fun z y => by unfold gtok at z; first | exact ⟨rfl, rfl, rfl⟩ | (exfalso; omega), fun z y => by unfold gtok at z; first | exact ⟨by rw [], by rw [], rfl⟩ | (exfalso; omega)⟩)
    · skip
      exfalso
      omega
  · skip
    obtain rfl := hbq1 gq1
    show jt _ 7 [(0, .ref m), (1, .int (jI k)), (2, .int (jI v))] [.int (jI 0)] (gmf m f0 I A) _ _ _
    refine jt_if_ne (t := 59) d_GM_feed_7 rfl (by unfold jRi; omega) (fun c3 => ?_) (fun c3 => ?_)
    · skip
      exfalso
      omega
    · skip
      refine jt_iload_n d_GM_feed_10 rfl ?_
      refine jt_if_ne (t := 28) d_GM_feed_11 rfl (by unfold jRi; omega) (fun c4 => ?_) (fun c4 => ?_)
      · skip
        refine jt_iload_n d_GM_feed_28 rfl ?_
        refine jt_iconst d_GM_feed_29 ?_
        refine jt_icmp_ne (t := 44) d_GM_feed_30 rfl (by unfold jRi; omega) (by unfold jRi; omega) (fun c5 => ?_) (fun c5 => ?_)
        · skip
          refine jt_iload_n d_GM_feed_44 rfl ?_
          refine jt_iconst d_GM_feed_45 ?_
          refine jt_icmp_ne (t := 61) d_GM_feed_46 rfl (by unfold jRi; omega) (by unfold jRi; omega) (fun c6 => ?_) (fun c6 => ?_)
          · skip
            refine jt_iload_n d_GM_feed_61 rfl ?_
            refine jt_iconst d_GM_feed_62 ?_
            refine jt_icmp_ne (t := 76) d_GM_feed_63 rfl (by unfold jRi; omega) (by unfold jRi; omega) (fun c7 => ?_) (fun c7 => ?_)
            · skip
              refine jt_iload_n d_GM_feed_76 rfl ?_
              refine jt_iconst d_GM_feed_77 ?_
              refine jt_icmp_ne (t := 94) d_GM_feed_78 rfl (by unfold jRi; omega) (by unfold jRi; omega) (fun c8 => ?_) (fun c8 => ?_)
              · skip
                refine jt_aload_n d_GM_feed_94 rfl ?_
                refine gm_gI (k := 0) (v := I 0) d_GM_feed_95 GM_f7 (by decide) rfl ?_
                refine jt_bipush d_GM_feed_98 (by omega) ?_
                refine jt_icmp_ne (t := 106) d_GM_feed_100 rfl (by unfold jRi; omega) (by unfold jRi; omega) (fun c9 => ?_) (fun c9 => ?_)
                · skip
                  refine jt_aload_n d_GM_feed_106 rfl ?_
                  refine gm_gA (k := 16) (a := m + 1) d_GM_feed_107 GM_f59 (by decide) (by decide) rfl ?_
                  refine jt_aload_n d_GM_feed_110 rfl ?_
                  refine gm_gI (k := 0) (v := I 0) d_GM_feed_111 GM_f7 (by decide) rfl ?_
                  refine jt_iload_n d_GM_feed_114 rfl ?_
                  refine gm_st0 (k := 16) (n := 120) (B := va_up A 16 (ju (A 16) (I 0) k)) d_GM_feed_115 rfl (by decide) (by decide) rfl rfl (by omega) (by omega) (by omega) rfl ?_
                  refine jt_aload_n d_GM_feed_116 rfl ?_
                  refine gm_gA (k := 17) (a := m + 2) d_GM_feed_117 GM_f63 (by decide) (by decide) rfl ?_
                  refine jt_aload_n d_GM_feed_120 rfl ?_
                  refine gm_gI (k := 0) (v := I 0) d_GM_feed_121 GM_f7 (by decide) rfl ?_
                  refine jt_iload_n d_GM_feed_124 rfl ?_
                  refine gm_st0 (k := 17) (n := 120) (B := va_up (va_up A 16 (ju (A 16) (I 0) k)) 17 (ju (A 17) (I 0) v)) d_GM_feed_125 rfl (by decide) (by decide) rfl rfl (by omega) (by omega) (by omega) rfl ?_
                  refine jt_aload_n d_GM_feed_126 rfl ?_
                  refine jt_dup d_GM_feed_127 rfl ?_
                  refine gm_gI (k := 0) (v := I 0) d_GM_feed_128 GM_f7 (by decide) rfl ?_
                  refine jt_iconst d_GM_feed_131 ?_
                  refine jt_iadd d_GM_feed_132 ?_
                  refine jt_topi (fun v10 ev10 => ?_)
                  refine gm_pI (k := 0) (v := v10) (J := va_up I 0 v10) d_GM_feed_133 (GM_w7 _ rfl) (by decide) rfl rfl rfl ?_
                  refine jt_aload_n d_GM_feed_136 rfl ?_
                  refine gm_gI (k := 0) (v := v10) d_GM_feed_137 GM_f7 (by decide) rfl ?_
                  exact gm_ret d_GM_feed_140 rfl rfl (⟨fun z => by unfold gtok at z; first | exact ⟨rfl, rfl, rfl⟩ | (exfalso; omega), fun z y => by unfold gtok at z; first | exact ⟨rfl, rfl, rfl⟩ | (exfalso; omega), fun z y => by unfold gtok at z; first | exact ⟨by rw [ev10], by rw [ev10], rfl⟩ | (exfalso; omega)⟩)
                · skip
                  refine jt_bipush d_GM_feed_103 (by omega) ?_
                  exact gm_ret d_GM_feed_105 rfl rfl (⟨fun z => by unfold gtok at z; first | exact ⟨rfl, rfl, rfl⟩ | (exfalso; omega), fun z y => by unfold gtok at z; first | exact ⟨rfl, rfl, rfl⟩ | (exfalso; omega), fun z y => by unfold gtok at z; first | exact ⟨by rw [], by rw [], rfl⟩ | (exfalso; omega)⟩)
              · skip
                refine jt_aload_n d_GM_feed_81 rfl ?_
                refine jt_iload_n d_GM_feed_82 rfl ?_
                refine jt_iconst d_GM_feed_83 ?_
                refine jt_bipush d_GM_feed_84 (by omega) ?_
                refine gct_call (Y := Y_GM_out) (As := [.int (jI v), .int (jI 0), .int (jI 13)]) (rest := []) d_GM_feed_86 GM_c152 yk_GM_out yv_GM_out rfl (Nat.le_of_ble_eq_true rfl) rfl rfl (Nat.le_of_ble_eq_true rfl) (c_GM_out G _ m v 0 13 I A (by unfold jRi; omega) (by unfold jRi; omega) (by unfold jRi; omega)) (fun rvq11 Iq11 Aq11 hq11 => ?_)
                obtain ⟨haq11, hbq11, hIq11, hAq11⟩ := hq11
                rw [hIq11, hAq11]
                by_cases gq11 : v < 0 ∨ 13 < v
                · skip
                  obtain rfl := haq11 gq11
                  show jt _ 89 [(0, .ref m), (1, .int (jI k)), (2, .int (jI v))] [.int (jI 1)] (gmf m f0 I A) _ _ _
                  refine jt_if_eq (t := 94) d_GM_feed_89 rfl (by unfold jRi; omega) (fun c12 => ?_) (fun c12 => ?_)
                  · skip
                    exfalso
                    omega
                  · skip
                    refine jt_iconst d_GM_feed_92 ?_
                    exact gm_ret d_GM_feed_93 rfl rfl (⟨fun z => by unfold gtok at z; first | exact ⟨rfl, rfl, rfl⟩ | (exfalso; omega), fun z y => by unfold gtok at z; first | exact ⟨rfl, rfl, rfl⟩ | (exfalso; omega), fun z y => by unfold gtok at z; first | exact ⟨by rw [], by rw [], rfl⟩ | (exfalso; omega)⟩)
                · skip
                  obtain rfl := hbq11 gq11
                  show jt _ 89 [(0, .ref m), (1, .int (jI k)), (2, .int (jI v))] [.int (jI 0)] (gmf m f0 I A) _ _ _
                  refine jt_if_eq (t := 94) d_GM_feed_89 rfl (by unfold jRi; omega) (fun c13 => ?_) (fun c13 => ?_)
                  · skip
                    refine jt_aload_n d_GM_feed_94 rfl ?_
                    refine gm_gI (k := 0) (v := I 0) d_GM_feed_95 GM_f7 (by decide) rfl ?_
                    refine jt_bipush d_GM_feed_98 (by omega) ?_
                    refine jt_icmp_ne (t := 106) d_GM_feed_100 rfl (by unfold jRi; omega) (by unfold jRi; omega) (fun c14 => ?_) (fun c14 => ?_)
                    · skip
                      refine jt_aload_n d_GM_feed_106 rfl ?_
                      refine gm_gA (k := 16) (a := m + 1) d_GM_feed_107 GM_f59 (by decide) (by decide) rfl ?_
                      refine jt_aload_n d_GM_feed_110 rfl ?_
                      refine gm_gI (k := 0) (v := I 0) d_GM_feed_111 GM_f7 (by decide) rfl ?_
                      refine jt_iload_n d_GM_feed_114 rfl ?_
                      refine gm_st0 (k := 16) (n := 120) (B := va_up A 16 (ju (A 16) (I 0) k)) d_GM_feed_115 rfl (by decide) (by decide) rfl rfl (by omega) (by omega) (by omega) rfl ?_
                      refine jt_aload_n d_GM_feed_116 rfl ?_
                      refine gm_gA (k := 17) (a := m + 2) d_GM_feed_117 GM_f63 (by decide) (by decide) rfl ?_
                      refine jt_aload_n d_GM_feed_120 rfl ?_
                      refine gm_gI (k := 0) (v := I 0) d_GM_feed_121 GM_f7 (by decide) rfl ?_
                      refine jt_iload_n d_GM_feed_124 rfl ?_
                      refine gm_st0 (k := 17) (n := 120) (B := va_up (va_up A 16 (ju (A 16) (I 0) k)) 17 (ju (A 17) (I 0) v)) d_GM_feed_125 rfl (by decide) (by decide) rfl rfl (by omega) (by omega) (by omega) rfl ?_
                      refine jt_aload_n d_GM_feed_126 rfl ?_
                      refine jt_dup d_GM_feed_127 rfl ?_
                      refine gm_gI (k := 0) (v := I 0) d_GM_feed_128 GM_f7 (by decide) rfl ?_
                      refine jt_iconst d_GM_feed_131 ?_
                      refine jt_iadd d_GM_feed_132 ?_
                      refine jt_topi (fun v15 ev15 => ?_)
                      refine gm_pI (k := 0) (v := v15) (J := va_up I 0 v15) d_GM_feed_133 (GM_w7 _ rfl) (by decide) rfl rfl rfl ?_
                      refine jt_aload_n d_GM_feed_136 rfl ?_
                      refine gm_gI (k := 0) (v := v15) d_GM_feed_137 GM_f7 (by decide) rfl ?_
                      exact gm_ret d_GM_feed_140 rfl rfl (⟨fun z => by unfold gtok at z; first | exact ⟨rfl, rfl, rfl⟩ | (exfalso; omega), fun z y => by unfold gtok at z; first | exact ⟨rfl, rfl, rfl⟩ | (exfalso; omega), fun z y => by unfold gtok at z; first | exact ⟨by rw [ev15], by rw [ev15], rfl⟩ | (exfalso; omega)⟩)
                    · skip
                      refine jt_bipush d_GM_feed_103 (by omega) ?_
                      exact gm_ret d_GM_feed_105 rfl rfl (⟨fun z => by unfold gtok at z; first | exact ⟨rfl, rfl, rfl⟩ | (exfalso; omega), fun z y => by unfold gtok at z; first | exact ⟨rfl, rfl, rfl⟩ | (exfalso; omega), fun z y => by unfold gtok at z; first | exact ⟨by rw [], by rw [], rfl⟩ | (exfalso; omega)⟩)
                  · skip
                    exfalso
                    omega
            · skip
              refine jt_aload_n d_GM_feed_66 rfl ?_
              refine jt_iload_n d_GM_feed_67 rfl ?_
              refine jt_iconst d_GM_feed_68 ?_
              refine jt_iconst d_GM_feed_69 ?_
              refine gct_call (Y := Y_GM_out) (As := [.int (jI v), .int (jI 0), .int (jI 5)]) (rest := []) d_GM_feed_70 GM_c152 yk_GM_out yv_GM_out rfl (Nat.le_of_ble_eq_true rfl) rfl rfl (Nat.le_of_ble_eq_true rfl) (c_GM_out G _ m v 0 5 I A (by unfold jRi; omega) (by unfold jRi; omega) (by unfold jRi; omega)) (fun rvq16 Iq16 Aq16 hq16 => ?_)
              obtain ⟨haq16, hbq16, hIq16, hAq16⟩ := hq16
              rw [hIq16, hAq16]
              by_cases gq16 : v < 0 ∨ 5 < v
              · skip
                obtain rfl := haq16 gq16
                show jt _ 73 [(0, .ref m), (1, .int (jI k)), (2, .int (jI v))] [.int (jI 1)] (gmf m f0 I A) _ _ _
                refine jt_if_ne (t := 92) d_GM_feed_73 rfl (by unfold jRi; omega) (fun c17 => ?_) (fun c17 => ?_)
                · skip
                  refine jt_iconst d_GM_feed_92 ?_
                  exact gm_ret d_GM_feed_93 rfl rfl (⟨fun z => by unfold gtok at z; first | exact ⟨rfl, rfl, rfl⟩ | (exfalso; omega), fun z y => by unfold gtok at z; first | exact ⟨rfl, rfl, rfl⟩ | (exfalso; omega), fun z y => by unfold gtok at z; first | exact ⟨by rw [], by rw [], rfl⟩ | (exfalso; omega)⟩)
                · skip
                  exfalso
                  omega
              · skip
                obtain rfl := hbq16 gq16
                show jt _ 73 [(0, .ref m), (1, .int (jI k)), (2, .int (jI v))] [.int (jI 0)] (gmf m f0 I A) _ _ _
                refine jt_if_ne (t := 92) d_GM_feed_73 rfl (by unfold jRi; omega) (fun c18 => ?_) (fun c18 => ?_)
                · skip
                  exfalso
                  omega
                · skip
                  refine jt_iload_n d_GM_feed_76 rfl ?_
                  refine jt_iconst d_GM_feed_77 ?_
                  refine jt_icmp_ne (t := 94) d_GM_feed_78 rfl (by unfold jRi; omega) (by unfold jRi; omega) (fun c19 => ?_) (fun c19 => ?_)
                  · skip
                    refine jt_aload_n d_GM_feed_94 rfl ?_
                    refine gm_gI (k := 0) (v := I 0) d_GM_feed_95 GM_f7 (by decide) rfl ?_
                    refine jt_bipush d_GM_feed_98 (by omega) ?_
                    refine jt_icmp_ne (t := 106) d_GM_feed_100 rfl (by unfold jRi; omega) (by unfold jRi; omega) (fun c20 => ?_) (fun c20 => ?_)
                    · skip
                      refine jt_aload_n d_GM_feed_106 rfl ?_
                      refine gm_gA (k := 16) (a := m + 1) d_GM_feed_107 GM_f59 (by decide) (by decide) rfl ?_
                      refine jt_aload_n d_GM_feed_110 rfl ?_
                      refine gm_gI (k := 0) (v := I 0) d_GM_feed_111 GM_f7 (by decide) rfl ?_
                      refine jt_iload_n d_GM_feed_114 rfl ?_
                      refine gm_st0 (k := 16) (n := 120) (B := va_up A 16 (ju (A 16) (I 0) k)) d_GM_feed_115 rfl (by decide) (by decide) rfl rfl (by omega) (by omega) (by omega) rfl ?_
                      refine jt_aload_n d_GM_feed_116 rfl ?_
                      refine gm_gA (k := 17) (a := m + 2) d_GM_feed_117 GM_f63 (by decide) (by decide) rfl ?_
                      refine jt_aload_n d_GM_feed_120 rfl ?_
                      refine gm_gI (k := 0) (v := I 0) d_GM_feed_121 GM_f7 (by decide) rfl ?_
                      refine jt_iload_n d_GM_feed_124 rfl ?_
                      refine gm_st0 (k := 17) (n := 120) (B := va_up (va_up A 16 (ju (A 16) (I 0) k)) 17 (ju (A 17) (I 0) v)) d_GM_feed_125 rfl (by decide) (by decide) rfl rfl (by omega) (by omega) (by omega) rfl ?_
                      refine jt_aload_n d_GM_feed_126 rfl ?_
                      refine jt_dup d_GM_feed_127 rfl ?_
                      refine gm_gI (k := 0) (v := I 0) d_GM_feed_128 GM_f7 (by decide) rfl ?_
                      refine jt_iconst d_GM_feed_131 ?_
                      refine jt_iadd d_GM_feed_132 ?_
                      refine jt_topi (fun v21 ev21 => ?_)
                      refine gm_pI (k := 0) (v := v21) (J := va_up I 0 v21) d_GM_feed_133 (GM_w7 _ rfl) (by decide) rfl rfl rfl ?_
                      refine jt_aload_n d_GM_feed_136 rfl ?_
                      refine gm_gI (k := 0) (v := v21) d_GM_feed_137 GM_f7 (by decide) rfl ?_
                      exact gm_ret d_GM_feed_140 rfl rfl (⟨fun z => by unfold gtok at z; first | exact ⟨rfl, rfl, rfl⟩ | (exfalso; omega), fun z y => by unfold gtok at z; first | exact ⟨rfl, rfl, rfl⟩ | (exfalso; omega), fun z y => by unfold gtok at z; first | exact ⟨by rw [ev21], by rw [ev21], rfl⟩ | (exfalso; omega)⟩)
                    · skip
                      refine jt_bipush d_GM_feed_103 (by omega) ?_
                      exact gm_ret d_GM_feed_105 rfl rfl (⟨fun z => by unfold gtok at z; first | exact ⟨rfl, rfl, rfl⟩ | (exfalso; omega), fun z y => by unfold gtok at z; first | exact ⟨rfl, rfl, rfl⟩ | (exfalso; omega), fun z y => by unfold gtok at z; first | exact ⟨by rw [], by rw [], rfl⟩ | (exfalso; omega)⟩)
                  · skip
                    refine jt_aload_n d_GM_feed_81 rfl ?_
                    refine jt_iload_n d_GM_feed_82 rfl ?_
                    refine jt_iconst d_GM_feed_83 ?_
                    refine jt_bipush d_GM_feed_84 (by omega) ?_
                    refine gct_call (Y := Y_GM_out) (As := [.int (jI v), .int (jI 0), .int (jI 13)]) (rest := []) d_GM_feed_86 GM_c152 yk_GM_out yv_GM_out rfl (Nat.le_of_ble_eq_true rfl) rfl rfl (Nat.le_of_ble_eq_true rfl) (c_GM_out G _ m v 0 13 I A (by unfold jRi; omega) (by unfold jRi; omega) (by unfold jRi; omega)) (fun rvq22 Iq22 Aq22 hq22 => ?_)
                    obtain ⟨haq22, hbq22, hIq22, hAq22⟩ := hq22
                    rw [hIq22, hAq22]
                    by_cases gq22 : v < 0 ∨ 13 < v
                    · skip
                      obtain rfl := haq22 gq22
                      show jt _ 89 [(0, .ref m), (1, .int (jI k)), (2, .int (jI v))] [.int (jI 1)] (gmf m f0 I A) _ _ _
                      refine jt_if_eq (t := 94) d_GM_feed_89 rfl (by unfold jRi; omega) (fun c23 => ?_) (fun c23 => ?_)
                      · skip
                        exfalso
                        omega
                      · skip
                        refine jt_iconst d_GM_feed_92 ?_
                        exact gm_ret d_GM_feed_93 rfl rfl (⟨fun z => by unfold gtok at z; first | exact ⟨rfl, rfl, rfl⟩ | (exfalso; omega), fun z y => by unfold gtok at z; first | exact ⟨rfl, rfl, rfl⟩ | (exfalso; omega), fun z y => by unfold gtok at z; first | exact ⟨by rw [], by rw [], rfl⟩ | (exfalso; omega)⟩)
                    · skip
                      obtain rfl := hbq22 gq22
                      show jt _ 89 [(0, .ref m), (1, .int (jI k)), (2, .int (jI v))] [.int (jI 0)] (gmf m f0 I A) _ _ _
                      refine jt_if_eq (t := 94) d_GM_feed_89 rfl (by unfold jRi; omega) (fun c24 => ?_) (fun c24 => ?_)
                      · skip
                        refine jt_aload_n d_GM_feed_94 rfl ?_
                        refine gm_gI (k := 0) (v := I 0) d_GM_feed_95 GM_f7 (by decide) rfl ?_
                        refine jt_bipush d_GM_feed_98 (by omega) ?_
                        refine jt_icmp_ne (t := 106) d_GM_feed_100 rfl (by unfold jRi; omega) (by unfold jRi; omega) (fun c25 => ?_) (fun c25 => ?_)
                        · skip
                          refine jt_aload_n d_GM_feed_106 rfl ?_
                          refine gm_gA (k := 16) (a := m + 1) d_GM_feed_107 GM_f59 (by decide) (by decide) rfl ?_
                          refine jt_aload_n d_GM_feed_110 rfl ?_
                          refine gm_gI (k := 0) (v := I 0) d_GM_feed_111 GM_f7 (by decide) rfl ?_
                          refine jt_iload_n d_GM_feed_114 rfl ?_
                          refine gm_st0 (k := 16) (n := 120) (B := va_up A 16 (ju (A 16) (I 0) k)) d_GM_feed_115 rfl (by decide) (by decide) rfl rfl (by omega) (by omega) (by omega) rfl ?_
                          refine jt_aload_n d_GM_feed_116 rfl ?_
                          refine gm_gA (k := 17) (a := m + 2) d_GM_feed_117 GM_f63 (by decide) (by decide) rfl ?_
                          refine jt_aload_n d_GM_feed_120 rfl ?_
                          refine gm_gI (k := 0) (v := I 0) d_GM_feed_121 GM_f7 (by decide) rfl ?_
                          refine jt_iload_n d_GM_feed_124 rfl ?_
                          refine gm_st0 (k := 17) (n := 120) (B := va_up (va_up A 16 (ju (A 16) (I 0) k)) 17 (ju (A 17) (I 0) v)) d_GM_feed_125 rfl (by decide) (by decide) rfl rfl (by omega) (by omega) (by omega) rfl ?_
                          refine jt_aload_n d_GM_feed_126 rfl ?_
                          refine jt_dup d_GM_feed_127 rfl ?_
                          refine gm_gI (k := 0) (v := I 0) d_GM_feed_128 GM_f7 (by decide) rfl ?_
                          refine jt_iconst d_GM_feed_131 ?_
                          refine jt_iadd d_GM_feed_132 ?_
                          refine jt_topi (fun v26 ev26 => ?_)
                          refine gm_pI (k := 0) (v := v26) (J := va_up I 0 v26) d_GM_feed_133 (GM_w7 _ rfl) (by decide) rfl rfl rfl ?_
                          refine jt_aload_n d_GM_feed_136 rfl ?_
                          refine gm_gI (k := 0) (v := v26) d_GM_feed_137 GM_f7 (by decide) rfl ?_
                          exact gm_ret d_GM_feed_140 rfl rfl (⟨fun z => by unfold gtok at z; first | exact ⟨rfl, rfl, rfl⟩ | (exfalso; omega), fun z y => by unfold gtok at z; first | exact ⟨rfl, rfl, rfl⟩ | (exfalso; omega), fun z y => by unfold gtok at z; first | exact ⟨by rw [ev26], by rw [ev26], rfl⟩ | (exfalso; omega)⟩)
                        · skip
                          refine jt_bipush d_GM_feed_103 (by omega) ?_
                          exact gm_ret d_GM_feed_105 rfl rfl (⟨fun z => by unfold gtok at z; first | exact ⟨rfl, rfl, rfl⟩ | (exfalso; omega), fun z y => by unfold gtok at z; first | exact ⟨rfl, rfl, rfl⟩ | (exfalso; omega), fun z y => by unfold gtok at z; first | exact ⟨by rw [], by rw [], rfl⟩ | (exfalso; omega)⟩)
                      · skip
                        exfalso
                        omega
          · skip
            refine jt_aload_n d_GM_feed_49 rfl ?_
            refine jt_iload_n d_GM_feed_50 rfl ?_
            refine jt_iconst d_GM_feed_51 ?_
            refine jt_iconst d_GM_feed_52 ?_
            refine gct_call (Y := Y_GM_out) (As := [.int (jI v), .int (jI 0), .int (jI 2)]) (rest := []) d_GM_feed_53 GM_c152 yk_GM_out yv_GM_out rfl (Nat.le_of_ble_eq_true rfl) rfl rfl (Nat.le_of_ble_eq_true rfl) (c_GM_out G _ m v 0 2 I A (by unfold jRi; omega) (by unfold jRi; omega) (by unfold jRi; omega)) (fun rvq27 Iq27 Aq27 hq27 => ?_)
            obtain ⟨haq27, hbq27, hIq27, hAq27⟩ := hq27
            rw [hIq27, hAq27]
            by_cases gq27 : v < 0 ∨ 2 < v
            · skip
              obtain rfl := haq27 gq27
              show jt _ 56 [(0, .ref m), (1, .int (jI k)), (2, .int (jI v))] [.int (jI 1)] (gmf m f0 I A) _ _ _
              refine jt_if_eq (t := 61) d_GM_feed_56 rfl (by unfold jRi; omega) (fun c28 => ?_) (fun c28 => ?_)
              · skip
                exfalso
                omega
              · skip
                refine jt_iconst d_GM_feed_59 ?_
                exact gm_ret d_GM_feed_60 rfl rfl (⟨fun z => by unfold gtok at z; first | exact ⟨rfl, rfl, rfl⟩ | (exfalso; omega), fun z y => by unfold gtok at z; first | exact ⟨rfl, rfl, rfl⟩ | (exfalso; omega), fun z y => by unfold gtok at z; first | exact ⟨by rw [], by rw [], rfl⟩ | (exfalso; omega)⟩)
            · skip
              obtain rfl := hbq27 gq27
              show jt _ 56 [(0, .ref m), (1, .int (jI k)), (2, .int (jI v))] [.int (jI 0)] (gmf m f0 I A) _ _ _
              refine jt_if_eq (t := 61) d_GM_feed_56 rfl (by unfold jRi; omega) (fun c29 => ?_) (fun c29 => ?_)
              · skip
                refine jt_iload_n d_GM_feed_61 rfl ?_
                refine jt_iconst d_GM_feed_62 ?_
                refine jt_icmp_ne (t := 76) d_GM_feed_63 rfl (by unfold jRi; omega) (by unfold jRi; omega) (fun c30 => ?_) (fun c30 => ?_)
                · skip
                  refine jt_iload_n d_GM_feed_76 rfl ?_
                  refine jt_iconst d_GM_feed_77 ?_
                  refine jt_icmp_ne (t := 94) d_GM_feed_78 rfl (by unfold jRi; omega) (by unfold jRi; omega) (fun c31 => ?_) (fun c31 => ?_)
                  · skip
                    refine jt_aload_n d_GM_feed_94 rfl ?_
                    refine gm_gI (k := 0) (v := I 0) d_GM_feed_95 GM_f7 (by decide) rfl ?_
                    refine jt_bipush d_GM_feed_98 (by omega) ?_
                    refine jt_icmp_ne (t := 106) d_GM_feed_100 rfl (by unfold jRi; omega) (by unfold jRi; omega) (fun c32 => ?_) (fun c32 => ?_)
                    · skip
                      refine jt_aload_n d_GM_feed_106 rfl ?_
                      refine gm_gA (k := 16) (a := m + 1) d_GM_feed_107 GM_f59 (by decide) (by decide) rfl ?_
                      refine jt_aload_n d_GM_feed_110 rfl ?_
                      refine gm_gI (k := 0) (v := I 0) d_GM_feed_111 GM_f7 (by decide) rfl ?_
                      refine jt_iload_n d_GM_feed_114 rfl ?_
                      refine gm_st0 (k := 16) (n := 120) (B := va_up A 16 (ju (A 16) (I 0) k)) d_GM_feed_115 rfl (by decide) (by decide) rfl rfl (by omega) (by omega) (by omega) rfl ?_
                      refine jt_aload_n d_GM_feed_116 rfl ?_
                      refine gm_gA (k := 17) (a := m + 2) d_GM_feed_117 GM_f63 (by decide) (by decide) rfl ?_
                      refine jt_aload_n d_GM_feed_120 rfl ?_
                      refine gm_gI (k := 0) (v := I 0) d_GM_feed_121 GM_f7 (by decide) rfl ?_
                      refine jt_iload_n d_GM_feed_124 rfl ?_
                      refine gm_st0 (k := 17) (n := 120) (B := va_up (va_up A 16 (ju (A 16) (I 0) k)) 17 (ju (A 17) (I 0) v)) d_GM_feed_125 rfl (by decide) (by decide) rfl rfl (by omega) (by omega) (by omega) rfl ?_
                      refine jt_aload_n d_GM_feed_126 rfl ?_
                      refine jt_dup d_GM_feed_127 rfl ?_
                      refine gm_gI (k := 0) (v := I 0) d_GM_feed_128 GM_f7 (by decide) rfl ?_
                      refine jt_iconst d_GM_feed_131 ?_
                      refine jt_iadd d_GM_feed_132 ?_
                      refine jt_topi (fun v33 ev33 => ?_)
                      refine gm_pI (k := 0) (v := v33) (J := va_up I 0 v33) d_GM_feed_133 (GM_w7 _ rfl) (by decide) rfl rfl rfl ?_
                      refine jt_aload_n d_GM_feed_136 rfl ?_
                      refine gm_gI (k := 0) (v := v33) d_GM_feed_137 GM_f7 (by decide) rfl ?_
                      exact gm_ret d_GM_feed_140 rfl rfl (⟨fun z => by unfold gtok at z; first | exact ⟨rfl, rfl, rfl⟩ | (exfalso; omega), fun z y => by unfold gtok at z; first | exact ⟨rfl, rfl, rfl⟩ | (exfalso; omega), fun z y => by unfold gtok at z; first | exact ⟨by rw [ev33], by rw [ev33], rfl⟩ | (exfalso; omega)⟩)
                    · skip
                      refine jt_bipush d_GM_feed_103 (by omega) ?_
                      exact gm_ret d_GM_feed_105 rfl rfl (⟨fun z => by unfold gtok at z; first | exact ⟨rfl, rfl, rfl⟩ | (exfalso; omega), fun z y => by unfold gtok at z; first | exact ⟨rfl, rfl, rfl⟩ | (exfalso; omega), fun z y => by unfold gtok at z; first | exact ⟨by rw [], by rw [], rfl⟩ | (exfalso; omega)⟩)
                  · skip
                    refine jt_aload_n d_GM_feed_81 rfl ?_
                    refine jt_iload_n d_GM_feed_82 rfl ?_
                    refine jt_iconst d_GM_feed_83 ?_
                    refine jt_bipush d_GM_feed_84 (by omega) ?_
                    refine gct_call (Y := Y_GM_out) (As := [.int (jI v), .int (jI 0), .int (jI 13)]) (rest := []) d_GM_feed_86 GM_c152 yk_GM_out yv_GM_out rfl (Nat.le_of_ble_eq_true rfl) rfl rfl (Nat.le_of_ble_eq_true rfl) (c_GM_out G _ m v 0 13 I A (by unfold jRi; omega) (by unfold jRi; omega) (by unfold jRi; omega)) (fun rvq34 Iq34 Aq34 hq34 => ?_)
                    obtain ⟨haq34, hbq34, hIq34, hAq34⟩ := hq34
                    rw [hIq34, hAq34]
                    by_cases gq34 : v < 0 ∨ 13 < v
                    · skip
                      obtain rfl := haq34 gq34
                      show jt _ 89 [(0, .ref m), (1, .int (jI k)), (2, .int (jI v))] [.int (jI 1)] (gmf m f0 I A) _ _ _
                      refine jt_if_eq (t := 94) d_GM_feed_89 rfl (by unfold jRi; omega) (fun c35 => ?_) (fun c35 => ?_)
                      · skip
                        exfalso
                        omega
                      · skip
                        refine jt_iconst d_GM_feed_92 ?_
                        exact gm_ret d_GM_feed_93 rfl rfl (⟨fun z => by unfold gtok at z; first | exact ⟨rfl, rfl, rfl⟩ | (exfalso; omega), fun z y => by unfold gtok at z; first | exact ⟨rfl, rfl, rfl⟩ | (exfalso; omega), fun z y => by unfold gtok at z; first | exact ⟨by rw [], by rw [], rfl⟩ | (exfalso; omega)⟩)
                    · skip
                      obtain rfl := hbq34 gq34
                      show jt _ 89 [(0, .ref m), (1, .int (jI k)), (2, .int (jI v))] [.int (jI 0)] (gmf m f0 I A) _ _ _
                      refine jt_if_eq (t := 94) d_GM_feed_89 rfl (by unfold jRi; omega) (fun c36 => ?_) (fun c36 => ?_)
                      · skip
                        refine jt_aload_n d_GM_feed_94 rfl ?_
                        refine gm_gI (k := 0) (v := I 0) d_GM_feed_95 GM_f7 (by decide) rfl ?_
                        refine jt_bipush d_GM_feed_98 (by omega) ?_
                        refine jt_icmp_ne (t := 106) d_GM_feed_100 rfl (by unfold jRi; omega) (by unfold jRi; omega) (fun c37 => ?_) (fun c37 => ?_)
                        · skip
                          refine jt_aload_n d_GM_feed_106 rfl ?_
                          refine gm_gA (k := 16) (a := m + 1) d_GM_feed_107 GM_f59 (by decide) (by decide) rfl ?_
                          refine jt_aload_n d_GM_feed_110 rfl ?_
                          refine gm_gI (k := 0) (v := I 0) d_GM_feed_111 GM_f7 (by decide) rfl ?_
                          refine jt_iload_n d_GM_feed_114 rfl ?_
                          refine gm_st0 (k := 16) (n := 120) (B := va_up A 16 (ju (A 16) (I 0) k)) d_GM_feed_115 rfl (by decide) (by decide) rfl rfl (by omega) (by omega) (by omega) rfl ?_
                          refine jt_aload_n d_GM_feed_116 rfl ?_
                          refine gm_gA (k := 17) (a := m + 2) d_GM_feed_117 GM_f63 (by decide) (by decide) rfl ?_
                          refine jt_aload_n d_GM_feed_120 rfl ?_
                          refine gm_gI (k := 0) (v := I 0) d_GM_feed_121 GM_f7 (by decide) rfl ?_
                          refine jt_iload_n d_GM_feed_124 rfl ?_
                          refine gm_st0 (k := 17) (n := 120) (B := va_up (va_up A 16 (ju (A 16) (I 0) k)) 17 (ju (A 17) (I 0) v)) d_GM_feed_125 rfl (by decide) (by decide) rfl rfl (by omega) (by omega) (by omega) rfl ?_
                          refine jt_aload_n d_GM_feed_126 rfl ?_
                          refine jt_dup d_GM_feed_127 rfl ?_
                          refine gm_gI (k := 0) (v := I 0) d_GM_feed_128 GM_f7 (by decide) rfl ?_
                          refine jt_iconst d_GM_feed_131 ?_
                          refine jt_iadd d_GM_feed_132 ?_
                          refine jt_topi (fun v38 ev38 => ?_)
                          refine gm_pI (k := 0) (v := v38) (J := va_up I 0 v38) d_GM_feed_133 (GM_w7 _ rfl) (by decide) rfl rfl rfl ?_
                          refine jt_aload_n d_GM_feed_136 rfl ?_
                          refine gm_gI (k := 0) (v := v38) d_GM_feed_137 GM_f7 (by decide) rfl ?_
                          exact gm_ret d_GM_feed_140 rfl rfl (⟨fun z => by unfold gtok at z; first | exact ⟨rfl, rfl, rfl⟩ | (exfalso; omega), fun z y => by unfold gtok at z; first | exact ⟨rfl, rfl, rfl⟩ | (exfalso; omega), fun z y => by unfold gtok at z; first | exact ⟨by rw [ev38], by rw [ev38], rfl⟩ | (exfalso; omega)⟩)
                        · skip
                          refine jt_bipush d_GM_feed_103 (by omega) ?_
                          exact gm_ret d_GM_feed_105 rfl rfl (⟨fun z => by unfold gtok at z; first | exact ⟨rfl, rfl, rfl⟩ | (exfalso; omega), fun z y => by unfold gtok at z; first | exact ⟨rfl, rfl, rfl⟩ | (exfalso; omega), fun z y => by unfold gtok at z; first | exact ⟨by rw [], by rw [], rfl⟩ | (exfalso; omega)⟩)
                      · skip
                        exfalso
                        omega
                · skip
                  refine jt_aload_n d_GM_feed_66 rfl ?_
                  refine jt_iload_n d_GM_feed_67 rfl ?_
                  refine jt_iconst d_GM_feed_68 ?_
                  refine jt_iconst d_GM_feed_69 ?_
                  refine gct_call (Y := Y_GM_out) (As := [.int (jI v), .int (jI 0), .int (jI 5)]) (rest := []) d_GM_feed_70 GM_c152 yk_GM_out yv_GM_out rfl (Nat.le_of_ble_eq_true rfl) rfl rfl (Nat.le_of_ble_eq_true rfl) (c_GM_out G _ m v 0 5 I A (by unfold jRi; omega) (by unfold jRi; omega) (by unfold jRi; omega)) (fun rvq39 Iq39 Aq39 hq39 => ?_)
                  obtain ⟨haq39, hbq39, hIq39, hAq39⟩ := hq39
                  rw [hIq39, hAq39]
                  by_cases gq39 : v < 0 ∨ 5 < v
                  · skip
                    obtain rfl := haq39 gq39
                    show jt _ 73 [(0, .ref m), (1, .int (jI k)), (2, .int (jI v))] [.int (jI 1)] (gmf m f0 I A) _ _ _
                    refine jt_if_ne (t := 92) d_GM_feed_73 rfl (by unfold jRi; omega) (fun c40 => ?_) (fun c40 => ?_)
                    · skip
                      refine jt_iconst d_GM_feed_92 ?_
                      exact gm_ret d_GM_feed_93 rfl rfl (⟨fun z => by unfold gtok at z; first | exact ⟨rfl, rfl, rfl⟩ | (exfalso; omega), fun z y => by unfold gtok at z; first | exact ⟨rfl, rfl, rfl⟩ | (exfalso; omega), fun z y => by unfold gtok at z; first | exact ⟨by rw [], by rw [], rfl⟩ | (exfalso; omega)⟩)
                    · skip
                      exfalso
                      omega
                  · skip
                    obtain rfl := hbq39 gq39
                    show jt _ 73 [(0, .ref m), (1, .int (jI k)), (2, .int (jI v))] [.int (jI 0)] (gmf m f0 I A) _ _ _
                    refine jt_if_ne (t := 92) d_GM_feed_73 rfl (by unfold jRi; omega) (fun c41 => ?_) (fun c41 => ?_)
                    · skip
                      exfalso
                      omega
                    · skip
                      refine jt_iload_n d_GM_feed_76 rfl ?_
                      refine jt_iconst d_GM_feed_77 ?_
                      refine jt_icmp_ne (t := 94) d_GM_feed_78 rfl (by unfold jRi; omega) (by unfold jRi; omega) (fun c42 => ?_) (fun c42 => ?_)
                      · skip
                        refine jt_aload_n d_GM_feed_94 rfl ?_
                        refine gm_gI (k := 0) (v := I 0) d_GM_feed_95 GM_f7 (by decide) rfl ?_
                        refine jt_bipush d_GM_feed_98 (by omega) ?_
                        refine jt_icmp_ne (t := 106) d_GM_feed_100 rfl (by unfold jRi; omega) (by unfold jRi; omega) (fun c43 => ?_) (fun c43 => ?_)
                        · skip
                          refine jt_aload_n d_GM_feed_106 rfl ?_
                          refine gm_gA (k := 16) (a := m + 1) d_GM_feed_107 GM_f59 (by decide) (by decide) rfl ?_
                          refine jt_aload_n d_GM_feed_110 rfl ?_
                          refine gm_gI (k := 0) (v := I 0) d_GM_feed_111 GM_f7 (by decide) rfl ?_
                          refine jt_iload_n d_GM_feed_114 rfl ?_
                          refine gm_st0 (k := 16) (n := 120) (B := va_up A 16 (ju (A 16) (I 0) k)) d_GM_feed_115 rfl (by decide) (by decide) rfl rfl (by omega) (by omega) (by omega) rfl ?_
                          refine jt_aload_n d_GM_feed_116 rfl ?_
                          refine gm_gA (k := 17) (a := m + 2) d_GM_feed_117 GM_f63 (by decide) (by decide) rfl ?_
                          refine jt_aload_n d_GM_feed_120 rfl ?_
                          refine gm_gI (k := 0) (v := I 0) d_GM_feed_121 GM_f7 (by decide) rfl ?_
                          refine jt_iload_n d_GM_feed_124 rfl ?_
                          refine gm_st0 (k := 17) (n := 120) (B := va_up (va_up A 16 (ju (A 16) (I 0) k)) 17 (ju (A 17) (I 0) v)) d_GM_feed_125 rfl (by decide) (by decide) rfl rfl (by omega) (by omega) (by omega) rfl ?_
                          refine jt_aload_n d_GM_feed_126 rfl ?_
                          refine jt_dup d_GM_feed_127 rfl ?_
                          refine gm_gI (k := 0) (v := I 0) d_GM_feed_128 GM_f7 (by decide) rfl ?_
                          refine jt_iconst d_GM_feed_131 ?_
                          refine jt_iadd d_GM_feed_132 ?_
                          refine jt_topi (fun v44 ev44 => ?_)
                          refine gm_pI (k := 0) (v := v44) (J := va_up I 0 v44) d_GM_feed_133 (GM_w7 _ rfl) (by decide) rfl rfl rfl ?_
                          refine jt_aload_n d_GM_feed_136 rfl ?_
                          refine gm_gI (k := 0) (v := v44) d_GM_feed_137 GM_f7 (by decide) rfl ?_
                          exact gm_ret d_GM_feed_140 rfl rfl (⟨fun z => by unfold gtok at z; first | exact ⟨rfl, rfl, rfl⟩ | (exfalso; omega), fun z y => by unfold gtok at z; first | exact ⟨rfl, rfl, rfl⟩ | (exfalso; omega), fun z y => by unfold gtok at z; first | exact ⟨by rw [ev44], by rw [ev44], rfl⟩ | (exfalso; omega)⟩)
                        · skip
                          refine jt_bipush d_GM_feed_103 (by omega) ?_
                          exact gm_ret d_GM_feed_105 rfl rfl (⟨fun z => by unfold gtok at z; first | exact ⟨rfl, rfl, rfl⟩ | (exfalso; omega), fun z y => by unfold gtok at z; first | exact ⟨rfl, rfl, rfl⟩ | (exfalso; omega), fun z y => by unfold gtok at z; first | exact ⟨by rw [], by rw [], rfl⟩ | (exfalso; omega)⟩)
                      · skip
                        refine jt_aload_n d_GM_feed_81 rfl ?_
                        refine jt_iload_n d_GM_feed_82 rfl ?_
                        refine jt_iconst d_GM_feed_83 ?_
                        refine jt_bipush d_GM_feed_84 (by omega) ?_
                        refine gct_call (Y := Y_GM_out) (As := [.int (jI v), .int (jI 0), .int (jI 13)]) (rest := []) d_GM_feed_86 GM_c152 yk_GM_out yv_GM_out rfl (Nat.le_of_ble_eq_true rfl) rfl rfl (Nat.le_of_ble_eq_true rfl) (c_GM_out G _ m v 0 13 I A (by unfold jRi; omega) (by unfold jRi; omega) (by unfold jRi; omega)) (fun rvq45 Iq45 Aq45 hq45 => ?_)
                        obtain ⟨haq45, hbq45, hIq45, hAq45⟩ := hq45
                        rw [hIq45, hAq45]
                        by_cases gq45 : v < 0 ∨ 13 < v
                        · skip
                          obtain rfl := haq45 gq45
                          show jt _ 89 [(0, .ref m), (1, .int (jI k)), (2, .int (jI v))] [.int (jI 1)] (gmf m f0 I A) _ _ _
                          refine jt_if_eq (t := 94) d_GM_feed_89 rfl (by unfold jRi; omega) (fun c46 => ?_) (fun c46 => ?_)
                          · skip
                            exfalso
                            omega
                          · skip
                            refine jt_iconst d_GM_feed_92 ?_
                            exact gm_ret d_GM_feed_93 rfl rfl (⟨fun z => by unfold gtok at z; first | exact ⟨rfl, rfl, rfl⟩ | (exfalso; omega), fun z y => by unfold gtok at z; first | exact ⟨rfl, rfl, rfl⟩ | (exfalso; omega), fun z y => by unfold gtok at z; first | exact ⟨by rw [], by rw [], rfl⟩ | (exfalso; omega)⟩)
                        · skip
                          obtain rfl := hbq45 gq45
                          show jt _ 89 [(0, .ref m), (1, .int (jI k)), (2, .int (jI v))] [.int (jI 0)] (gmf m f0 I A) _ _ _
                          refine jt_if_eq (t := 94) d_GM_feed_89 rfl (by unfold jRi; omega) (fun c47 => ?_) (fun c47 => ?_)
                          · skip
                            refine jt_aload_n d_GM_feed_94 rfl ?_
                            refine gm_gI (k := 0) (v := I 0) d_GM_feed_95 GM_f7 (by decide) rfl ?_
                            refine jt_bipush d_GM_feed_98 (by omega) ?_
                            refine jt_icmp_ne (t := 106) d_GM_feed_100 rfl (by unfold jRi; omega) (by unfold jRi; omega) (fun c48 => ?_) (fun c48 => ?_)
                            · skip
                              refine jt_aload_n d_GM_feed_106 rfl ?_
                              refine gm_gA (k := 16) (a := m + 1) d_GM_feed_107 GM_f59 (by decide) (by decide) rfl ?_
                              refine jt_aload_n d_GM_feed_110 rfl ?_
                              refine gm_gI (k := 0) (v := I 0) d_GM_feed_111 GM_f7 (by decide) rfl ?_
                              refine jt_iload_n d_GM_feed_114 rfl ?_
                              refine gm_st0 (k := 16) (n := 120) (B := va_up A 16 (ju (A 16) (I 0) k)) d_GM_feed_115 rfl (by decide) (by decide) rfl rfl (by omega) (by omega) (by omega) rfl ?_
                              refine jt_aload_n d_GM_feed_116 rfl ?_
                              refine gm_gA (k := 17) (a := m + 2) d_GM_feed_117 GM_f63 (by decide) (by decide) rfl ?_
                              refine jt_aload_n d_GM_feed_120 rfl ?_
                              refine gm_gI (k := 0) (v := I 0) d_GM_feed_121 GM_f7 (by decide) rfl ?_
                              refine jt_iload_n d_GM_feed_124 rfl ?_
                              refine gm_st0 (k := 17) (n := 120) (B := va_up (va_up A 16 (ju (A 16) (I 0) k)) 17 (ju (A 17) (I 0) v)) d_GM_feed_125 rfl (by decide) (by decide) rfl rfl (by omega) (by omega) (by omega) rfl ?_
                              refine jt_aload_n d_GM_feed_126 rfl ?_
                              refine jt_dup d_GM_feed_127 rfl ?_
                              refine gm_gI (k := 0) (v := I 0) d_GM_feed_128 GM_f7 (by decide) rfl ?_
                              refine jt_iconst d_GM_feed_131 ?_
                              refine jt_iadd d_GM_feed_132 ?_
                              refine jt_topi (fun v49 ev49 => ?_)
                              refine gm_pI (k := 0) (v := v49) (J := va_up I 0 v49) d_GM_feed_133 (GM_w7 _ rfl) (by decide) rfl rfl rfl ?_
                              refine jt_aload_n d_GM_feed_136 rfl ?_
                              refine gm_gI (k := 0) (v := v49) d_GM_feed_137 GM_f7 (by decide) rfl ?_
                              exact gm_ret d_GM_feed_140 rfl rfl (⟨fun z => by unfold gtok at z; first | exact ⟨rfl, rfl, rfl⟩ | (exfalso; omega), fun z y => by unfold gtok at z; first | exact ⟨rfl, rfl, rfl⟩ | (exfalso; omega), fun z y => by unfold gtok at z; first | exact ⟨by rw [ev49], by rw [ev49], rfl⟩ | (exfalso; omega)⟩)
                            · skip
                              refine jt_bipush d_GM_feed_103 (by omega) ?_
                              exact gm_ret d_GM_feed_105 rfl rfl (⟨fun z => by unfold gtok at z; first | exact ⟨rfl, rfl, rfl⟩ | (exfalso; omega), fun z y => by unfold gtok at z; first | exact ⟨rfl, rfl, rfl⟩ | (exfalso; omega), fun z y => by unfold gtok at z; first | exact ⟨by rw [], by rw [], rfl⟩ | (exfalso; omega)⟩)
                          · skip
                            exfalso
                            omega
              · skip
                exfalso
                omega
        · skip
          refine jt_aload_n d_GM_feed_33 rfl ?_
          refine jt_iload_n d_GM_feed_34 rfl ?_
          refine jt_iconst d_GM_feed_35 ?_
          refine jt_bipush d_GM_feed_36 (by omega) ?_
          refine gct_call (Y := Y_GM_out) (As := [.int (jI v), .int (jI 0), .int (jI 11)]) (rest := []) d_GM_feed_38 GM_c152 yk_GM_out yv_GM_out rfl (Nat.le_of_ble_eq_true rfl) rfl rfl (Nat.le_of_ble_eq_true rfl) (c_GM_out G _ m v 0 11 I A (by unfold jRi; omega) (by unfold jRi; omega) (by unfold jRi; omega)) (fun rvq50 Iq50 Aq50 hq50 => ?_)
          obtain ⟨haq50, hbq50, hIq50, hAq50⟩ := hq50
          rw [hIq50, hAq50]
          by_cases gq50 : v < 0 ∨ 11 < v
          · skip
            obtain rfl := haq50 gq50
            show jt _ 41 [(0, .ref m), (1, .int (jI k)), (2, .int (jI v))] [.int (jI 1)] (gmf m f0 I A) _ _ _
            refine jt_if_ne (t := 59) d_GM_feed_41 rfl (by unfold jRi; omega) (fun c51 => ?_) (fun c51 => ?_)
            · skip
              refine jt_iconst d_GM_feed_59 ?_
              exact gm_ret d_GM_feed_60 rfl rfl (⟨fun z => by unfold gtok at z; first | exact ⟨rfl, rfl, rfl⟩ | (exfalso; omega), fun z y => by unfold gtok at z; first | exact ⟨rfl, rfl, rfl⟩ | (exfalso; omega), fun z y => by unfold gtok at z; first | exact ⟨by rw [], by rw [], rfl⟩ | (exfalso; omega)⟩)
            · skip
              exfalso
              omega
          · skip
            obtain rfl := hbq50 gq50
            show jt _ 41 [(0, .ref m), (1, .int (jI k)), (2, .int (jI v))] [.int (jI 0)] (gmf m f0 I A) _ _ _
            refine jt_if_ne (t := 59) d_GM_feed_41 rfl (by unfold jRi; omega) (fun c52 => ?_) (fun c52 => ?_)
            · skip
              exfalso
              omega
            · skip
              refine jt_iload_n d_GM_feed_44 rfl ?_
              refine jt_iconst d_GM_feed_45 ?_
              refine jt_icmp_ne (t := 61) d_GM_feed_46 rfl (by unfold jRi; omega) (by unfold jRi; omega) (fun c53 => ?_) (fun c53 => ?_)
              · skip
                refine jt_iload_n d_GM_feed_61 rfl ?_
                refine jt_iconst d_GM_feed_62 ?_
                refine jt_icmp_ne (t := 76) d_GM_feed_63 rfl (by unfold jRi; omega) (by unfold jRi; omega) (fun c54 => ?_) (fun c54 => ?_)
                · skip
                  refine jt_iload_n d_GM_feed_76 rfl ?_
                  refine jt_iconst d_GM_feed_77 ?_
                  refine jt_icmp_ne (t := 94) d_GM_feed_78 rfl (by unfold jRi; omega) (by unfold jRi; omega) (fun c55 => ?_) (fun c55 => ?_)
                  · skip
                    refine jt_aload_n d_GM_feed_94 rfl ?_
                    refine gm_gI (k := 0) (v := I 0) d_GM_feed_95 GM_f7 (by decide) rfl ?_
                    refine jt_bipush d_GM_feed_98 (by omega) ?_
                    refine jt_icmp_ne (t := 106) d_GM_feed_100 rfl (by unfold jRi; omega) (by unfold jRi; omega) (fun c56 => ?_) (fun c56 => ?_)
                    · skip
                      refine jt_aload_n d_GM_feed_106 rfl ?_
                      refine gm_gA (k := 16) (a := m + 1) d_GM_feed_107 GM_f59 (by decide) (by decide) rfl ?_
                      refine jt_aload_n d_GM_feed_110 rfl ?_
                      refine gm_gI (k := 0) (v := I 0) d_GM_feed_111 GM_f7 (by decide) rfl ?_
                      refine jt_iload_n d_GM_feed_114 rfl ?_
                      refine gm_st0 (k := 16) (n := 120) (B := va_up A 16 (ju (A 16) (I 0) k)) d_GM_feed_115 rfl (by decide) (by decide) rfl rfl (by omega) (by omega) (by omega) rfl ?_
                      refine jt_aload_n d_GM_feed_116 rfl ?_
                      refine gm_gA (k := 17) (a := m + 2) d_GM_feed_117 GM_f63 (by decide) (by decide) rfl ?_
                      refine jt_aload_n d_GM_feed_120 rfl ?_
                      refine gm_gI (k := 0) (v := I 0) d_GM_feed_121 GM_f7 (by decide) rfl ?_
                      refine jt_iload_n d_GM_feed_124 rfl ?_
                      refine gm_st0 (k := 17) (n := 120) (B := va_up (va_up A 16 (ju (A 16) (I 0) k)) 17 (ju (A 17) (I 0) v)) d_GM_feed_125 rfl (by decide) (by decide) rfl rfl (by omega) (by omega) (by omega) rfl ?_
                      refine jt_aload_n d_GM_feed_126 rfl ?_
                      refine jt_dup d_GM_feed_127 rfl ?_
                      refine gm_gI (k := 0) (v := I 0) d_GM_feed_128 GM_f7 (by decide) rfl ?_
                      refine jt_iconst d_GM_feed_131 ?_
                      refine jt_iadd d_GM_feed_132 ?_
                      refine jt_topi (fun v57 ev57 => ?_)
                      refine gm_pI (k := 0) (v := v57) (J := va_up I 0 v57) d_GM_feed_133 (GM_w7 _ rfl) (by decide) rfl rfl rfl ?_
                      refine jt_aload_n d_GM_feed_136 rfl ?_
                      refine gm_gI (k := 0) (v := v57) d_GM_feed_137 GM_f7 (by decide) rfl ?_
                      exact gm_ret d_GM_feed_140 rfl rfl (⟨fun z => by unfold gtok at z; first | exact ⟨rfl, rfl, rfl⟩ | (exfalso; omega), fun z y => by unfold gtok at z; first | exact ⟨rfl, rfl, rfl⟩ | (exfalso; omega), fun z y => by unfold gtok at z; first | exact ⟨by rw [ev57], by rw [ev57], rfl⟩ | (exfalso; omega)⟩)
                    · skip
                      refine jt_bipush d_GM_feed_103 (by omega) ?_
                      exact gm_ret d_GM_feed_105 rfl rfl (⟨fun z => by unfold gtok at z; first | exact ⟨rfl, rfl, rfl⟩ | (exfalso; omega), fun z y => by unfold gtok at z; first | exact ⟨rfl, rfl, rfl⟩ | (exfalso; omega), fun z y => by unfold gtok at z; first | exact ⟨by rw [], by rw [], rfl⟩ | (exfalso; omega)⟩)
                  · skip
                    refine jt_aload_n d_GM_feed_81 rfl ?_
                    refine jt_iload_n d_GM_feed_82 rfl ?_
                    refine jt_iconst d_GM_feed_83 ?_
                    refine jt_bipush d_GM_feed_84 (by omega) ?_
                    refine gct_call (Y := Y_GM_out) (As := [.int (jI v), .int (jI 0), .int (jI 13)]) (rest := []) d_GM_feed_86 GM_c152 yk_GM_out yv_GM_out rfl (Nat.le_of_ble_eq_true rfl) rfl rfl (Nat.le_of_ble_eq_true rfl) (c_GM_out G _ m v 0 13 I A (by unfold jRi; omega) (by unfold jRi; omega) (by unfold jRi; omega)) (fun rvq58 Iq58 Aq58 hq58 => ?_)
                    obtain ⟨haq58, hbq58, hIq58, hAq58⟩ := hq58
                    rw [hIq58, hAq58]
                    by_cases gq58 : v < 0 ∨ 13 < v
                    · skip
                      obtain rfl := haq58 gq58
                      show jt _ 89 [(0, .ref m), (1, .int (jI k)), (2, .int (jI v))] [.int (jI 1)] (gmf m f0 I A) _ _ _
                      refine jt_if_eq (t := 94) d_GM_feed_89 rfl (by unfold jRi; omega) (fun c59 => ?_) (fun c59 => ?_)
                      · skip
                        exfalso
                        omega
                      · skip
                        refine jt_iconst d_GM_feed_92 ?_
                        exact gm_ret d_GM_feed_93 rfl rfl (⟨fun z => by unfold gtok at z; first | exact ⟨rfl, rfl, rfl⟩ | (exfalso; omega), fun z y => by unfold gtok at z; first | exact ⟨rfl, rfl, rfl⟩ | (exfalso; omega), fun z y => by unfold gtok at z; first | exact ⟨by rw [], by rw [], rfl⟩ | (exfalso; omega)⟩)
                    · skip
                      obtain rfl := hbq58 gq58
                      show jt _ 89 [(0, .ref m), (1, .int (jI k)), (2, .int (jI v))] [.int (jI 0)] (gmf m f0 I A) _ _ _
                      refine jt_if_eq (t := 94) d_GM_feed_89 rfl (by unfold jRi; omega) (fun c60 => ?_) (fun c60 => ?_)
                      · skip
                        refine jt_aload_n d_GM_feed_94 rfl ?_
                        refine gm_gI (k := 0) (v := I 0) d_GM_feed_95 GM_f7 (by decide) rfl ?_
                        refine jt_bipush d_GM_feed_98 (by omega) ?_
                        refine jt_icmp_ne (t := 106) d_GM_feed_100 rfl (by unfold jRi; omega) (by unfold jRi; omega) (fun c61 => ?_) (fun c61 => ?_)
                        · skip
                          refine jt_aload_n d_GM_feed_106 rfl ?_
                          refine gm_gA (k := 16) (a := m + 1) d_GM_feed_107 GM_f59 (by decide) (by decide) rfl ?_
                          refine jt_aload_n d_GM_feed_110 rfl ?_
                          refine gm_gI (k := 0) (v := I 0) d_GM_feed_111 GM_f7 (by decide) rfl ?_
                          refine jt_iload_n d_GM_feed_114 rfl ?_
                          refine gm_st0 (k := 16) (n := 120) (B := va_up A 16 (ju (A 16) (I 0) k)) d_GM_feed_115 rfl (by decide) (by decide) rfl rfl (by omega) (by omega) (by omega) rfl ?_
                          refine jt_aload_n d_GM_feed_116 rfl ?_
                          refine gm_gA (k := 17) (a := m + 2) d_GM_feed_117 GM_f63 (by decide) (by decide) rfl ?_
                          refine jt_aload_n d_GM_feed_120 rfl ?_
                          refine gm_gI (k := 0) (v := I 0) d_GM_feed_121 GM_f7 (by decide) rfl ?_
                          refine jt_iload_n d_GM_feed_124 rfl ?_
                          refine gm_st0 (k := 17) (n := 120) (B := va_up (va_up A 16 (ju (A 16) (I 0) k)) 17 (ju (A 17) (I 0) v)) d_GM_feed_125 rfl (by decide) (by decide) rfl rfl (by omega) (by omega) (by omega) rfl ?_
                          refine jt_aload_n d_GM_feed_126 rfl ?_
                          refine jt_dup d_GM_feed_127 rfl ?_
                          refine gm_gI (k := 0) (v := I 0) d_GM_feed_128 GM_f7 (by decide) rfl ?_
                          refine jt_iconst d_GM_feed_131 ?_
                          refine jt_iadd d_GM_feed_132 ?_
                          refine jt_topi (fun v62 ev62 => ?_)
                          refine gm_pI (k := 0) (v := v62) (J := va_up I 0 v62) d_GM_feed_133 (GM_w7 _ rfl) (by decide) rfl rfl rfl ?_
                          refine jt_aload_n d_GM_feed_136 rfl ?_
                          refine gm_gI (k := 0) (v := v62) d_GM_feed_137 GM_f7 (by decide) rfl ?_
                          exact gm_ret d_GM_feed_140 rfl rfl (⟨fun z => by unfold gtok at z; first | exact ⟨rfl, rfl, rfl⟩ | (exfalso; omega), fun z y => by unfold gtok at z; first | exact ⟨rfl, rfl, rfl⟩ | (exfalso; omega), fun z y => by unfold gtok at z; first | exact ⟨by rw [ev62], by rw [ev62], rfl⟩ | (exfalso; omega)⟩)
                        · skip
                          refine jt_bipush d_GM_feed_103 (by omega) ?_
                          exact gm_ret d_GM_feed_105 rfl rfl (⟨fun z => by unfold gtok at z; first | exact ⟨rfl, rfl, rfl⟩ | (exfalso; omega), fun z y => by unfold gtok at z; first | exact ⟨rfl, rfl, rfl⟩ | (exfalso; omega), fun z y => by unfold gtok at z; first | exact ⟨by rw [], by rw [], rfl⟩ | (exfalso; omega)⟩)
                      · skip
                        exfalso
                        omega
                · skip
                  refine jt_aload_n d_GM_feed_66 rfl ?_
                  refine jt_iload_n d_GM_feed_67 rfl ?_
                  refine jt_iconst d_GM_feed_68 ?_
                  refine jt_iconst d_GM_feed_69 ?_
                  refine gct_call (Y := Y_GM_out) (As := [.int (jI v), .int (jI 0), .int (jI 5)]) (rest := []) d_GM_feed_70 GM_c152 yk_GM_out yv_GM_out rfl (Nat.le_of_ble_eq_true rfl) rfl rfl (Nat.le_of_ble_eq_true rfl) (c_GM_out G _ m v 0 5 I A (by unfold jRi; omega) (by unfold jRi; omega) (by unfold jRi; omega)) (fun rvq63 Iq63 Aq63 hq63 => ?_)
                  obtain ⟨haq63, hbq63, hIq63, hAq63⟩ := hq63
                  rw [hIq63, hAq63]
                  by_cases gq63 : v < 0 ∨ 5 < v
                  · skip
                    obtain rfl := haq63 gq63
                    show jt _ 73 [(0, .ref m), (1, .int (jI k)), (2, .int (jI v))] [.int (jI 1)] (gmf m f0 I A) _ _ _
                    refine jt_if_ne (t := 92) d_GM_feed_73 rfl (by unfold jRi; omega) (fun c64 => ?_) (fun c64 => ?_)
                    · skip
                      refine jt_iconst d_GM_feed_92 ?_
                      exact gm_ret d_GM_feed_93 rfl rfl (⟨fun z => by unfold gtok at z; first | exact ⟨rfl, rfl, rfl⟩ | (exfalso; omega), fun z y => by unfold gtok at z; first | exact ⟨rfl, rfl, rfl⟩ | (exfalso; omega), fun z y => by unfold gtok at z; first | exact ⟨by rw [], by rw [], rfl⟩ | (exfalso; omega)⟩)
                    · skip
                      exfalso
                      omega
                  · skip
                    obtain rfl := hbq63 gq63
                    show jt _ 73 [(0, .ref m), (1, .int (jI k)), (2, .int (jI v))] [.int (jI 0)] (gmf m f0 I A) _ _ _
                    refine jt_if_ne (t := 92) d_GM_feed_73 rfl (by unfold jRi; omega) (fun c65 => ?_) (fun c65 => ?_)
                    · skip
                      exfalso
                      omega
                    · skip
                      refine jt_iload_n d_GM_feed_76 rfl ?_
                      refine jt_iconst d_GM_feed_77 ?_
                      refine jt_icmp_ne (t := 94) d_GM_feed_78 rfl (by unfold jRi; omega) (by unfold jRi; omega) (fun c66 => ?_) (fun c66 => ?_)
                      · skip
                        refine jt_aload_n d_GM_feed_94 rfl ?_
                        refine gm_gI (k := 0) (v := I 0) d_GM_feed_95 GM_f7 (by decide) rfl ?_
                        refine jt_bipush d_GM_feed_98 (by omega) ?_
                        refine jt_icmp_ne (t := 106) d_GM_feed_100 rfl (by unfold jRi; omega) (by unfold jRi; omega) (fun c67 => ?_) (fun c67 => ?_)
                        · skip
                          refine jt_aload_n d_GM_feed_106 rfl ?_
                          refine gm_gA (k := 16) (a := m + 1) d_GM_feed_107 GM_f59 (by decide) (by decide) rfl ?_
                          refine jt_aload_n d_GM_feed_110 rfl ?_
                          refine gm_gI (k := 0) (v := I 0) d_GM_feed_111 GM_f7 (by decide) rfl ?_
                          refine jt_iload_n d_GM_feed_114 rfl ?_
                          refine gm_st0 (k := 16) (n := 120) (B := va_up A 16 (ju (A 16) (I 0) k)) d_GM_feed_115 rfl (by decide) (by decide) rfl rfl (by omega) (by omega) (by omega) rfl ?_
                          refine jt_aload_n d_GM_feed_116 rfl ?_
                          refine gm_gA (k := 17) (a := m + 2) d_GM_feed_117 GM_f63 (by decide) (by decide) rfl ?_
                          refine jt_aload_n d_GM_feed_120 rfl ?_
                          refine gm_gI (k := 0) (v := I 0) d_GM_feed_121 GM_f7 (by decide) rfl ?_
                          refine jt_iload_n d_GM_feed_124 rfl ?_
                          refine gm_st0 (k := 17) (n := 120) (B := va_up (va_up A 16 (ju (A 16) (I 0) k)) 17 (ju (A 17) (I 0) v)) d_GM_feed_125 rfl (by decide) (by decide) rfl rfl (by omega) (by omega) (by omega) rfl ?_
                          refine jt_aload_n d_GM_feed_126 rfl ?_
                          refine jt_dup d_GM_feed_127 rfl ?_
                          refine gm_gI (k := 0) (v := I 0) d_GM_feed_128 GM_f7 (by decide) rfl ?_
                          refine jt_iconst d_GM_feed_131 ?_
                          refine jt_iadd d_GM_feed_132 ?_
                          refine jt_topi (fun v68 ev68 => ?_)
                          refine gm_pI (k := 0) (v := v68) (J := va_up I 0 v68) d_GM_feed_133 (GM_w7 _ rfl) (by decide) rfl rfl rfl ?_
                          refine jt_aload_n d_GM_feed_136 rfl ?_
                          refine gm_gI (k := 0) (v := v68) d_GM_feed_137 GM_f7 (by decide) rfl ?_
                          exact gm_ret d_GM_feed_140 rfl rfl (⟨fun z => by unfold gtok at z; first | exact ⟨rfl, rfl, rfl⟩ | (exfalso; omega), fun z y => by unfold gtok at z; first | exact ⟨rfl, rfl, rfl⟩ | (exfalso; omega), fun z y => by unfold gtok at z; first | exact ⟨by rw [ev68], by rw [ev68], rfl⟩ | (exfalso; omega)⟩)
                        · skip
                          refine jt_bipush d_GM_feed_103 (by omega) ?_
                          exact gm_ret d_GM_feed_105 rfl rfl (⟨fun z => by unfold gtok at z; first | exact ⟨rfl, rfl, rfl⟩ | (exfalso; omega), fun z y => by unfold gtok at z; first | exact ⟨rfl, rfl, rfl⟩ | (exfalso; omega), fun z y => by unfold gtok at z; first | exact ⟨by rw [], by rw [], rfl⟩ | (exfalso; omega)⟩)
                      · skip
                        refine jt_aload_n d_GM_feed_81 rfl ?_
                        refine jt_iload_n d_GM_feed_82 rfl ?_
                        refine jt_iconst d_GM_feed_83 ?_
                        refine jt_bipush d_GM_feed_84 (by omega) ?_
                        refine gct_call (Y := Y_GM_out) (As := [.int (jI v), .int (jI 0), .int (jI 13)]) (rest := []) d_GM_feed_86 GM_c152 yk_GM_out yv_GM_out rfl (Nat.le_of_ble_eq_true rfl) rfl rfl (Nat.le_of_ble_eq_true rfl) (c_GM_out G _ m v 0 13 I A (by unfold jRi; omega) (by unfold jRi; omega) (by unfold jRi; omega)) (fun rvq69 Iq69 Aq69 hq69 => ?_)
                        obtain ⟨haq69, hbq69, hIq69, hAq69⟩ := hq69
                        rw [hIq69, hAq69]
                        by_cases gq69 : v < 0 ∨ 13 < v
                        · skip
                          obtain rfl := haq69 gq69
                          show jt _ 89 [(0, .ref m), (1, .int (jI k)), (2, .int (jI v))] [.int (jI 1)] (gmf m f0 I A) _ _ _
                          refine jt_if_eq (t := 94) d_GM_feed_89 rfl (by unfold jRi; omega) (fun c70 => ?_) (fun c70 => ?_)
                          · skip
                            exfalso
                            omega
                          · skip
                            refine jt_iconst d_GM_feed_92 ?_
                            exact gm_ret d_GM_feed_93 rfl rfl (⟨fun z => by unfold gtok at z; first | exact ⟨rfl, rfl, rfl⟩ | (exfalso; omega), fun z y => by unfold gtok at z; first | exact ⟨rfl, rfl, rfl⟩ | (exfalso; omega), fun z y => by unfold gtok at z; first | exact ⟨by rw [], by rw [], rfl⟩ | (exfalso; omega)⟩)
                        · skip
                          obtain rfl := hbq69 gq69
                          show jt _ 89 [(0, .ref m), (1, .int (jI k)), (2, .int (jI v))] [.int (jI 0)] (gmf m f0 I A) _ _ _
                          refine jt_if_eq (t := 94) d_GM_feed_89 rfl (by unfold jRi; omega) (fun c71 => ?_) (fun c71 => ?_)
                          · skip
                            refine jt_aload_n d_GM_feed_94 rfl ?_
                            refine gm_gI (k := 0) (v := I 0) d_GM_feed_95 GM_f7 (by decide) rfl ?_
                            refine jt_bipush d_GM_feed_98 (by omega) ?_
                            refine jt_icmp_ne (t := 106) d_GM_feed_100 rfl (by unfold jRi; omega) (by unfold jRi; omega) (fun c72 => ?_) (fun c72 => ?_)
                            · skip
                              refine jt_aload_n d_GM_feed_106 rfl ?_
                              refine gm_gA (k := 16) (a := m + 1) d_GM_feed_107 GM_f59 (by decide) (by decide) rfl ?_
                              refine jt_aload_n d_GM_feed_110 rfl ?_
                              refine gm_gI (k := 0) (v := I 0) d_GM_feed_111 GM_f7 (by decide) rfl ?_
                              refine jt_iload_n d_GM_feed_114 rfl ?_
                              refine gm_st0 (k := 16) (n := 120) (B := va_up A 16 (ju (A 16) (I 0) k)) d_GM_feed_115 rfl (by decide) (by decide) rfl rfl (by omega) (by omega) (by omega) rfl ?_
                              refine jt_aload_n d_GM_feed_116 rfl ?_
                              refine gm_gA (k := 17) (a := m + 2) d_GM_feed_117 GM_f63 (by decide) (by decide) rfl ?_
                              refine jt_aload_n d_GM_feed_120 rfl ?_
                              refine gm_gI (k := 0) (v := I 0) d_GM_feed_121 GM_f7 (by decide) rfl ?_
                              refine jt_iload_n d_GM_feed_124 rfl ?_
                              refine gm_st0 (k := 17) (n := 120) (B := va_up (va_up A 16 (ju (A 16) (I 0) k)) 17 (ju (A 17) (I 0) v)) d_GM_feed_125 rfl (by decide) (by decide) rfl rfl (by omega) (by omega) (by omega) rfl ?_
                              refine jt_aload_n d_GM_feed_126 rfl ?_
                              refine jt_dup d_GM_feed_127 rfl ?_
                              refine gm_gI (k := 0) (v := I 0) d_GM_feed_128 GM_f7 (by decide) rfl ?_
                              refine jt_iconst d_GM_feed_131 ?_
                              refine jt_iadd d_GM_feed_132 ?_
                              refine jt_topi (fun v73 ev73 => ?_)
                              refine gm_pI (k := 0) (v := v73) (J := va_up I 0 v73) d_GM_feed_133 (GM_w7 _ rfl) (by decide) rfl rfl rfl ?_
                              refine jt_aload_n d_GM_feed_136 rfl ?_
                              refine gm_gI (k := 0) (v := v73) d_GM_feed_137 GM_f7 (by decide) rfl ?_
                              exact gm_ret d_GM_feed_140 rfl rfl (⟨fun z => by unfold gtok at z; first | exact ⟨rfl, rfl, rfl⟩ | (exfalso; omega), fun z y => by unfold gtok at z; first | exact ⟨rfl, rfl, rfl⟩ | (exfalso; omega), fun z y => by unfold gtok at z; first | exact ⟨by rw [ev73], by rw [ev73], rfl⟩ | (exfalso; omega)⟩)
                            · skip
                              refine jt_bipush d_GM_feed_103 (by omega) ?_
                              exact gm_ret d_GM_feed_105 rfl rfl (⟨fun z => by unfold gtok at z; first | exact ⟨rfl, rfl, rfl⟩ | (exfalso; omega), fun z y => by unfold gtok at z; first | exact ⟨rfl, rfl, rfl⟩ | (exfalso; omega), fun z y => by unfold gtok at z; first | exact ⟨by rw [], by rw [], rfl⟩ | (exfalso; omega)⟩)
                          · skip
                            exfalso
                            omega
              · skip
                refine jt_aload_n d_GM_feed_49 rfl ?_
                refine jt_iload_n d_GM_feed_50 rfl ?_
                refine jt_iconst d_GM_feed_51 ?_
                refine jt_iconst d_GM_feed_52 ?_
                refine gct_call (Y := Y_GM_out) (As := [.int (jI v), .int (jI 0), .int (jI 2)]) (rest := []) d_GM_feed_53 GM_c152 yk_GM_out yv_GM_out rfl (Nat.le_of_ble_eq_true rfl) rfl rfl (Nat.le_of_ble_eq_true rfl) (c_GM_out G _ m v 0 2 I A (by unfold jRi; omega) (by unfold jRi; omega) (by unfold jRi; omega)) (fun rvq74 Iq74 Aq74 hq74 => ?_)
                obtain ⟨haq74, hbq74, hIq74, hAq74⟩ := hq74
                rw [hIq74, hAq74]
                by_cases gq74 : v < 0 ∨ 2 < v
                · skip
                  obtain rfl := haq74 gq74
                  show jt _ 56 [(0, .ref m), (1, .int (jI k)), (2, .int (jI v))] [.int (jI 1)] (gmf m f0 I A) _ _ _
                  refine jt_if_eq (t := 61) d_GM_feed_56 rfl (by unfold jRi; omega) (fun c75 => ?_) (fun c75 => ?_)
                  · skip
                    exfalso
                    omega
                  · skip
                    refine jt_iconst d_GM_feed_59 ?_
                    exact gm_ret d_GM_feed_60 rfl rfl (⟨fun z => by unfold gtok at z; first | exact ⟨rfl, rfl, rfl⟩ | (exfalso; omega), fun z y => by unfold gtok at z; first | exact ⟨rfl, rfl, rfl⟩ | (exfalso; omega), fun z y => by unfold gtok at z; first | exact ⟨by rw [], by rw [], rfl⟩ | (exfalso; omega)⟩)
                · skip
                  obtain rfl := hbq74 gq74
                  show jt _ 56 [(0, .ref m), (1, .int (jI k)), (2, .int (jI v))] [.int (jI 0)] (gmf m f0 I A) _ _ _
                  refine jt_if_eq (t := 61) d_GM_feed_56 rfl (by unfold jRi; omega) (fun c76 => ?_) (fun c76 => ?_)
                  · skip
                    refine jt_iload_n d_GM_feed_61 rfl ?_
                    refine jt_iconst d_GM_feed_62 ?_
                    refine jt_icmp_ne (t := 76) d_GM_feed_63 rfl (by unfold jRi; omega) (by unfold jRi; omega) (fun c77 => ?_) (fun c77 => ?_)
                    · skip
                      refine jt_iload_n d_GM_feed_76 rfl ?_
                      refine jt_iconst d_GM_feed_77 ?_
                      refine jt_icmp_ne (t := 94) d_GM_feed_78 rfl (by unfold jRi; omega) (by unfold jRi; omega) (fun c78 => ?_) (fun c78 => ?_)
                      · skip
                        refine jt_aload_n d_GM_feed_94 rfl ?_
                        refine gm_gI (k := 0) (v := I 0) d_GM_feed_95 GM_f7 (by decide) rfl ?_
                        refine jt_bipush d_GM_feed_98 (by omega) ?_
                        refine jt_icmp_ne (t := 106) d_GM_feed_100 rfl (by unfold jRi; omega) (by unfold jRi; omega) (fun c79 => ?_) (fun c79 => ?_)
                        · skip
                          refine jt_aload_n d_GM_feed_106 rfl ?_
                          refine gm_gA (k := 16) (a := m + 1) d_GM_feed_107 GM_f59 (by decide) (by decide) rfl ?_
                          refine jt_aload_n d_GM_feed_110 rfl ?_
                          refine gm_gI (k := 0) (v := I 0) d_GM_feed_111 GM_f7 (by decide) rfl ?_
                          refine jt_iload_n d_GM_feed_114 rfl ?_
                          refine gm_st0 (k := 16) (n := 120) (B := va_up A 16 (ju (A 16) (I 0) k)) d_GM_feed_115 rfl (by decide) (by decide) rfl rfl (by omega) (by omega) (by omega) rfl ?_
                          refine jt_aload_n d_GM_feed_116 rfl ?_
                          refine gm_gA (k := 17) (a := m + 2) d_GM_feed_117 GM_f63 (by decide) (by decide) rfl ?_
                          refine jt_aload_n d_GM_feed_120 rfl ?_
                          refine gm_gI (k := 0) (v := I 0) d_GM_feed_121 GM_f7 (by decide) rfl ?_
                          refine jt_iload_n d_GM_feed_124 rfl ?_
                          refine gm_st0 (k := 17) (n := 120) (B := va_up (va_up A 16 (ju (A 16) (I 0) k)) 17 (ju (A 17) (I 0) v)) d_GM_feed_125 rfl (by decide) (by decide) rfl rfl (by omega) (by omega) (by omega) rfl ?_
                          refine jt_aload_n d_GM_feed_126 rfl ?_
                          refine jt_dup d_GM_feed_127 rfl ?_
                          refine gm_gI (k := 0) (v := I 0) d_GM_feed_128 GM_f7 (by decide) rfl ?_
                          refine jt_iconst d_GM_feed_131 ?_
                          refine jt_iadd d_GM_feed_132 ?_
                          refine jt_topi (fun v80 ev80 => ?_)
                          refine gm_pI (k := 0) (v := v80) (J := va_up I 0 v80) d_GM_feed_133 (GM_w7 _ rfl) (by decide) rfl rfl rfl ?_
                          refine jt_aload_n d_GM_feed_136 rfl ?_
                          refine gm_gI (k := 0) (v := v80) d_GM_feed_137 GM_f7 (by decide) rfl ?_
                          exact gm_ret d_GM_feed_140 rfl rfl (⟨fun z => by unfold gtok at z; first | exact ⟨rfl, rfl, rfl⟩ | (exfalso; omega), fun z y => by unfold gtok at z; first | exact ⟨rfl, rfl, rfl⟩ | (exfalso; omega), fun z y => by unfold gtok at z; first | exact ⟨by rw [ev80], by rw [ev80], rfl⟩ | (exfalso; omega)⟩)
                        · skip
                          refine jt_bipush d_GM_feed_103 (by omega) ?_
                          exact gm_ret d_GM_feed_105 rfl rfl (⟨fun z => by unfold gtok at z; first | exact ⟨rfl, rfl, rfl⟩ | (exfalso; omega), fun z y => by unfold gtok at z; first | exact ⟨rfl, rfl, rfl⟩ | (exfalso; omega), fun z y => by unfold gtok at z; first | exact ⟨by rw [], by rw [], rfl⟩ | (exfalso; omega)⟩)
                      · skip
                        refine jt_aload_n d_GM_feed_81 rfl ?_
                        refine jt_iload_n d_GM_feed_82 rfl ?_
                        refine jt_iconst d_GM_feed_83 ?_
                        refine jt_bipush d_GM_feed_84 (by omega) ?_
                        refine gct_call (Y := Y_GM_out) (As := [.int (jI v), .int (jI 0), .int (jI 13)]) (rest := []) d_GM_feed_86 GM_c152 yk_GM_out yv_GM_out rfl (Nat.le_of_ble_eq_true rfl) rfl rfl (Nat.le_of_ble_eq_true rfl) (c_GM_out G _ m v 0 13 I A (by unfold jRi; omega) (by unfold jRi; omega) (by unfold jRi; omega)) (fun rvq81 Iq81 Aq81 hq81 => ?_)
                        obtain ⟨haq81, hbq81, hIq81, hAq81⟩ := hq81
                        rw [hIq81, hAq81]
                        by_cases gq81 : v < 0 ∨ 13 < v
                        · skip
                          obtain rfl := haq81 gq81
                          show jt _ 89 [(0, .ref m), (1, .int (jI k)), (2, .int (jI v))] [.int (jI 1)] (gmf m f0 I A) _ _ _
                          refine jt_if_eq (t := 94) d_GM_feed_89 rfl (by unfold jRi; omega) (fun c82 => ?_) (fun c82 => ?_)
                          · skip
                            exfalso
                            omega
                          · skip
                            refine jt_iconst d_GM_feed_92 ?_
                            exact gm_ret d_GM_feed_93 rfl rfl (⟨fun z => by unfold gtok at z; first | exact ⟨rfl, rfl, rfl⟩ | (exfalso; omega), fun z y => by unfold gtok at z; first | exact ⟨rfl, rfl, rfl⟩ | (exfalso; omega), fun z y => by unfold gtok at z; first | exact ⟨by rw [], by rw [], rfl⟩ | (exfalso; omega)⟩)
                        · skip
                          obtain rfl := hbq81 gq81
                          show jt _ 89 [(0, .ref m), (1, .int (jI k)), (2, .int (jI v))] [.int (jI 0)] (gmf m f0 I A) _ _ _
                          refine jt_if_eq (t := 94) d_GM_feed_89 rfl (by unfold jRi; omega) (fun c83 => ?_) (fun c83 => ?_)
                          · skip
                            refine jt_aload_n d_GM_feed_94 rfl ?_
                            refine gm_gI (k := 0) (v := I 0) d_GM_feed_95 GM_f7 (by decide) rfl ?_
                            refine jt_bipush d_GM_feed_98 (by omega) ?_
                            refine jt_icmp_ne (t := 106) d_GM_feed_100 rfl (by unfold jRi; omega) (by unfold jRi; omega) (fun c84 => ?_) (fun c84 => ?_)
                            · skip
                              refine jt_aload_n d_GM_feed_106 rfl ?_
                              refine gm_gA (k := 16) (a := m + 1) d_GM_feed_107 GM_f59 (by decide) (by decide) rfl ?_
                              refine jt_aload_n d_GM_feed_110 rfl ?_
                              refine gm_gI (k := 0) (v := I 0) d_GM_feed_111 GM_f7 (by decide) rfl ?_
                              refine jt_iload_n d_GM_feed_114 rfl ?_
                              refine gm_st0 (k := 16) (n := 120) (B := va_up A 16 (ju (A 16) (I 0) k)) d_GM_feed_115 rfl (by decide) (by decide) rfl rfl (by omega) (by omega) (by omega) rfl ?_
                              refine jt_aload_n d_GM_feed_116 rfl ?_
                              refine gm_gA (k := 17) (a := m + 2) d_GM_feed_117 GM_f63 (by decide) (by decide) rfl ?_
                              refine jt_aload_n d_GM_feed_120 rfl ?_
                              refine gm_gI (k := 0) (v := I 0) d_GM_feed_121 GM_f7 (by decide) rfl ?_
                              refine jt_iload_n d_GM_feed_124 rfl ?_
                              refine gm_st0 (k := 17) (n := 120) (B := va_up (va_up A 16 (ju (A 16) (I 0) k)) 17 (ju (A 17) (I 0) v)) d_GM_feed_125 rfl (by decide) (by decide) rfl rfl (by omega) (by omega) (by omega) rfl ?_
                              refine jt_aload_n d_GM_feed_126 rfl ?_
                              refine jt_dup d_GM_feed_127 rfl ?_
                              refine gm_gI (k := 0) (v := I 0) d_GM_feed_128 GM_f7 (by decide) rfl ?_
                              refine jt_iconst d_GM_feed_131 ?_
                              refine jt_iadd d_GM_feed_132 ?_
                              refine jt_topi (fun v85 ev85 => ?_)
                              refine gm_pI (k := 0) (v := v85) (J := va_up I 0 v85) d_GM_feed_133 (GM_w7 _ rfl) (by decide) rfl rfl rfl ?_
                              refine jt_aload_n d_GM_feed_136 rfl ?_
                              refine gm_gI (k := 0) (v := v85) d_GM_feed_137 GM_f7 (by decide) rfl ?_
                              exact gm_ret d_GM_feed_140 rfl rfl (⟨fun z => by unfold gtok at z; first | exact ⟨rfl, rfl, rfl⟩ | (exfalso; omega), fun z y => by unfold gtok at z; first | exact ⟨rfl, rfl, rfl⟩ | (exfalso; omega), fun z y => by unfold gtok at z; first | exact ⟨by rw [ev85], by rw [ev85], rfl⟩ | (exfalso; omega)⟩)
                            · skip
                              refine jt_bipush d_GM_feed_103 (by omega) ?_
                              exact gm_ret d_GM_feed_105 rfl rfl (⟨fun z => by unfold gtok at z; first | exact ⟨rfl, rfl, rfl⟩ | (exfalso; omega), fun z y => by unfold gtok at z; first | exact ⟨rfl, rfl, rfl⟩ | (exfalso; omega), fun z y => by unfold gtok at z; first | exact ⟨by rw [], by rw [], rfl⟩ | (exfalso; omega)⟩)
                          · skip
                            exfalso
                            omega
                    · skip
                      refine jt_aload_n d_GM_feed_66 rfl ?_
                      refine jt_iload_n d_GM_feed_67 rfl ?_
                      refine jt_iconst d_GM_feed_68 ?_
                      refine jt_iconst d_GM_feed_69 ?_
                      refine gct_call (Y := Y_GM_out) (As := [.int (jI v), .int (jI 0), .int (jI 5)]) (rest := []) d_GM_feed_70 GM_c152 yk_GM_out yv_GM_out rfl (Nat.le_of_ble_eq_true rfl) rfl rfl (Nat.le_of_ble_eq_true rfl) (c_GM_out G _ m v 0 5 I A (by unfold jRi; omega) (by unfold jRi; omega) (by unfold jRi; omega)) (fun rvq86 Iq86 Aq86 hq86 => ?_)
                      obtain ⟨haq86, hbq86, hIq86, hAq86⟩ := hq86
                      rw [hIq86, hAq86]
                      by_cases gq86 : v < 0 ∨ 5 < v
                      · skip
                        obtain rfl := haq86 gq86
                        show jt _ 73 [(0, .ref m), (1, .int (jI k)), (2, .int (jI v))] [.int (jI 1)] (gmf m f0 I A) _ _ _
                        refine jt_if_ne (t := 92) d_GM_feed_73 rfl (by unfold jRi; omega) (fun c87 => ?_) (fun c87 => ?_)
                        · skip
                          refine jt_iconst d_GM_feed_92 ?_
                          exact gm_ret d_GM_feed_93 rfl rfl (⟨fun z => by unfold gtok at z; first | exact ⟨rfl, rfl, rfl⟩ | (exfalso; omega), fun z y => by unfold gtok at z; first | exact ⟨rfl, rfl, rfl⟩ | (exfalso; omega), fun z y => by unfold gtok at z; first | exact ⟨by rw [], by rw [], rfl⟩ | (exfalso; omega)⟩)
                        · skip
                          exfalso
                          omega
                      · skip
                        obtain rfl := hbq86 gq86
                        show jt _ 73 [(0, .ref m), (1, .int (jI k)), (2, .int (jI v))] [.int (jI 0)] (gmf m f0 I A) _ _ _
                        refine jt_if_ne (t := 92) d_GM_feed_73 rfl (by unfold jRi; omega) (fun c88 => ?_) (fun c88 => ?_)
                        · skip
                          exfalso
                          omega
                        · skip
                          refine jt_iload_n d_GM_feed_76 rfl ?_
                          refine jt_iconst d_GM_feed_77 ?_
                          refine jt_icmp_ne (t := 94) d_GM_feed_78 rfl (by unfold jRi; omega) (by unfold jRi; omega) (fun c89 => ?_) (fun c89 => ?_)
                          · skip
                            refine jt_aload_n d_GM_feed_94 rfl ?_
                            refine gm_gI (k := 0) (v := I 0) d_GM_feed_95 GM_f7 (by decide) rfl ?_
                            refine jt_bipush d_GM_feed_98 (by omega) ?_
                            refine jt_icmp_ne (t := 106) d_GM_feed_100 rfl (by unfold jRi; omega) (by unfold jRi; omega) (fun c90 => ?_) (fun c90 => ?_)
                            · skip
                              refine jt_aload_n d_GM_feed_106 rfl ?_
                              refine gm_gA (k := 16) (a := m + 1) d_GM_feed_107 GM_f59 (by decide) (by decide) rfl ?_
                              refine jt_aload_n d_GM_feed_110 rfl ?_
                              refine gm_gI (k := 0) (v := I 0) d_GM_feed_111 GM_f7 (by decide) rfl ?_
                              refine jt_iload_n d_GM_feed_114 rfl ?_
                              refine gm_st0 (k := 16) (n := 120) (B := va_up A 16 (ju (A 16) (I 0) k)) d_GM_feed_115 rfl (by decide) (by decide) rfl rfl (by omega) (by omega) (by omega) rfl ?_
                              refine jt_aload_n d_GM_feed_116 rfl ?_
                              refine gm_gA (k := 17) (a := m + 2) d_GM_feed_117 GM_f63 (by decide) (by decide) rfl ?_
                              refine jt_aload_n d_GM_feed_120 rfl ?_
                              refine gm_gI (k := 0) (v := I 0) d_GM_feed_121 GM_f7 (by decide) rfl ?_
                              refine jt_iload_n d_GM_feed_124 rfl ?_
                              refine gm_st0 (k := 17) (n := 120) (B := va_up (va_up A 16 (ju (A 16) (I 0) k)) 17 (ju (A 17) (I 0) v)) d_GM_feed_125 rfl (by decide) (by decide) rfl rfl (by omega) (by omega) (by omega) rfl ?_
                              refine jt_aload_n d_GM_feed_126 rfl ?_
                              refine jt_dup d_GM_feed_127 rfl ?_
                              refine gm_gI (k := 0) (v := I 0) d_GM_feed_128 GM_f7 (by decide) rfl ?_
                              refine jt_iconst d_GM_feed_131 ?_
                              refine jt_iadd d_GM_feed_132 ?_
                              refine jt_topi (fun v91 ev91 => ?_)
                              refine gm_pI (k := 0) (v := v91) (J := va_up I 0 v91) d_GM_feed_133 (GM_w7 _ rfl) (by decide) rfl rfl rfl ?_
                              refine jt_aload_n d_GM_feed_136 rfl ?_
                              refine gm_gI (k := 0) (v := v91) d_GM_feed_137 GM_f7 (by decide) rfl ?_
                              exact gm_ret d_GM_feed_140 rfl rfl (⟨fun z => by unfold gtok at z; first | exact ⟨rfl, rfl, rfl⟩ | (exfalso; omega), fun z y => by unfold gtok at z; first | exact ⟨rfl, rfl, rfl⟩ | (exfalso; omega), fun z y => by unfold gtok at z; first | exact ⟨by rw [ev91], by rw [ev91], rfl⟩ | (exfalso; omega)⟩)
                            · skip
                              refine jt_bipush d_GM_feed_103 (by omega) ?_
                              exact gm_ret d_GM_feed_105 rfl rfl (⟨fun z => by unfold gtok at z; first | exact ⟨rfl, rfl, rfl⟩ | (exfalso; omega), fun z y => by unfold gtok at z; first | exact ⟨rfl, rfl, rfl⟩ | (exfalso; omega), fun z y => by unfold gtok at z; first | exact ⟨by rw [], by rw [], rfl⟩ | (exfalso; omega)⟩)
                          · skip
                            refine jt_aload_n d_GM_feed_81 rfl ?_
                            refine jt_iload_n d_GM_feed_82 rfl ?_
                            refine jt_iconst d_GM_feed_83 ?_
                            refine jt_bipush d_GM_feed_84 (by omega) ?_
                            refine gct_call (Y := Y_GM_out) (As := [.int (jI v), .int (jI 0), .int (jI 13)]) (rest := []) d_GM_feed_86 GM_c152 yk_GM_out yv_GM_out rfl (Nat.le_of_ble_eq_true rfl) rfl rfl (Nat.le_of_ble_eq_true rfl) (c_GM_out G _ m v 0 13 I A (by unfold jRi; omega) (by unfold jRi; omega) (by unfold jRi; omega)) (fun rvq92 Iq92 Aq92 hq92 => ?_)
                            obtain ⟨haq92, hbq92, hIq92, hAq92⟩ := hq92
                            rw [hIq92, hAq92]
                            by_cases gq92 : v < 0 ∨ 13 < v
                            · skip
                              obtain rfl := haq92 gq92
                              show jt _ 89 [(0, .ref m), (1, .int (jI k)), (2, .int (jI v))] [.int (jI 1)] (gmf m f0 I A) _ _ _
                              refine jt_if_eq (t := 94) d_GM_feed_89 rfl (by unfold jRi; omega) (fun c93 => ?_) (fun c93 => ?_)
                              · skip
                                exfalso
                                omega
                              · skip
                                refine jt_iconst d_GM_feed_92 ?_
                                exact gm_ret d_GM_feed_93 rfl rfl (⟨fun z => by unfold gtok at z; first | exact ⟨rfl, rfl, rfl⟩ | (exfalso; omega), fun z y => by unfold gtok at z; first | exact ⟨rfl, rfl, rfl⟩ | (exfalso; omega), fun z y => by unfold gtok at z; first | exact ⟨by rw [], by rw [], rfl⟩ | (exfalso; omega)⟩)
                            · skip
                              obtain rfl := hbq92 gq92
                              show jt _ 89 [(0, .ref m), (1, .int (jI k)), (2, .int (jI v))] [.int (jI 0)] (gmf m f0 I A) _ _ _
                              refine jt_if_eq (t := 94) d_GM_feed_89 rfl (by unfold jRi; omega) (fun c94 => ?_) (fun c94 => ?_)
                              · skip
                                refine jt_aload_n d_GM_feed_94 rfl ?_
                                refine gm_gI (k := 0) (v := I 0) d_GM_feed_95 GM_f7 (by decide) rfl ?_
                                refine jt_bipush d_GM_feed_98 (by omega) ?_
                                refine jt_icmp_ne (t := 106) d_GM_feed_100 rfl (by unfold jRi; omega) (by unfold jRi; omega) (fun c95 => ?_) (fun c95 => ?_)
                                · skip
                                  refine jt_aload_n d_GM_feed_106 rfl ?_
                                  refine gm_gA (k := 16) (a := m + 1) d_GM_feed_107 GM_f59 (by decide) (by decide) rfl ?_
                                  refine jt_aload_n d_GM_feed_110 rfl ?_
                                  refine gm_gI (k := 0) (v := I 0) d_GM_feed_111 GM_f7 (by decide) rfl ?_
                                  refine jt_iload_n d_GM_feed_114 rfl ?_
                                  refine gm_st0 (k := 16) (n := 120) (B := va_up A 16 (ju (A 16) (I 0) k)) d_GM_feed_115 rfl (by decide) (by decide) rfl rfl (by omega) (by omega) (by omega) rfl ?_
                                  refine jt_aload_n d_GM_feed_116 rfl ?_
                                  refine gm_gA (k := 17) (a := m + 2) d_GM_feed_117 GM_f63 (by decide) (by decide) rfl ?_
                                  refine jt_aload_n d_GM_feed_120 rfl ?_
                                  refine gm_gI (k := 0) (v := I 0) d_GM_feed_121 GM_f7 (by decide) rfl ?_
                                  refine jt_iload_n d_GM_feed_124 rfl ?_
                                  refine gm_st0 (k := 17) (n := 120) (B := va_up (va_up A 16 (ju (A 16) (I 0) k)) 17 (ju (A 17) (I 0) v)) d_GM_feed_125 rfl (by decide) (by decide) rfl rfl (by omega) (by omega) (by omega) rfl ?_
                                  refine jt_aload_n d_GM_feed_126 rfl ?_
                                  refine jt_dup d_GM_feed_127 rfl ?_
                                  refine gm_gI (k := 0) (v := I 0) d_GM_feed_128 GM_f7 (by decide) rfl ?_
                                  refine jt_iconst d_GM_feed_131 ?_
                                  refine jt_iadd d_GM_feed_132 ?_
                                  refine jt_topi (fun v96 ev96 => ?_)
                                  refine gm_pI (k := 0) (v := v96) (J := va_up I 0 v96) d_GM_feed_133 (GM_w7 _ rfl) (by decide) rfl rfl rfl ?_
                                  refine jt_aload_n d_GM_feed_136 rfl ?_
                                  refine gm_gI (k := 0) (v := v96) d_GM_feed_137 GM_f7 (by decide) rfl ?_
                                  exact gm_ret d_GM_feed_140 rfl rfl (⟨fun z => by unfold gtok at z; first | exact ⟨rfl, rfl, rfl⟩ | (exfalso; omega), fun z y => by unfold gtok at z; first | exact ⟨rfl, rfl, rfl⟩ | (exfalso; omega), fun z y => by unfold gtok at z; first | exact ⟨by rw [ev96], by rw [ev96], rfl⟩ | (exfalso; omega)⟩)
                                · skip
                                  refine jt_bipush d_GM_feed_103 (by omega) ?_
                                  exact gm_ret d_GM_feed_105 rfl rfl (⟨fun z => by unfold gtok at z; first | exact ⟨rfl, rfl, rfl⟩ | (exfalso; omega), fun z y => by unfold gtok at z; first | exact ⟨rfl, rfl, rfl⟩ | (exfalso; omega), fun z y => by unfold gtok at z; first | exact ⟨by rw [], by rw [], rfl⟩ | (exfalso; omega)⟩)
                              · skip
                                exfalso
                                omega
                  · skip
                    exfalso
                    omega
      · skip
        refine jt_aload_n d_GM_feed_14 rfl ?_
        refine jt_iload_n d_GM_feed_15 rfl ?_
        refine jt_sipush d_GM_feed_16 (by omega) ?_
        refine jt_sipush d_GM_feed_19 (by omega) ?_
        refine gct_call (Y := Y_GM_out) (As := [.int (jI v), .int (jI (-16000)), .int (jI 16000)]) (rest := []) d_GM_feed_22 GM_c152 yk_GM_out yv_GM_out rfl (Nat.le_of_ble_eq_true rfl) rfl rfl (Nat.le_of_ble_eq_true rfl) (c_GM_out G _ m v (-16000) 16000 I A (by unfold jRi; omega) (by unfold jRi; omega) (by unfold jRi; omega)) (fun rvq97 Iq97 Aq97 hq97 => ?_)
        obtain ⟨haq97, hbq97, hIq97, hAq97⟩ := hq97
        rw [hIq97, hAq97]
        by_cases gq97 : v < (-16000) ∨ 16000 < v
        · skip
          obtain rfl := haq97 gq97
          show jt _ 25 [(0, .ref m), (1, .int (jI k)), (2, .int (jI v))] [.int (jI 1)] (gmf m f0 I A) _ _ _
          refine jt_if_ne (t := 59) d_GM_feed_25 rfl (by unfold jRi; omega) (fun c98 => ?_) (fun c98 => ?_)
          · skip
            refine jt_iconst d_GM_feed_59 ?_
            exact gm_ret d_GM_feed_60 rfl rfl (⟨fun z => by unfold gtok at z; first | exact ⟨rfl, rfl, rfl⟩ | (exfalso; omega), fun z y => by unfold gtok at z; first | exact ⟨rfl, rfl, rfl⟩ | (exfalso; omega), fun z y => by unfold gtok at z; first | exact ⟨by rw [], by rw [], rfl⟩ | (exfalso; omega)⟩)
          · skip
            exfalso
            omega
        · skip
          obtain rfl := hbq97 gq97
          show jt _ 25 [(0, .ref m), (1, .int (jI k)), (2, .int (jI v))] [.int (jI 0)] (gmf m f0 I A) _ _ _
          refine jt_if_ne (t := 59) d_GM_feed_25 rfl (by unfold jRi; omega) (fun c99 => ?_) (fun c99 => ?_)
          · skip
            exfalso
            omega
          · skip
            refine jt_iload_n d_GM_feed_28 rfl ?_
            refine jt_iconst d_GM_feed_29 ?_
            refine jt_icmp_ne (t := 44) d_GM_feed_30 rfl (by unfold jRi; omega) (by unfold jRi; omega) (fun c100 => ?_) (fun c100 => ?_)
            · skip
              refine jt_iload_n d_GM_feed_44 rfl ?_
              refine jt_iconst d_GM_feed_45 ?_
              refine jt_icmp_ne (t := 61) d_GM_feed_46 rfl (by unfold jRi; omega) (by unfold jRi; omega) (fun c101 => ?_) (fun c101 => ?_)
              · skip
                refine jt_iload_n d_GM_feed_61 rfl ?_
                refine jt_iconst d_GM_feed_62 ?_
                refine jt_icmp_ne (t := 76) d_GM_feed_63 rfl (by unfold jRi; omega) (by unfold jRi; omega) (fun c102 => ?_) (fun c102 => ?_)
                · skip
                  refine jt_iload_n d_GM_feed_76 rfl ?_
                  refine jt_iconst d_GM_feed_77 ?_
                  refine jt_icmp_ne (t := 94) d_GM_feed_78 rfl (by unfold jRi; omega) (by unfold jRi; omega) (fun c103 => ?_) (fun c103 => ?_)
                  · skip
                    refine jt_aload_n d_GM_feed_94 rfl ?_
                    refine gm_gI (k := 0) (v := I 0) d_GM_feed_95 GM_f7 (by decide) rfl ?_
                    refine jt_bipush d_GM_feed_98 (by omega) ?_
                    refine jt_icmp_ne (t := 106) d_GM_feed_100 rfl (by unfold jRi; omega) (by unfold jRi; omega) (fun c104 => ?_) (fun c104 => ?_)
                    · skip
                      refine jt_aload_n d_GM_feed_106 rfl ?_
                      refine gm_gA (k := 16) (a := m + 1) d_GM_feed_107 GM_f59 (by decide) (by decide) rfl ?_
                      refine jt_aload_n d_GM_feed_110 rfl ?_
                      refine gm_gI (k := 0) (v := I 0) d_GM_feed_111 GM_f7 (by decide) rfl ?_
                      refine jt_iload_n d_GM_feed_114 rfl ?_
                      refine gm_st0 (k := 16) (n := 120) (B := va_up A 16 (ju (A 16) (I 0) k)) d_GM_feed_115 rfl (by decide) (by decide) rfl rfl (by omega) (by omega) (by omega) rfl ?_
                      refine jt_aload_n d_GM_feed_116 rfl ?_
                      refine gm_gA (k := 17) (a := m + 2) d_GM_feed_117 GM_f63 (by decide) (by decide) rfl ?_
                      refine jt_aload_n d_GM_feed_120 rfl ?_
                      refine gm_gI (k := 0) (v := I 0) d_GM_feed_121 GM_f7 (by decide) rfl ?_
                      refine jt_iload_n d_GM_feed_124 rfl ?_
                      refine gm_st0 (k := 17) (n := 120) (B := va_up (va_up A 16 (ju (A 16) (I 0) k)) 17 (ju (A 17) (I 0) v)) d_GM_feed_125 rfl (by decide) (by decide) rfl rfl (by omega) (by omega) (by omega) rfl ?_
                      refine jt_aload_n d_GM_feed_126 rfl ?_
                      refine jt_dup d_GM_feed_127 rfl ?_
                      refine gm_gI (k := 0) (v := I 0) d_GM_feed_128 GM_f7 (by decide) rfl ?_
                      refine jt_iconst d_GM_feed_131 ?_
                      refine jt_iadd d_GM_feed_132 ?_
                      refine jt_topi (fun v105 ev105 => ?_)
                      refine gm_pI (k := 0) (v := v105) (J := va_up I 0 v105) d_GM_feed_133 (GM_w7 _ rfl) (by decide) rfl rfl rfl ?_
                      refine jt_aload_n d_GM_feed_136 rfl ?_
                      refine gm_gI (k := 0) (v := v105) d_GM_feed_137 GM_f7 (by decide) rfl ?_
                      exact gm_ret d_GM_feed_140 rfl rfl (⟨fun z => by unfold gtok at z; first | exact ⟨rfl, rfl, rfl⟩ | (exfalso; omega), fun z y => by unfold gtok at z; first | exact ⟨rfl, rfl, rfl⟩ | (exfalso; omega), fun z y => by unfold gtok at z; first | exact ⟨by rw [ev105], by rw [ev105], rfl⟩ | (exfalso; omega)⟩)
                    · skip
                      refine jt_bipush d_GM_feed_103 (by omega) ?_
                      exact gm_ret d_GM_feed_105 rfl rfl (⟨fun z => by unfold gtok at z; first | exact ⟨rfl, rfl, rfl⟩ | (exfalso; omega), fun z y => by unfold gtok at z; first | exact ⟨rfl, rfl, rfl⟩ | (exfalso; omega), fun z y => by unfold gtok at z; first | exact ⟨by rw [], by rw [], rfl⟩ | (exfalso; omega)⟩)
                  · skip
                    refine jt_aload_n d_GM_feed_81 rfl ?_
                    refine jt_iload_n d_GM_feed_82 rfl ?_
                    refine jt_iconst d_GM_feed_83 ?_
                    refine jt_bipush d_GM_feed_84 (by omega) ?_
                    refine gct_call (Y := Y_GM_out) (As := [.int (jI v), .int (jI 0), .int (jI 13)]) (rest := []) d_GM_feed_86 GM_c152 yk_GM_out yv_GM_out rfl (Nat.le_of_ble_eq_true rfl) rfl rfl (Nat.le_of_ble_eq_true rfl) (c_GM_out G _ m v 0 13 I A (by unfold jRi; omega) (by unfold jRi; omega) (by unfold jRi; omega)) (fun rvq106 Iq106 Aq106 hq106 => ?_)
                    obtain ⟨haq106, hbq106, hIq106, hAq106⟩ := hq106
                    rw [hIq106, hAq106]
                    by_cases gq106 : v < 0 ∨ 13 < v
                    · skip
                      obtain rfl := haq106 gq106
                      show jt _ 89 [(0, .ref m), (1, .int (jI k)), (2, .int (jI v))] [.int (jI 1)] (gmf m f0 I A) _ _ _
                      refine jt_if_eq (t := 94) d_GM_feed_89 rfl (by unfold jRi; omega) (fun c107 => ?_) (fun c107 => ?_)
                      · skip
                        exfalso
                        omega
                      · skip
                        refine jt_iconst d_GM_feed_92 ?_
                        exact gm_ret d_GM_feed_93 rfl rfl (⟨fun z => by unfold gtok at z; first | exact ⟨rfl, rfl, rfl⟩ | (exfalso; omega), fun z y => by unfold gtok at z; first | exact ⟨rfl, rfl, rfl⟩ | (exfalso; omega), fun z y => by unfold gtok at z; first | exact ⟨by rw [], by rw [], rfl⟩ | (exfalso; omega)⟩)
                    · skip
                      obtain rfl := hbq106 gq106
                      show jt _ 89 [(0, .ref m), (1, .int (jI k)), (2, .int (jI v))] [.int (jI 0)] (gmf m f0 I A) _ _ _
                      refine jt_if_eq (t := 94) d_GM_feed_89 rfl (by unfold jRi; omega) (fun c108 => ?_) (fun c108 => ?_)
                      · skip
                        refine jt_aload_n d_GM_feed_94 rfl ?_
                        refine gm_gI (k := 0) (v := I 0) d_GM_feed_95 GM_f7 (by decide) rfl ?_
                        refine jt_bipush d_GM_feed_98 (by omega) ?_
                        refine jt_icmp_ne (t := 106) d_GM_feed_100 rfl (by unfold jRi; omega) (by unfold jRi; omega) (fun c109 => ?_) (fun c109 => ?_)
                        · skip
                          refine jt_aload_n d_GM_feed_106 rfl ?_
                          refine gm_gA (k := 16) (a := m + 1) d_GM_feed_107 GM_f59 (by decide) (by decide) rfl ?_
                          refine jt_aload_n d_GM_feed_110 rfl ?_
                          refine gm_gI (k := 0) (v := I 0) d_GM_feed_111 GM_f7 (by decide) rfl ?_
                          refine jt_iload_n d_GM_feed_114 rfl ?_
                          refine gm_st0 (k := 16) (n := 120) (B := va_up A 16 (ju (A 16) (I 0) k)) d_GM_feed_115 rfl (by decide) (by decide) rfl rfl (by omega) (by omega) (by omega) rfl ?_
                          refine jt_aload_n d_GM_feed_116 rfl ?_
                          refine gm_gA (k := 17) (a := m + 2) d_GM_feed_117 GM_f63 (by decide) (by decide) rfl ?_
                          refine jt_aload_n d_GM_feed_120 rfl ?_
                          refine gm_gI (k := 0) (v := I 0) d_GM_feed_121 GM_f7 (by decide) rfl ?_
                          refine jt_iload_n d_GM_feed_124 rfl ?_
                          refine gm_st0 (k := 17) (n := 120) (B := va_up (va_up A 16 (ju (A 16) (I 0) k)) 17 (ju (A 17) (I 0) v)) d_GM_feed_125 rfl (by decide) (by decide) rfl rfl (by omega) (by omega) (by omega) rfl ?_
                          refine jt_aload_n d_GM_feed_126 rfl ?_
                          refine jt_dup d_GM_feed_127 rfl ?_
                          refine gm_gI (k := 0) (v := I 0) d_GM_feed_128 GM_f7 (by decide) rfl ?_
                          refine jt_iconst d_GM_feed_131 ?_
                          refine jt_iadd d_GM_feed_132 ?_
                          refine jt_topi (fun v110 ev110 => ?_)
                          refine gm_pI (k := 0) (v := v110) (J := va_up I 0 v110) d_GM_feed_133 (GM_w7 _ rfl) (by decide) rfl rfl rfl ?_
                          refine jt_aload_n d_GM_feed_136 rfl ?_
                          refine gm_gI (k := 0) (v := v110) d_GM_feed_137 GM_f7 (by decide) rfl ?_
                          exact gm_ret d_GM_feed_140 rfl rfl (⟨fun z => by unfold gtok at z; first | exact ⟨rfl, rfl, rfl⟩ | (exfalso; omega), fun z y => by unfold gtok at z; first | exact ⟨rfl, rfl, rfl⟩ | (exfalso; omega), fun z y => by unfold gtok at z; first | exact ⟨by rw [ev110], by rw [ev110], rfl⟩ | (exfalso; omega)⟩)
                        · skip
                          refine jt_bipush d_GM_feed_103 (by omega) ?_
                          exact gm_ret d_GM_feed_105 rfl rfl (⟨fun z => by unfold gtok at z; first | exact ⟨rfl, rfl, rfl⟩ | (exfalso; omega), fun z y => by unfold gtok at z; first | exact ⟨rfl, rfl, rfl⟩ | (exfalso; omega), fun z y => by unfold gtok at z; first | exact ⟨by rw [], by rw [], rfl⟩ | (exfalso; omega)⟩)
                      · skip
                        exfalso
                        omega
                · skip
                  refine jt_aload_n d_GM_feed_66 rfl ?_
                  refine jt_iload_n d_GM_feed_67 rfl ?_
                  refine jt_iconst d_GM_feed_68 ?_
                  refine jt_iconst d_GM_feed_69 ?_
                  refine gct_call (Y := Y_GM_out) (As := [.int (jI v), .int (jI 0), .int (jI 5)]) (rest := []) d_GM_feed_70 GM_c152 yk_GM_out yv_GM_out rfl (Nat.le_of_ble_eq_true rfl) rfl rfl (Nat.le_of_ble_eq_true rfl) (c_GM_out G _ m v 0 5 I A (by unfold jRi; omega) (by unfold jRi; omega) (by unfold jRi; omega)) (fun rvq111 Iq111 Aq111 hq111 => ?_)
                  obtain ⟨haq111, hbq111, hIq111, hAq111⟩ := hq111
                  rw [hIq111, hAq111]
                  by_cases gq111 : v < 0 ∨ 5 < v
                  · skip
                    obtain rfl := haq111 gq111
                    show jt _ 73 [(0, .ref m), (1, .int (jI k)), (2, .int (jI v))] [.int (jI 1)] (gmf m f0 I A) _ _ _
                    refine jt_if_ne (t := 92) d_GM_feed_73 rfl (by unfold jRi; omega) (fun c112 => ?_) (fun c112 => ?_)
                    · skip
                      refine jt_iconst d_GM_feed_92 ?_
                      exact gm_ret d_GM_feed_93 rfl rfl (⟨fun z => by unfold gtok at z; first | exact ⟨rfl, rfl, rfl⟩ | (exfalso; omega), fun z y => by unfold gtok at z; first | exact ⟨rfl, rfl, rfl⟩ | (exfalso; omega), fun z y => by unfold gtok at z; first | exact ⟨by rw [], by rw [], rfl⟩ | (exfalso; omega)⟩)
                    · skip
                      exfalso
                      omega
                  · skip
                    obtain rfl := hbq111 gq111
                    show jt _ 73 [(0, .ref m), (1, .int (jI k)), (2, .int (jI v))] [.int (jI 0)] (gmf m f0 I A) _ _ _
                    refine jt_if_ne (t := 92) d_GM_feed_73 rfl (by unfold jRi; omega) (fun c113 => ?_) (fun c113 => ?_)
                    · skip
                      exfalso
                      omega
                    · skip
                      refine jt_iload_n d_GM_feed_76 rfl ?_
                      refine jt_iconst d_GM_feed_77 ?_
                      refine jt_icmp_ne (t := 94) d_GM_feed_78 rfl (by unfold jRi; omega) (by unfold jRi; omega) (fun c114 => ?_) (fun c114 => ?_)
                      · skip
                        refine jt_aload_n d_GM_feed_94 rfl ?_
                        refine gm_gI (k := 0) (v := I 0) d_GM_feed_95 GM_f7 (by decide) rfl ?_
                        refine jt_bipush d_GM_feed_98 (by omega) ?_
                        refine jt_icmp_ne (t := 106) d_GM_feed_100 rfl (by unfold jRi; omega) (by unfold jRi; omega) (fun c115 => ?_) (fun c115 => ?_)
                        · skip
                          refine jt_aload_n d_GM_feed_106 rfl ?_
                          refine gm_gA (k := 16) (a := m + 1) d_GM_feed_107 GM_f59 (by decide) (by decide) rfl ?_
                          refine jt_aload_n d_GM_feed_110 rfl ?_
                          refine gm_gI (k := 0) (v := I 0) d_GM_feed_111 GM_f7 (by decide) rfl ?_
                          refine jt_iload_n d_GM_feed_114 rfl ?_
                          refine gm_st0 (k := 16) (n := 120) (B := va_up A 16 (ju (A 16) (I 0) k)) d_GM_feed_115 rfl (by decide) (by decide) rfl rfl (by omega) (by omega) (by omega) rfl ?_
                          refine jt_aload_n d_GM_feed_116 rfl ?_
                          refine gm_gA (k := 17) (a := m + 2) d_GM_feed_117 GM_f63 (by decide) (by decide) rfl ?_
                          refine jt_aload_n d_GM_feed_120 rfl ?_
                          refine gm_gI (k := 0) (v := I 0) d_GM_feed_121 GM_f7 (by decide) rfl ?_
                          refine jt_iload_n d_GM_feed_124 rfl ?_
                          refine gm_st0 (k := 17) (n := 120) (B := va_up (va_up A 16 (ju (A 16) (I 0) k)) 17 (ju (A 17) (I 0) v)) d_GM_feed_125 rfl (by decide) (by decide) rfl rfl (by omega) (by omega) (by omega) rfl ?_
                          refine jt_aload_n d_GM_feed_126 rfl ?_
                          refine jt_dup d_GM_feed_127 rfl ?_
                          refine gm_gI (k := 0) (v := I 0) d_GM_feed_128 GM_f7 (by decide) rfl ?_
                          refine jt_iconst d_GM_feed_131 ?_
                          refine jt_iadd d_GM_feed_132 ?_
                          refine jt_topi (fun v116 ev116 => ?_)
                          refine gm_pI (k := 0) (v := v116) (J := va_up I 0 v116) d_GM_feed_133 (GM_w7 _ rfl) (by decide) rfl rfl rfl ?_
                          refine jt_aload_n d_GM_feed_136 rfl ?_
                          refine gm_gI (k := 0) (v := v116) d_GM_feed_137 GM_f7 (by decide) rfl ?_
                          exact gm_ret d_GM_feed_140 rfl rfl (⟨fun z => by unfold gtok at z; first | exact ⟨rfl, rfl, rfl⟩ | (exfalso; omega), fun z y => by unfold gtok at z; first | exact ⟨rfl, rfl, rfl⟩ | (exfalso; omega), fun z y => by unfold gtok at z; first | exact ⟨by rw [ev116], by rw [ev116], rfl⟩ | (exfalso; omega)⟩)
                        · skip
                          refine jt_bipush d_GM_feed_103 (by omega) ?_
                          exact gm_ret d_GM_feed_105 rfl rfl (⟨fun z => by unfold gtok at z; first | exact ⟨rfl, rfl, rfl⟩ | (exfalso; omega), fun z y => by unfold gtok at z; first | exact ⟨rfl, rfl, rfl⟩ | (exfalso; omega), fun z y => by unfold gtok at z; first | exact ⟨by rw [], by rw [], rfl⟩ | (exfalso; omega)⟩)
                      · skip
                        refine jt_aload_n d_GM_feed_81 rfl ?_
                        refine jt_iload_n d_GM_feed_82 rfl ?_
                        refine jt_iconst d_GM_feed_83 ?_
                        refine jt_bipush d_GM_feed_84 (by omega) ?_
                        refine gct_call (Y := Y_GM_out) (As := [.int (jI v), .int (jI 0), .int (jI 13)]) (rest := []) d_GM_feed_86 GM_c152 yk_GM_out yv_GM_out rfl (Nat.le_of_ble_eq_true rfl) rfl rfl (Nat.le_of_ble_eq_true rfl) (c_GM_out G _ m v 0 13 I A (by unfold jRi; omega) (by unfold jRi; omega) (by unfold jRi; omega)) (fun rvq117 Iq117 Aq117 hq117 => ?_)
                        obtain ⟨haq117, hbq117, hIq117, hAq117⟩ := hq117
                        rw [hIq117, hAq117]
                        by_cases gq117 : v < 0 ∨ 13 < v
                        · skip
                          obtain rfl := haq117 gq117
                          show jt _ 89 [(0, .ref m), (1, .int (jI k)), (2, .int (jI v))] [.int (jI 1)] (gmf m f0 I A) _ _ _
                          refine jt_if_eq (t := 94) d_GM_feed_89 rfl (by unfold jRi; omega) (fun c118 => ?_) (fun c118 => ?_)
                          · skip
                            exfalso
                            omega
                          · skip
                            refine jt_iconst d_GM_feed_92 ?_
                            exact gm_ret d_GM_feed_93 rfl rfl (⟨fun z => by unfold gtok at z; first | exact ⟨rfl, rfl, rfl⟩ | (exfalso; omega), fun z y => by unfold gtok at z; first | exact ⟨rfl, rfl, rfl⟩ | (exfalso; omega), fun z y => by unfold gtok at z; first | exact ⟨by rw [], by rw [], rfl⟩ | (exfalso; omega)⟩)
                        · skip
                          obtain rfl := hbq117 gq117
                          show jt _ 89 [(0, .ref m), (1, .int (jI k)), (2, .int (jI v))] [.int (jI 0)] (gmf m f0 I A) _ _ _
                          refine jt_if_eq (t := 94) d_GM_feed_89 rfl (by unfold jRi; omega) (fun c119 => ?_) (fun c119 => ?_)
                          · skip
                            refine jt_aload_n d_GM_feed_94 rfl ?_
                            refine gm_gI (k := 0) (v := I 0) d_GM_feed_95 GM_f7 (by decide) rfl ?_
                            refine jt_bipush d_GM_feed_98 (by omega) ?_
                            refine jt_icmp_ne (t := 106) d_GM_feed_100 rfl (by unfold jRi; omega) (by unfold jRi; omega) (fun c120 => ?_) (fun c120 => ?_)
                            · skip
                              refine jt_aload_n d_GM_feed_106 rfl ?_
                              refine gm_gA (k := 16) (a := m + 1) d_GM_feed_107 GM_f59 (by decide) (by decide) rfl ?_
                              refine jt_aload_n d_GM_feed_110 rfl ?_
                              refine gm_gI (k := 0) (v := I 0) d_GM_feed_111 GM_f7 (by decide) rfl ?_
                              refine jt_iload_n d_GM_feed_114 rfl ?_
                              refine gm_st0 (k := 16) (n := 120) (B := va_up A 16 (ju (A 16) (I 0) k)) d_GM_feed_115 rfl (by decide) (by decide) rfl rfl (by omega) (by omega) (by omega) rfl ?_
                              refine jt_aload_n d_GM_feed_116 rfl ?_
                              refine gm_gA (k := 17) (a := m + 2) d_GM_feed_117 GM_f63 (by decide) (by decide) rfl ?_
                              refine jt_aload_n d_GM_feed_120 rfl ?_
                              refine gm_gI (k := 0) (v := I 0) d_GM_feed_121 GM_f7 (by decide) rfl ?_
                              refine jt_iload_n d_GM_feed_124 rfl ?_
                              refine gm_st0 (k := 17) (n := 120) (B := va_up (va_up A 16 (ju (A 16) (I 0) k)) 17 (ju (A 17) (I 0) v)) d_GM_feed_125 rfl (by decide) (by decide) rfl rfl (by omega) (by omega) (by omega) rfl ?_
                              refine jt_aload_n d_GM_feed_126 rfl ?_
                              refine jt_dup d_GM_feed_127 rfl ?_
                              refine gm_gI (k := 0) (v := I 0) d_GM_feed_128 GM_f7 (by decide) rfl ?_
                              refine jt_iconst d_GM_feed_131 ?_
                              refine jt_iadd d_GM_feed_132 ?_
                              refine jt_topi (fun v121 ev121 => ?_)
                              refine gm_pI (k := 0) (v := v121) (J := va_up I 0 v121) d_GM_feed_133 (GM_w7 _ rfl) (by decide) rfl rfl rfl ?_
                              refine jt_aload_n d_GM_feed_136 rfl ?_
                              refine gm_gI (k := 0) (v := v121) d_GM_feed_137 GM_f7 (by decide) rfl ?_
                              exact gm_ret d_GM_feed_140 rfl rfl (⟨fun z => by unfold gtok at z; first | exact ⟨rfl, rfl, rfl⟩ | (exfalso; omega), fun z y => by unfold gtok at z; first | exact ⟨rfl, rfl, rfl⟩ | (exfalso; omega), fun z y => by unfold gtok at z; first | exact ⟨by rw [ev121], by rw [ev121], rfl⟩ | (exfalso; omega)⟩)
                            · skip
                              refine jt_bipush d_GM_feed_103 (by omega) ?_
                              exact gm_ret d_GM_feed_105 rfl rfl (⟨fun z => by unfold gtok at z; first | exact ⟨rfl, rfl, rfl⟩ | (exfalso; omega), fun z y => by unfold gtok at z; first | exact ⟨rfl, rfl, rfl⟩ | (exfalso; omega), fun z y => by unfold gtok at z; first | exact ⟨by rw [], by rw [], rfl⟩ | (exfalso; omega)⟩)
                          · skip
                            exfalso
                            omega
              · skip
                refine jt_aload_n d_GM_feed_49 rfl ?_
                refine jt_iload_n d_GM_feed_50 rfl ?_
                refine jt_iconst d_GM_feed_51 ?_
                refine jt_iconst d_GM_feed_52 ?_
                refine gct_call (Y := Y_GM_out) (As := [.int (jI v), .int (jI 0), .int (jI 2)]) (rest := []) d_GM_feed_53 GM_c152 yk_GM_out yv_GM_out rfl (Nat.le_of_ble_eq_true rfl) rfl rfl (Nat.le_of_ble_eq_true rfl) (c_GM_out G _ m v 0 2 I A (by unfold jRi; omega) (by unfold jRi; omega) (by unfold jRi; omega)) (fun rvq122 Iq122 Aq122 hq122 => ?_)
                obtain ⟨haq122, hbq122, hIq122, hAq122⟩ := hq122
                rw [hIq122, hAq122]
                by_cases gq122 : v < 0 ∨ 2 < v
                · skip
                  obtain rfl := haq122 gq122
                  show jt _ 56 [(0, .ref m), (1, .int (jI k)), (2, .int (jI v))] [.int (jI 1)] (gmf m f0 I A) _ _ _
                  refine jt_if_eq (t := 61) d_GM_feed_56 rfl (by unfold jRi; omega) (fun c123 => ?_) (fun c123 => ?_)
                  · skip
                    exfalso
                    omega
                  · skip
                    refine jt_iconst d_GM_feed_59 ?_
                    exact gm_ret d_GM_feed_60 rfl rfl (⟨fun z => by unfold gtok at z; first | exact ⟨rfl, rfl, rfl⟩ | (exfalso; omega), fun z y => by unfold gtok at z; first | exact ⟨rfl, rfl, rfl⟩ | (exfalso; omega), fun z y => by unfold gtok at z; first | exact ⟨by rw [], by rw [], rfl⟩ | (exfalso; omega)⟩)
                · skip
                  obtain rfl := hbq122 gq122
                  show jt _ 56 [(0, .ref m), (1, .int (jI k)), (2, .int (jI v))] [.int (jI 0)] (gmf m f0 I A) _ _ _
                  refine jt_if_eq (t := 61) d_GM_feed_56 rfl (by unfold jRi; omega) (fun c124 => ?_) (fun c124 => ?_)
                  · skip
                    refine jt_iload_n d_GM_feed_61 rfl ?_
                    refine jt_iconst d_GM_feed_62 ?_
                    refine jt_icmp_ne (t := 76) d_GM_feed_63 rfl (by unfold jRi; omega) (by unfold jRi; omega) (fun c125 => ?_) (fun c125 => ?_)
                    · skip
                      refine jt_iload_n d_GM_feed_76 rfl ?_
                      refine jt_iconst d_GM_feed_77 ?_
                      refine jt_icmp_ne (t := 94) d_GM_feed_78 rfl (by unfold jRi; omega) (by unfold jRi; omega) (fun c126 => ?_) (fun c126 => ?_)
                      · skip
                        refine jt_aload_n d_GM_feed_94 rfl ?_
                        refine gm_gI (k := 0) (v := I 0) d_GM_feed_95 GM_f7 (by decide) rfl ?_
                        refine jt_bipush d_GM_feed_98 (by omega) ?_
                        refine jt_icmp_ne (t := 106) d_GM_feed_100 rfl (by unfold jRi; omega) (by unfold jRi; omega) (fun c127 => ?_) (fun c127 => ?_)
                        · skip
                          refine jt_aload_n d_GM_feed_106 rfl ?_
                          refine gm_gA (k := 16) (a := m + 1) d_GM_feed_107 GM_f59 (by decide) (by decide) rfl ?_
                          refine jt_aload_n d_GM_feed_110 rfl ?_
                          refine gm_gI (k := 0) (v := I 0) d_GM_feed_111 GM_f7 (by decide) rfl ?_
                          refine jt_iload_n d_GM_feed_114 rfl ?_
                          refine gm_st0 (k := 16) (n := 120) (B := va_up A 16 (ju (A 16) (I 0) k)) d_GM_feed_115 rfl (by decide) (by decide) rfl rfl (by omega) (by omega) (by omega) rfl ?_
                          refine jt_aload_n d_GM_feed_116 rfl ?_
                          refine gm_gA (k := 17) (a := m + 2) d_GM_feed_117 GM_f63 (by decide) (by decide) rfl ?_
                          refine jt_aload_n d_GM_feed_120 rfl ?_
                          refine gm_gI (k := 0) (v := I 0) d_GM_feed_121 GM_f7 (by decide) rfl ?_
                          refine jt_iload_n d_GM_feed_124 rfl ?_
                          refine gm_st0 (k := 17) (n := 120) (B := va_up (va_up A 16 (ju (A 16) (I 0) k)) 17 (ju (A 17) (I 0) v)) d_GM_feed_125 rfl (by decide) (by decide) rfl rfl (by omega) (by omega) (by omega) rfl ?_
                          refine jt_aload_n d_GM_feed_126 rfl ?_
                          refine jt_dup d_GM_feed_127 rfl ?_
                          refine gm_gI (k := 0) (v := I 0) d_GM_feed_128 GM_f7 (by decide) rfl ?_
                          refine jt_iconst d_GM_feed_131 ?_
                          refine jt_iadd d_GM_feed_132 ?_
                          refine jt_topi (fun v128 ev128 => ?_)
                          refine gm_pI (k := 0) (v := v128) (J := va_up I 0 v128) d_GM_feed_133 (GM_w7 _ rfl) (by decide) rfl rfl rfl ?_
                          refine jt_aload_n d_GM_feed_136 rfl ?_
                          refine gm_gI (k := 0) (v := v128) d_GM_feed_137 GM_f7 (by decide) rfl ?_
                          exact gm_ret d_GM_feed_140 rfl rfl (⟨fun z => by unfold gtok at z; first | exact ⟨rfl, rfl, rfl⟩ | (exfalso; omega), fun z y => by unfold gtok at z; first | exact ⟨rfl, rfl, rfl⟩ | (exfalso; omega), fun z y => by unfold gtok at z; first | exact ⟨by rw [ev128], by rw [ev128], rfl⟩ | (exfalso; omega)⟩)
                        · skip
                          refine jt_bipush d_GM_feed_103 (by omega) ?_
                          exact gm_ret d_GM_feed_105 rfl rfl (⟨fun z => by unfold gtok at z; first | exact ⟨rfl, rfl, rfl⟩ | (exfalso; omega), fun z y => by unfold gtok at z; first | exact ⟨rfl, rfl, rfl⟩ | (exfalso; omega), fun z y => by unfold gtok at z; first | exact ⟨by rw [], by rw [], rfl⟩ | (exfalso; omega)⟩)
                      · skip
                        refine jt_aload_n d_GM_feed_81 rfl ?_
                        refine jt_iload_n d_GM_feed_82 rfl ?_
                        refine jt_iconst d_GM_feed_83 ?_
                        refine jt_bipush d_GM_feed_84 (by omega) ?_
                        refine gct_call (Y := Y_GM_out) (As := [.int (jI v), .int (jI 0), .int (jI 13)]) (rest := []) d_GM_feed_86 GM_c152 yk_GM_out yv_GM_out rfl (Nat.le_of_ble_eq_true rfl) rfl rfl (Nat.le_of_ble_eq_true rfl) (c_GM_out G _ m v 0 13 I A (by unfold jRi; omega) (by unfold jRi; omega) (by unfold jRi; omega)) (fun rvq129 Iq129 Aq129 hq129 => ?_)
                        obtain ⟨haq129, hbq129, hIq129, hAq129⟩ := hq129
                        rw [hIq129, hAq129]
                        by_cases gq129 : v < 0 ∨ 13 < v
                        · skip
                          obtain rfl := haq129 gq129
                          show jt _ 89 [(0, .ref m), (1, .int (jI k)), (2, .int (jI v))] [.int (jI 1)] (gmf m f0 I A) _ _ _
                          refine jt_if_eq (t := 94) d_GM_feed_89 rfl (by unfold jRi; omega) (fun c130 => ?_) (fun c130 => ?_)
                          · skip
                            exfalso
                            omega
                          · skip
                            refine jt_iconst d_GM_feed_92 ?_
                            exact gm_ret d_GM_feed_93 rfl rfl (⟨fun z => by unfold gtok at z; first | exact ⟨rfl, rfl, rfl⟩ | (exfalso; omega), fun z y => by unfold gtok at z; first | exact ⟨rfl, rfl, rfl⟩ | (exfalso; omega), fun z y => by unfold gtok at z; first | exact ⟨by rw [], by rw [], rfl⟩ | (exfalso; omega)⟩)
                        · skip
                          obtain rfl := hbq129 gq129
                          show jt _ 89 [(0, .ref m), (1, .int (jI k)), (2, .int (jI v))] [.int (jI 0)] (gmf m f0 I A) _ _ _
                          refine jt_if_eq (t := 94) d_GM_feed_89 rfl (by unfold jRi; omega) (fun c131 => ?_) (fun c131 => ?_)
                          · skip
                            refine jt_aload_n d_GM_feed_94 rfl ?_
                            refine gm_gI (k := 0) (v := I 0) d_GM_feed_95 GM_f7 (by decide) rfl ?_
                            refine jt_bipush d_GM_feed_98 (by omega) ?_
                            refine jt_icmp_ne (t := 106) d_GM_feed_100 rfl (by unfold jRi; omega) (by unfold jRi; omega) (fun c132 => ?_) (fun c132 => ?_)
                            · skip
                              refine jt_aload_n d_GM_feed_106 rfl ?_
                              refine gm_gA (k := 16) (a := m + 1) d_GM_feed_107 GM_f59 (by decide) (by decide) rfl ?_
                              refine jt_aload_n d_GM_feed_110 rfl ?_
                              refine gm_gI (k := 0) (v := I 0) d_GM_feed_111 GM_f7 (by decide) rfl ?_
                              refine jt_iload_n d_GM_feed_114 rfl ?_
                              refine gm_st0 (k := 16) (n := 120) (B := va_up A 16 (ju (A 16) (I 0) k)) d_GM_feed_115 rfl (by decide) (by decide) rfl rfl (by omega) (by omega) (by omega) rfl ?_
                              refine jt_aload_n d_GM_feed_116 rfl ?_
                              refine gm_gA (k := 17) (a := m + 2) d_GM_feed_117 GM_f63 (by decide) (by decide) rfl ?_
                              refine jt_aload_n d_GM_feed_120 rfl ?_
                              refine gm_gI (k := 0) (v := I 0) d_GM_feed_121 GM_f7 (by decide) rfl ?_
                              refine jt_iload_n d_GM_feed_124 rfl ?_
                              refine gm_st0 (k := 17) (n := 120) (B := va_up (va_up A 16 (ju (A 16) (I 0) k)) 17 (ju (A 17) (I 0) v)) d_GM_feed_125 rfl (by decide) (by decide) rfl rfl (by omega) (by omega) (by omega) rfl ?_
                              refine jt_aload_n d_GM_feed_126 rfl ?_
                              refine jt_dup d_GM_feed_127 rfl ?_
                              refine gm_gI (k := 0) (v := I 0) d_GM_feed_128 GM_f7 (by decide) rfl ?_
                              refine jt_iconst d_GM_feed_131 ?_
                              refine jt_iadd d_GM_feed_132 ?_
                              refine jt_topi (fun v133 ev133 => ?_)
                              refine gm_pI (k := 0) (v := v133) (J := va_up I 0 v133) d_GM_feed_133 (GM_w7 _ rfl) (by decide) rfl rfl rfl ?_
                              refine jt_aload_n d_GM_feed_136 rfl ?_
                              refine gm_gI (k := 0) (v := v133) d_GM_feed_137 GM_f7 (by decide) rfl ?_
                              exact gm_ret d_GM_feed_140 rfl rfl (⟨fun z => by unfold gtok at z; first | exact ⟨rfl, rfl, rfl⟩ | (exfalso; omega), fun z y => by unfold gtok at z; first | exact ⟨rfl, rfl, rfl⟩ | (exfalso; omega), fun z y => by unfold gtok at z; first | exact ⟨by rw [ev133], by rw [ev133], rfl⟩ | (exfalso; omega)⟩)
                            · skip
                              refine jt_bipush d_GM_feed_103 (by omega) ?_
                              exact gm_ret d_GM_feed_105 rfl rfl (⟨fun z => by unfold gtok at z; first | exact ⟨rfl, rfl, rfl⟩ | (exfalso; omega), fun z y => by unfold gtok at z; first | exact ⟨rfl, rfl, rfl⟩ | (exfalso; omega), fun z y => by unfold gtok at z; first | exact ⟨by rw [], by rw [], rfl⟩ | (exfalso; omega)⟩)
                          · skip
                            exfalso
                            omega
                    · skip
                      refine jt_aload_n d_GM_feed_66 rfl ?_
                      refine jt_iload_n d_GM_feed_67 rfl ?_
                      refine jt_iconst d_GM_feed_68 ?_
                      refine jt_iconst d_GM_feed_69 ?_
                      refine gct_call (Y := Y_GM_out) (As := [.int (jI v), .int (jI 0), .int (jI 5)]) (rest := []) d_GM_feed_70 GM_c152 yk_GM_out yv_GM_out rfl (Nat.le_of_ble_eq_true rfl) rfl rfl (Nat.le_of_ble_eq_true rfl) (c_GM_out G _ m v 0 5 I A (by unfold jRi; omega) (by unfold jRi; omega) (by unfold jRi; omega)) (fun rvq134 Iq134 Aq134 hq134 => ?_)
                      obtain ⟨haq134, hbq134, hIq134, hAq134⟩ := hq134
                      rw [hIq134, hAq134]
                      by_cases gq134 : v < 0 ∨ 5 < v
                      · skip
                        obtain rfl := haq134 gq134
                        show jt _ 73 [(0, .ref m), (1, .int (jI k)), (2, .int (jI v))] [.int (jI 1)] (gmf m f0 I A) _ _ _
                        refine jt_if_ne (t := 92) d_GM_feed_73 rfl (by unfold jRi; omega) (fun c135 => ?_) (fun c135 => ?_)
                        · skip
                          refine jt_iconst d_GM_feed_92 ?_
                          exact gm_ret d_GM_feed_93 rfl rfl (⟨fun z => by unfold gtok at z; first | exact ⟨rfl, rfl, rfl⟩ | (exfalso; omega), fun z y => by unfold gtok at z; first | exact ⟨rfl, rfl, rfl⟩ | (exfalso; omega), fun z y => by unfold gtok at z; first | exact ⟨by rw [], by rw [], rfl⟩ | (exfalso; omega)⟩)
                        · skip
                          exfalso
                          omega
                      · skip
                        obtain rfl := hbq134 gq134
                        show jt _ 73 [(0, .ref m), (1, .int (jI k)), (2, .int (jI v))] [.int (jI 0)] (gmf m f0 I A) _ _ _
                        refine jt_if_ne (t := 92) d_GM_feed_73 rfl (by unfold jRi; omega) (fun c136 => ?_) (fun c136 => ?_)
                        · skip
                          exfalso
                          omega
                        · skip
                          refine jt_iload_n d_GM_feed_76 rfl ?_
                          refine jt_iconst d_GM_feed_77 ?_
                          refine jt_icmp_ne (t := 94) d_GM_feed_78 rfl (by unfold jRi; omega) (by unfold jRi; omega) (fun c137 => ?_) (fun c137 => ?_)
                          · skip
                            refine jt_aload_n d_GM_feed_94 rfl ?_
                            refine gm_gI (k := 0) (v := I 0) d_GM_feed_95 GM_f7 (by decide) rfl ?_
                            refine jt_bipush d_GM_feed_98 (by omega) ?_
                            refine jt_icmp_ne (t := 106) d_GM_feed_100 rfl (by unfold jRi; omega) (by unfold jRi; omega) (fun c138 => ?_) (fun c138 => ?_)
                            · skip
                              refine jt_aload_n d_GM_feed_106 rfl ?_
                              refine gm_gA (k := 16) (a := m + 1) d_GM_feed_107 GM_f59 (by decide) (by decide) rfl ?_
                              refine jt_aload_n d_GM_feed_110 rfl ?_
                              refine gm_gI (k := 0) (v := I 0) d_GM_feed_111 GM_f7 (by decide) rfl ?_
                              refine jt_iload_n d_GM_feed_114 rfl ?_
                              refine gm_st0 (k := 16) (n := 120) (B := va_up A 16 (ju (A 16) (I 0) k)) d_GM_feed_115 rfl (by decide) (by decide) rfl rfl (by omega) (by omega) (by omega) rfl ?_
                              refine jt_aload_n d_GM_feed_116 rfl ?_
                              refine gm_gA (k := 17) (a := m + 2) d_GM_feed_117 GM_f63 (by decide) (by decide) rfl ?_
                              refine jt_aload_n d_GM_feed_120 rfl ?_
                              refine gm_gI (k := 0) (v := I 0) d_GM_feed_121 GM_f7 (by decide) rfl ?_
                              refine jt_iload_n d_GM_feed_124 rfl ?_
                              refine gm_st0 (k := 17) (n := 120) (B := va_up (va_up A 16 (ju (A 16) (I 0) k)) 17 (ju (A 17) (I 0) v)) d_GM_feed_125 rfl (by decide) (by decide) rfl rfl (by omega) (by omega) (by omega) rfl ?_
                              refine jt_aload_n d_GM_feed_126 rfl ?_
                              refine jt_dup d_GM_feed_127 rfl ?_
                              refine gm_gI (k := 0) (v := I 0) d_GM_feed_128 GM_f7 (by decide) rfl ?_
                              refine jt_iconst d_GM_feed_131 ?_
                              refine jt_iadd d_GM_feed_132 ?_
                              refine jt_topi (fun v139 ev139 => ?_)
                              refine gm_pI (k := 0) (v := v139) (J := va_up I 0 v139) d_GM_feed_133 (GM_w7 _ rfl) (by decide) rfl rfl rfl ?_
                              refine jt_aload_n d_GM_feed_136 rfl ?_
                              refine gm_gI (k := 0) (v := v139) d_GM_feed_137 GM_f7 (by decide) rfl ?_
                              exact gm_ret d_GM_feed_140 rfl rfl (⟨fun z => by unfold gtok at z; first | exact ⟨rfl, rfl, rfl⟩ | (exfalso; omega), fun z y => by unfold gtok at z; first | exact ⟨rfl, rfl, rfl⟩ | (exfalso; omega), fun z y => by unfold gtok at z; first | exact ⟨by rw [ev139], by rw [ev139], rfl⟩ | (exfalso; omega)⟩)
                            · skip
                              refine jt_bipush d_GM_feed_103 (by omega) ?_
                              exact gm_ret d_GM_feed_105 rfl rfl (⟨fun z => by unfold gtok at z; first | exact ⟨rfl, rfl, rfl⟩ | (exfalso; omega), fun z y => by unfold gtok at z; first | exact ⟨rfl, rfl, rfl⟩ | (exfalso; omega), fun z y => by unfold gtok at z; first | exact ⟨by rw [], by rw [], rfl⟩ | (exfalso; omega)⟩)
                          · skip
                            refine jt_aload_n d_GM_feed_81 rfl ?_
                            refine jt_iload_n d_GM_feed_82 rfl ?_
                            refine jt_iconst d_GM_feed_83 ?_
                            refine jt_bipush d_GM_feed_84 (by omega) ?_
                            refine gct_call (Y := Y_GM_out) (As := [.int (jI v), .int (jI 0), .int (jI 13)]) (rest := []) d_GM_feed_86 GM_c152 yk_GM_out yv_GM_out rfl (Nat.le_of_ble_eq_true rfl) rfl rfl (Nat.le_of_ble_eq_true rfl) (c_GM_out G _ m v 0 13 I A (by unfold jRi; omega) (by unfold jRi; omega) (by unfold jRi; omega)) (fun rvq140 Iq140 Aq140 hq140 => ?_)
                            obtain ⟨haq140, hbq140, hIq140, hAq140⟩ := hq140
                            rw [hIq140, hAq140]
                            by_cases gq140 : v < 0 ∨ 13 < v
                            · skip
                              obtain rfl := haq140 gq140
                              show jt _ 89 [(0, .ref m), (1, .int (jI k)), (2, .int (jI v))] [.int (jI 1)] (gmf m f0 I A) _ _ _
                              refine jt_if_eq (t := 94) d_GM_feed_89 rfl (by unfold jRi; omega) (fun c141 => ?_) (fun c141 => ?_)
                              · skip
                                exfalso
                                omega
                              · skip
                                refine jt_iconst d_GM_feed_92 ?_
                                exact gm_ret d_GM_feed_93 rfl rfl (⟨fun z => by unfold gtok at z; first | exact ⟨rfl, rfl, rfl⟩ | (exfalso; omega), fun z y => by unfold gtok at z; first | exact ⟨rfl, rfl, rfl⟩ | (exfalso; omega), fun z y => by unfold gtok at z; first | exact ⟨by rw [], by rw [], rfl⟩ | (exfalso; omega)⟩)
                            · skip
                              obtain rfl := hbq140 gq140
                              show jt _ 89 [(0, .ref m), (1, .int (jI k)), (2, .int (jI v))] [.int (jI 0)] (gmf m f0 I A) _ _ _
                              refine jt_if_eq (t := 94) d_GM_feed_89 rfl (by unfold jRi; omega) (fun c142 => ?_) (fun c142 => ?_)
                              · skip
                                refine jt_aload_n d_GM_feed_94 rfl ?_
                                refine gm_gI (k := 0) (v := I 0) d_GM_feed_95 GM_f7 (by decide) rfl ?_
                                refine jt_bipush d_GM_feed_98 (by omega) ?_
                                refine jt_icmp_ne (t := 106) d_GM_feed_100 rfl (by unfold jRi; omega) (by unfold jRi; omega) (fun c143 => ?_) (fun c143 => ?_)
                                · skip
                                  refine jt_aload_n d_GM_feed_106 rfl ?_
                                  refine gm_gA (k := 16) (a := m + 1) d_GM_feed_107 GM_f59 (by decide) (by decide) rfl ?_
                                  refine jt_aload_n d_GM_feed_110 rfl ?_
                                  refine gm_gI (k := 0) (v := I 0) d_GM_feed_111 GM_f7 (by decide) rfl ?_
                                  refine jt_iload_n d_GM_feed_114 rfl ?_
                                  refine gm_st0 (k := 16) (n := 120) (B := va_up A 16 (ju (A 16) (I 0) k)) d_GM_feed_115 rfl (by decide) (by decide) rfl rfl (by omega) (by omega) (by omega) rfl ?_
                                  refine jt_aload_n d_GM_feed_116 rfl ?_
                                  refine gm_gA (k := 17) (a := m + 2) d_GM_feed_117 GM_f63 (by decide) (by decide) rfl ?_
                                  refine jt_aload_n d_GM_feed_120 rfl ?_
                                  refine gm_gI (k := 0) (v := I 0) d_GM_feed_121 GM_f7 (by decide) rfl ?_
                                  refine jt_iload_n d_GM_feed_124 rfl ?_
                                  refine gm_st0 (k := 17) (n := 120) (B := va_up (va_up A 16 (ju (A 16) (I 0) k)) 17 (ju (A 17) (I 0) v)) d_GM_feed_125 rfl (by decide) (by decide) rfl rfl (by omega) (by omega) (by omega) rfl ?_
                                  refine jt_aload_n d_GM_feed_126 rfl ?_
                                  refine jt_dup d_GM_feed_127 rfl ?_
                                  refine gm_gI (k := 0) (v := I 0) d_GM_feed_128 GM_f7 (by decide) rfl ?_
                                  refine jt_iconst d_GM_feed_131 ?_
                                  refine jt_iadd d_GM_feed_132 ?_
                                  refine jt_topi (fun v144 ev144 => ?_)
                                  refine gm_pI (k := 0) (v := v144) (J := va_up I 0 v144) d_GM_feed_133 (GM_w7 _ rfl) (by decide) rfl rfl rfl ?_
                                  refine jt_aload_n d_GM_feed_136 rfl ?_
                                  refine gm_gI (k := 0) (v := v144) d_GM_feed_137 GM_f7 (by decide) rfl ?_
                                  exact gm_ret d_GM_feed_140 rfl rfl (⟨fun z => by unfold gtok at z; first | exact ⟨rfl, rfl, rfl⟩ | (exfalso; omega), fun z y => by unfold gtok at z; first | exact ⟨rfl, rfl, rfl⟩ | (exfalso; omega), fun z y => by unfold gtok at z; first | exact ⟨by rw [ev144], by rw [ev144], rfl⟩ | (exfalso; omega)⟩)
                                · skip
                                  refine jt_bipush d_GM_feed_103 (by omega) ?_
                                  exact gm_ret d_GM_feed_105 rfl rfl (⟨fun z => by unfold gtok at z; first | exact ⟨rfl, rfl, rfl⟩ | (exfalso; omega), fun z y => by unfold gtok at z; first | exact ⟨rfl, rfl, rfl⟩ | (exfalso; omega), fun z y => by unfold gtok at z; first | exact ⟨by rw [], by rw [], rfl⟩ | (exfalso; omega)⟩)
                              · skip
                                exfalso
                                omega
                  · skip
                    exfalso
                    omega
            · skip
              refine jt_aload_n d_GM_feed_33 rfl ?_
              refine jt_iload_n d_GM_feed_34 rfl ?_
              refine jt_iconst d_GM_feed_35 ?_
              refine jt_bipush d_GM_feed_36 (by omega) ?_
              refine gct_call (Y := Y_GM_out) (As := [.int (jI v), .int (jI 0), .int (jI 11)]) (rest := []) d_GM_feed_38 GM_c152 yk_GM_out yv_GM_out rfl (Nat.le_of_ble_eq_true rfl) rfl rfl (Nat.le_of_ble_eq_true rfl) (c_GM_out G _ m v 0 11 I A (by unfold jRi; omega) (by unfold jRi; omega) (by unfold jRi; omega)) (fun rvq145 Iq145 Aq145 hq145 => ?_)
              obtain ⟨haq145, hbq145, hIq145, hAq145⟩ := hq145
              rw [hIq145, hAq145]
              by_cases gq145 : v < 0 ∨ 11 < v
              · skip
                obtain rfl := haq145 gq145
                show jt _ 41 [(0, .ref m), (1, .int (jI k)), (2, .int (jI v))] [.int (jI 1)] (gmf m f0 I A) _ _ _
                refine jt_if_ne (t := 59) d_GM_feed_41 rfl (by unfold jRi; omega) (fun c146 => ?_) (fun c146 => ?_)
                · skip
                  refine jt_iconst d_GM_feed_59 ?_
                  exact gm_ret d_GM_feed_60 rfl rfl (⟨fun z => by unfold gtok at z; first | exact ⟨rfl, rfl, rfl⟩ | (exfalso; omega), fun z y => by unfold gtok at z; first | exact ⟨rfl, rfl, rfl⟩ | (exfalso; omega), fun z y => by unfold gtok at z; first | exact ⟨by rw [], by rw [], rfl⟩ | (exfalso; omega)⟩)
                · skip
                  exfalso
                  omega
              · skip
                obtain rfl := hbq145 gq145
                show jt _ 41 [(0, .ref m), (1, .int (jI k)), (2, .int (jI v))] [.int (jI 0)] (gmf m f0 I A) _ _ _
                refine jt_if_ne (t := 59) d_GM_feed_41 rfl (by unfold jRi; omega) (fun c147 => ?_) (fun c147 => ?_)
                · skip
                  exfalso
                  omega
                · skip
                  refine jt_iload_n d_GM_feed_44 rfl ?_
                  refine jt_iconst d_GM_feed_45 ?_
                  refine jt_icmp_ne (t := 61) d_GM_feed_46 rfl (by unfold jRi; omega) (by unfold jRi; omega) (fun c148 => ?_) (fun c148 => ?_)
                  · skip
                    refine jt_iload_n d_GM_feed_61 rfl ?_
                    refine jt_iconst d_GM_feed_62 ?_
                    refine jt_icmp_ne (t := 76) d_GM_feed_63 rfl (by unfold jRi; omega) (by unfold jRi; omega) (fun c149 => ?_) (fun c149 => ?_)
                    · skip
                      refine jt_iload_n d_GM_feed_76 rfl ?_
                      refine jt_iconst d_GM_feed_77 ?_
                      refine jt_icmp_ne (t := 94) d_GM_feed_78 rfl (by unfold jRi; omega) (by unfold jRi; omega) (fun c150 => ?_) (fun c150 => ?_)
                      · skip
                        refine jt_aload_n d_GM_feed_94 rfl ?_
                        refine gm_gI (k := 0) (v := I 0) d_GM_feed_95 GM_f7 (by decide) rfl ?_
                        refine jt_bipush d_GM_feed_98 (by omega) ?_
                        refine jt_icmp_ne (t := 106) d_GM_feed_100 rfl (by unfold jRi; omega) (by unfold jRi; omega) (fun c151 => ?_) (fun c151 => ?_)
                        · skip
                          refine jt_aload_n d_GM_feed_106 rfl ?_
                          refine gm_gA (k := 16) (a := m + 1) d_GM_feed_107 GM_f59 (by decide) (by decide) rfl ?_
                          refine jt_aload_n d_GM_feed_110 rfl ?_
                          refine gm_gI (k := 0) (v := I 0) d_GM_feed_111 GM_f7 (by decide) rfl ?_
                          refine jt_iload_n d_GM_feed_114 rfl ?_
                          refine gm_st0 (k := 16) (n := 120) (B := va_up A 16 (ju (A 16) (I 0) k)) d_GM_feed_115 rfl (by decide) (by decide) rfl rfl (by omega) (by omega) (by omega) rfl ?_
                          refine jt_aload_n d_GM_feed_116 rfl ?_
                          refine gm_gA (k := 17) (a := m + 2) d_GM_feed_117 GM_f63 (by decide) (by decide) rfl ?_
                          refine jt_aload_n d_GM_feed_120 rfl ?_
                          refine gm_gI (k := 0) (v := I 0) d_GM_feed_121 GM_f7 (by decide) rfl ?_
                          refine jt_iload_n d_GM_feed_124 rfl ?_
                          refine gm_st0 (k := 17) (n := 120) (B := va_up (va_up A 16 (ju (A 16) (I 0) k)) 17 (ju (A 17) (I 0) v)) d_GM_feed_125 rfl (by decide) (by decide) rfl rfl (by omega) (by omega) (by omega) rfl ?_
                          refine jt_aload_n d_GM_feed_126 rfl ?_
                          refine jt_dup d_GM_feed_127 rfl ?_
                          refine gm_gI (k := 0) (v := I 0) d_GM_feed_128 GM_f7 (by decide) rfl ?_
                          refine jt_iconst d_GM_feed_131 ?_
                          refine jt_iadd d_GM_feed_132 ?_
                          refine jt_topi (fun v152 ev152 => ?_)
                          refine gm_pI (k := 0) (v := v152) (J := va_up I 0 v152) d_GM_feed_133 (GM_w7 _ rfl) (by decide) rfl rfl rfl ?_
                          refine jt_aload_n d_GM_feed_136 rfl ?_
                          refine gm_gI (k := 0) (v := v152) d_GM_feed_137 GM_f7 (by decide) rfl ?_
                          exact gm_ret d_GM_feed_140 rfl rfl (⟨fun z => by unfold gtok at z; first | exact ⟨rfl, rfl, rfl⟩ | (exfalso; omega), fun z y => by unfold gtok at z; first | exact ⟨rfl, rfl, rfl⟩ | (exfalso; omega), fun z y => by unfold gtok at z; first | exact ⟨by rw [ev152], by rw [ev152], rfl⟩ | (exfalso; omega)⟩)
                        · skip
                          refine jt_bipush d_GM_feed_103 (by omega) ?_
                          exact gm_ret d_GM_feed_105 rfl rfl (⟨fun z => by unfold gtok at z; first | exact ⟨rfl, rfl, rfl⟩ | (exfalso; omega), fun z y => by unfold gtok at z; first | exact ⟨rfl, rfl, rfl⟩ | (exfalso; omega), fun z y => by unfold gtok at z; first | exact ⟨by rw [], by rw [], rfl⟩ | (exfalso; omega)⟩)
                      · skip
                        refine jt_aload_n d_GM_feed_81 rfl ?_
                        refine jt_iload_n d_GM_feed_82 rfl ?_
                        refine jt_iconst d_GM_feed_83 ?_
                        refine jt_bipush d_GM_feed_84 (by omega) ?_
                        refine gct_call (Y := Y_GM_out) (As := [.int (jI v), .int (jI 0), .int (jI 13)]) (rest := []) d_GM_feed_86 GM_c152 yk_GM_out yv_GM_out rfl (Nat.le_of_ble_eq_true rfl) rfl rfl (Nat.le_of_ble_eq_true rfl) (c_GM_out G _ m v 0 13 I A (by unfold jRi; omega) (by unfold jRi; omega) (by unfold jRi; omega)) (fun rvq153 Iq153 Aq153 hq153 => ?_)
                        obtain ⟨haq153, hbq153, hIq153, hAq153⟩ := hq153
                        rw [hIq153, hAq153]
                        by_cases gq153 : v < 0 ∨ 13 < v
                        · skip
                          obtain rfl := haq153 gq153
                          show jt _ 89 [(0, .ref m), (1, .int (jI k)), (2, .int (jI v))] [.int (jI 1)] (gmf m f0 I A) _ _ _
                          refine jt_if_eq (t := 94) d_GM_feed_89 rfl (by unfold jRi; omega) (fun c154 => ?_) (fun c154 => ?_)
                          · skip
                            exfalso
                            omega
                          · skip
                            refine jt_iconst d_GM_feed_92 ?_
                            exact gm_ret d_GM_feed_93 rfl rfl (⟨fun z => by unfold gtok at z; first | exact ⟨rfl, rfl, rfl⟩ | (exfalso; omega), fun z y => by unfold gtok at z; first | exact ⟨rfl, rfl, rfl⟩ | (exfalso; omega), fun z y => by unfold gtok at z; first | exact ⟨by rw [], by rw [], rfl⟩ | (exfalso; omega)⟩)
                        · skip
                          obtain rfl := hbq153 gq153
                          show jt _ 89 [(0, .ref m), (1, .int (jI k)), (2, .int (jI v))] [.int (jI 0)] (gmf m f0 I A) _ _ _
                          refine jt_if_eq (t := 94) d_GM_feed_89 rfl (by unfold jRi; omega) (fun c155 => ?_) (fun c155 => ?_)
                          · skip
                            refine jt_aload_n d_GM_feed_94 rfl ?_
                            refine gm_gI (k := 0) (v := I 0) d_GM_feed_95 GM_f7 (by decide) rfl ?_
                            refine jt_bipush d_GM_feed_98 (by omega) ?_
                            refine jt_icmp_ne (t := 106) d_GM_feed_100 rfl (by unfold jRi; omega) (by unfold jRi; omega) (fun c156 => ?_) (fun c156 => ?_)
                            · skip
                              refine jt_aload_n d_GM_feed_106 rfl ?_
                              refine gm_gA (k := 16) (a := m + 1) d_GM_feed_107 GM_f59 (by decide) (by decide) rfl ?_
                              refine jt_aload_n d_GM_feed_110 rfl ?_
                              refine gm_gI (k := 0) (v := I 0) d_GM_feed_111 GM_f7 (by decide) rfl ?_
                              refine jt_iload_n d_GM_feed_114 rfl ?_
                              refine gm_st0 (k := 16) (n := 120) (B := va_up A 16 (ju (A 16) (I 0) k)) d_GM_feed_115 rfl (by decide) (by decide) rfl rfl (by omega) (by omega) (by omega) rfl ?_
                              refine jt_aload_n d_GM_feed_116 rfl ?_
                              refine gm_gA (k := 17) (a := m + 2) d_GM_feed_117 GM_f63 (by decide) (by decide) rfl ?_
                              refine jt_aload_n d_GM_feed_120 rfl ?_
                              refine gm_gI (k := 0) (v := I 0) d_GM_feed_121 GM_f7 (by decide) rfl ?_
                              refine jt_iload_n d_GM_feed_124 rfl ?_
                              refine gm_st0 (k := 17) (n := 120) (B := va_up (va_up A 16 (ju (A 16) (I 0) k)) 17 (ju (A 17) (I 0) v)) d_GM_feed_125 rfl (by decide) (by decide) rfl rfl (by omega) (by omega) (by omega) rfl ?_
                              refine jt_aload_n d_GM_feed_126 rfl ?_
                              refine jt_dup d_GM_feed_127 rfl ?_
                              refine gm_gI (k := 0) (v := I 0) d_GM_feed_128 GM_f7 (by decide) rfl ?_
                              refine jt_iconst d_GM_feed_131 ?_
                              refine jt_iadd d_GM_feed_132 ?_
                              refine jt_topi (fun v157 ev157 => ?_)
                              refine gm_pI (k := 0) (v := v157) (J := va_up I 0 v157) d_GM_feed_133 (GM_w7 _ rfl) (by decide) rfl rfl rfl ?_
                              refine jt_aload_n d_GM_feed_136 rfl ?_
                              refine gm_gI (k := 0) (v := v157) d_GM_feed_137 GM_f7 (by decide) rfl ?_
                              exact gm_ret d_GM_feed_140 rfl rfl (⟨fun z => by unfold gtok at z; first | exact ⟨rfl, rfl, rfl⟩ | (exfalso; omega), fun z y => by unfold gtok at z; first | exact ⟨rfl, rfl, rfl⟩ | (exfalso; omega), fun z y => by unfold gtok at z; first | exact ⟨by rw [ev157], by rw [ev157], rfl⟩ | (exfalso; omega)⟩)
                            · skip
                              refine jt_bipush d_GM_feed_103 (by omega) ?_
                              exact gm_ret d_GM_feed_105 rfl rfl (⟨fun z => by unfold gtok at z; first | exact ⟨rfl, rfl, rfl⟩ | (exfalso; omega), fun z y => by unfold gtok at z; first | exact ⟨rfl, rfl, rfl⟩ | (exfalso; omega), fun z y => by unfold gtok at z; first | exact ⟨by rw [], by rw [], rfl⟩ | (exfalso; omega)⟩)
                          · skip
                            exfalso
                            omega
                    · skip
                      refine jt_aload_n d_GM_feed_66 rfl ?_
                      refine jt_iload_n d_GM_feed_67 rfl ?_
                      refine jt_iconst d_GM_feed_68 ?_
                      refine jt_iconst d_GM_feed_69 ?_
                      refine gct_call (Y := Y_GM_out) (As := [.int (jI v), .int (jI 0), .int (jI 5)]) (rest := []) d_GM_feed_70 GM_c152 yk_GM_out yv_GM_out rfl (Nat.le_of_ble_eq_true rfl) rfl rfl (Nat.le_of_ble_eq_true rfl) (c_GM_out G _ m v 0 5 I A (by unfold jRi; omega) (by unfold jRi; omega) (by unfold jRi; omega)) (fun rvq158 Iq158 Aq158 hq158 => ?_)
                      obtain ⟨haq158, hbq158, hIq158, hAq158⟩ := hq158
                      rw [hIq158, hAq158]
                      by_cases gq158 : v < 0 ∨ 5 < v
                      · skip
                        obtain rfl := haq158 gq158
                        show jt _ 73 [(0, .ref m), (1, .int (jI k)), (2, .int (jI v))] [.int (jI 1)] (gmf m f0 I A) _ _ _
                        refine jt_if_ne (t := 92) d_GM_feed_73 rfl (by unfold jRi; omega) (fun c159 => ?_) (fun c159 => ?_)
                        · skip
                          refine jt_iconst d_GM_feed_92 ?_
                          exact gm_ret d_GM_feed_93 rfl rfl (⟨fun z => by unfold gtok at z; first | exact ⟨rfl, rfl, rfl⟩ | (exfalso; omega), fun z y => by unfold gtok at z; first | exact ⟨rfl, rfl, rfl⟩ | (exfalso; omega), fun z y => by unfold gtok at z; first | exact ⟨by rw [], by rw [], rfl⟩ | (exfalso; omega)⟩)
                        · skip
                          exfalso
                          omega
                      · skip
                        obtain rfl := hbq158 gq158
                        show jt _ 73 [(0, .ref m), (1, .int (jI k)), (2, .int (jI v))] [.int (jI 0)] (gmf m f0 I A) _ _ _
                        refine jt_if_ne (t := 92) d_GM_feed_73 rfl (by unfold jRi; omega) (fun c160 => ?_) (fun c160 => ?_)
                        · skip
                          exfalso
                          omega
                        · skip
                          refine jt_iload_n d_GM_feed_76 rfl ?_
                          refine jt_iconst d_GM_feed_77 ?_
                          refine jt_icmp_ne (t := 94) d_GM_feed_78 rfl (by unfold jRi; omega) (by unfold jRi; omega) (fun c161 => ?_) (fun c161 => ?_)
                          · skip
                            refine jt_aload_n d_GM_feed_94 rfl ?_
                            refine gm_gI (k := 0) (v := I 0) d_GM_feed_95 GM_f7 (by decide) rfl ?_
                            refine jt_bipush d_GM_feed_98 (by omega) ?_
                            refine jt_icmp_ne (t := 106) d_GM_feed_100 rfl (by unfold jRi; omega) (by unfold jRi; omega) (fun c162 => ?_) (fun c162 => ?_)
                            · skip
                              refine jt_aload_n d_GM_feed_106 rfl ?_
                              refine gm_gA (k := 16) (a := m + 1) d_GM_feed_107 GM_f59 (by decide) (by decide) rfl ?_
                              refine jt_aload_n d_GM_feed_110 rfl ?_
                              refine gm_gI (k := 0) (v := I 0) d_GM_feed_111 GM_f7 (by decide) rfl ?_
                              refine jt_iload_n d_GM_feed_114 rfl ?_
                              refine gm_st0 (k := 16) (n := 120) (B := va_up A 16 (ju (A 16) (I 0) k)) d_GM_feed_115 rfl (by decide) (by decide) rfl rfl (by omega) (by omega) (by omega) rfl ?_
                              refine jt_aload_n d_GM_feed_116 rfl ?_
                              refine gm_gA (k := 17) (a := m + 2) d_GM_feed_117 GM_f63 (by decide) (by decide) rfl ?_
                              refine jt_aload_n d_GM_feed_120 rfl ?_
                              refine gm_gI (k := 0) (v := I 0) d_GM_feed_121 GM_f7 (by decide) rfl ?_
                              refine jt_iload_n d_GM_feed_124 rfl ?_
                              refine gm_st0 (k := 17) (n := 120) (B := va_up (va_up A 16 (ju (A 16) (I 0) k)) 17 (ju (A 17) (I 0) v)) d_GM_feed_125 rfl (by decide) (by decide) rfl rfl (by omega) (by omega) (by omega) rfl ?_
                              refine jt_aload_n d_GM_feed_126 rfl ?_
                              refine jt_dup d_GM_feed_127 rfl ?_
                              refine gm_gI (k := 0) (v := I 0) d_GM_feed_128 GM_f7 (by decide) rfl ?_
                              refine jt_iconst d_GM_feed_131 ?_
                              refine jt_iadd d_GM_feed_132 ?_
                              refine jt_topi (fun v163 ev163 => ?_)
                              refine gm_pI (k := 0) (v := v163) (J := va_up I 0 v163) d_GM_feed_133 (GM_w7 _ rfl) (by decide) rfl rfl rfl ?_
                              refine jt_aload_n d_GM_feed_136 rfl ?_
                              refine gm_gI (k := 0) (v := v163) d_GM_feed_137 GM_f7 (by decide) rfl ?_
                              exact gm_ret d_GM_feed_140 rfl rfl (⟨fun z => by unfold gtok at z; first | exact ⟨rfl, rfl, rfl⟩ | (exfalso; omega), fun z y => by unfold gtok at z; first | exact ⟨rfl, rfl, rfl⟩ | (exfalso; omega), fun z y => by unfold gtok at z; first | exact ⟨by rw [ev163], by rw [ev163], rfl⟩ | (exfalso; omega)⟩)
                            · skip
                              refine jt_bipush d_GM_feed_103 (by omega) ?_
                              exact gm_ret d_GM_feed_105 rfl rfl (⟨fun z => by unfold gtok at z; first | exact ⟨rfl, rfl, rfl⟩ | (exfalso; omega), fun z y => by unfold gtok at z; first | exact ⟨rfl, rfl, rfl⟩ | (exfalso; omega), fun z y => by unfold gtok at z; first | exact ⟨by rw [], by rw [], rfl⟩ | (exfalso; omega)⟩)
                          · skip
                            refine jt_aload_n d_GM_feed_81 rfl ?_
                            refine jt_iload_n d_GM_feed_82 rfl ?_
                            refine jt_iconst d_GM_feed_83 ?_
                            refine jt_bipush d_GM_feed_84 (by omega) ?_
                            refine gct_call (Y := Y_GM_out) (As := [.int (jI v), .int (jI 0), .int (jI 13)]) (rest := []) d_GM_feed_86 GM_c152 yk_GM_out yv_GM_out rfl (Nat.le_of_ble_eq_true rfl) rfl rfl (Nat.le_of_ble_eq_true rfl) (c_GM_out G _ m v 0 13 I A (by unfold jRi; omega) (by unfold jRi; omega) (by unfold jRi; omega)) (fun rvq164 Iq164 Aq164 hq164 => ?_)
                            obtain ⟨haq164, hbq164, hIq164, hAq164⟩ := hq164
                            rw [hIq164, hAq164]
                            by_cases gq164 : v < 0 ∨ 13 < v
                            · skip
                              obtain rfl := haq164 gq164
                              show jt _ 89 [(0, .ref m), (1, .int (jI k)), (2, .int (jI v))] [.int (jI 1)] (gmf m f0 I A) _ _ _
                              refine jt_if_eq (t := 94) d_GM_feed_89 rfl (by unfold jRi; omega) (fun c165 => ?_) (fun c165 => ?_)
                              · skip
                                exfalso
                                omega
                              · skip
                                refine jt_iconst d_GM_feed_92 ?_
                                exact gm_ret d_GM_feed_93 rfl rfl (⟨fun z => by unfold gtok at z; first | exact ⟨rfl, rfl, rfl⟩ | (exfalso; omega), fun z y => by unfold gtok at z; first | exact ⟨rfl, rfl, rfl⟩ | (exfalso; omega), fun z y => by unfold gtok at z; first | exact ⟨by rw [], by rw [], rfl⟩ | (exfalso; omega)⟩)
                            · skip
                              obtain rfl := hbq164 gq164
                              show jt _ 89 [(0, .ref m), (1, .int (jI k)), (2, .int (jI v))] [.int (jI 0)] (gmf m f0 I A) _ _ _
                              refine jt_if_eq (t := 94) d_GM_feed_89 rfl (by unfold jRi; omega) (fun c166 => ?_) (fun c166 => ?_)
                              · skip
                                refine jt_aload_n d_GM_feed_94 rfl ?_
                                refine gm_gI (k := 0) (v := I 0) d_GM_feed_95 GM_f7 (by decide) rfl ?_
                                refine jt_bipush d_GM_feed_98 (by omega) ?_
                                refine jt_icmp_ne (t := 106) d_GM_feed_100 rfl (by unfold jRi; omega) (by unfold jRi; omega) (fun c167 => ?_) (fun c167 => ?_)
                                · skip
                                  refine jt_aload_n d_GM_feed_106 rfl ?_
                                  refine gm_gA (k := 16) (a := m + 1) d_GM_feed_107 GM_f59 (by decide) (by decide) rfl ?_
                                  refine jt_aload_n d_GM_feed_110 rfl ?_
                                  refine gm_gI (k := 0) (v := I 0) d_GM_feed_111 GM_f7 (by decide) rfl ?_
                                  refine jt_iload_n d_GM_feed_114 rfl ?_
                                  refine gm_st0 (k := 16) (n := 120) (B := va_up A 16 (ju (A 16) (I 0) k)) d_GM_feed_115 rfl (by decide) (by decide) rfl rfl (by omega) (by omega) (by omega) rfl ?_
                                  refine jt_aload_n d_GM_feed_116 rfl ?_
                                  refine gm_gA (k := 17) (a := m + 2) d_GM_feed_117 GM_f63 (by decide) (by decide) rfl ?_
                                  refine jt_aload_n d_GM_feed_120 rfl ?_
                                  refine gm_gI (k := 0) (v := I 0) d_GM_feed_121 GM_f7 (by decide) rfl ?_
                                  refine jt_iload_n d_GM_feed_124 rfl ?_
                                  refine gm_st0 (k := 17) (n := 120) (B := va_up (va_up A 16 (ju (A 16) (I 0) k)) 17 (ju (A 17) (I 0) v)) d_GM_feed_125 rfl (by decide) (by decide) rfl rfl (by omega) (by omega) (by omega) rfl ?_
                                  refine jt_aload_n d_GM_feed_126 rfl ?_
                                  refine jt_dup d_GM_feed_127 rfl ?_
                                  refine gm_gI (k := 0) (v := I 0) d_GM_feed_128 GM_f7 (by decide) rfl ?_
                                  refine jt_iconst d_GM_feed_131 ?_
                                  refine jt_iadd d_GM_feed_132 ?_
                                  refine jt_topi (fun v168 ev168 => ?_)
                                  refine gm_pI (k := 0) (v := v168) (J := va_up I 0 v168) d_GM_feed_133 (GM_w7 _ rfl) (by decide) rfl rfl rfl ?_
                                  refine jt_aload_n d_GM_feed_136 rfl ?_
                                  refine gm_gI (k := 0) (v := v168) d_GM_feed_137 GM_f7 (by decide) rfl ?_
                                  exact gm_ret d_GM_feed_140 rfl rfl (⟨fun z => by unfold gtok at z; first | exact ⟨rfl, rfl, rfl⟩ | (exfalso; omega), fun z y => by unfold gtok at z; first | exact ⟨rfl, rfl, rfl⟩ | (exfalso; omega), fun z y => by unfold gtok at z; first | exact ⟨by rw [ev168], by rw [ev168], rfl⟩ | (exfalso; omega)⟩)
                                · skip
                                  refine jt_bipush d_GM_feed_103 (by omega) ?_
                                  exact gm_ret d_GM_feed_105 rfl rfl (⟨fun z => by unfold gtok at z; first | exact ⟨rfl, rfl, rfl⟩ | (exfalso; omega), fun z y => by unfold gtok at z; first | exact ⟨rfl, rfl, rfl⟩ | (exfalso; omega), fun z y => by unfold gtok at z; first | exact ⟨by rw [], by rw [], rfl⟩ | (exfalso; omega)⟩)
                              · skip
                                exfalso
                                omega
                  · skip
                    refine jt_aload_n d_GM_feed_49 rfl ?_
                    refine jt_iload_n d_GM_feed_50 rfl ?_
                    refine jt_iconst d_GM_feed_51 ?_
                    refine jt_iconst d_GM_feed_52 ?_
                    refine gct_call (Y := Y_GM_out) (As := [.int (jI v), .int (jI 0), .int (jI 2)]) (rest := []) d_GM_feed_53 GM_c152 yk_GM_out yv_GM_out rfl (Nat.le_of_ble_eq_true rfl) rfl rfl (Nat.le_of_ble_eq_true rfl) (c_GM_out G _ m v 0 2 I A (by unfold jRi; omega) (by unfold jRi; omega) (by unfold jRi; omega)) (fun rvq169 Iq169 Aq169 hq169 => ?_)
                    obtain ⟨haq169, hbq169, hIq169, hAq169⟩ := hq169
                    rw [hIq169, hAq169]
                    by_cases gq169 : v < 0 ∨ 2 < v
                    · skip
                      obtain rfl := haq169 gq169
                      show jt _ 56 [(0, .ref m), (1, .int (jI k)), (2, .int (jI v))] [.int (jI 1)] (gmf m f0 I A) _ _ _
                      refine jt_if_eq (t := 61) d_GM_feed_56 rfl (by unfold jRi; omega) (fun c170 => ?_) (fun c170 => ?_)
                      · skip
                        exfalso
                        omega
                      · skip
                        refine jt_iconst d_GM_feed_59 ?_
                        exact gm_ret d_GM_feed_60 rfl rfl (⟨fun z => by unfold gtok at z; first | exact ⟨rfl, rfl, rfl⟩ | (exfalso; omega), fun z y => by unfold gtok at z; first | exact ⟨rfl, rfl, rfl⟩ | (exfalso; omega), fun z y => by unfold gtok at z; first | exact ⟨by rw [], by rw [], rfl⟩ | (exfalso; omega)⟩)
                    · skip
                      obtain rfl := hbq169 gq169
                      show jt _ 56 [(0, .ref m), (1, .int (jI k)), (2, .int (jI v))] [.int (jI 0)] (gmf m f0 I A) _ _ _
                      refine jt_if_eq (t := 61) d_GM_feed_56 rfl (by unfold jRi; omega) (fun c171 => ?_) (fun c171 => ?_)
                      · skip
                        refine jt_iload_n d_GM_feed_61 rfl ?_
                        refine jt_iconst d_GM_feed_62 ?_
                        refine jt_icmp_ne (t := 76) d_GM_feed_63 rfl (by unfold jRi; omega) (by unfold jRi; omega) (fun c172 => ?_) (fun c172 => ?_)
                        · skip
                          refine jt_iload_n d_GM_feed_76 rfl ?_
                          refine jt_iconst d_GM_feed_77 ?_
                          refine jt_icmp_ne (t := 94) d_GM_feed_78 rfl (by unfold jRi; omega) (by unfold jRi; omega) (fun c173 => ?_) (fun c173 => ?_)
                          · skip
                            refine jt_aload_n d_GM_feed_94 rfl ?_
                            refine gm_gI (k := 0) (v := I 0) d_GM_feed_95 GM_f7 (by decide) rfl ?_
                            refine jt_bipush d_GM_feed_98 (by omega) ?_
                            refine jt_icmp_ne (t := 106) d_GM_feed_100 rfl (by unfold jRi; omega) (by unfold jRi; omega) (fun c174 => ?_) (fun c174 => ?_)
                            · skip
                              refine jt_aload_n d_GM_feed_106 rfl ?_
                              refine gm_gA (k := 16) (a := m + 1) d_GM_feed_107 GM_f59 (by decide) (by decide) rfl ?_
                              refine jt_aload_n d_GM_feed_110 rfl ?_
                              refine gm_gI (k := 0) (v := I 0) d_GM_feed_111 GM_f7 (by decide) rfl ?_
                              refine jt_iload_n d_GM_feed_114 rfl ?_
                              refine gm_st0 (k := 16) (n := 120) (B := va_up A 16 (ju (A 16) (I 0) k)) d_GM_feed_115 rfl (by decide) (by decide) rfl rfl (by omega) (by omega) (by omega) rfl ?_
                              refine jt_aload_n d_GM_feed_116 rfl ?_
                              refine gm_gA (k := 17) (a := m + 2) d_GM_feed_117 GM_f63 (by decide) (by decide) rfl ?_
                              refine jt_aload_n d_GM_feed_120 rfl ?_
                              refine gm_gI (k := 0) (v := I 0) d_GM_feed_121 GM_f7 (by decide) rfl ?_
                              refine jt_iload_n d_GM_feed_124 rfl ?_
                              refine gm_st0 (k := 17) (n := 120) (B := va_up (va_up A 16 (ju (A 16) (I 0) k)) 17 (ju (A 17) (I 0) v)) d_GM_feed_125 rfl (by decide) (by decide) rfl rfl (by omega) (by omega) (by omega) rfl ?_
                              refine jt_aload_n d_GM_feed_126 rfl ?_
                              refine jt_dup d_GM_feed_127 rfl ?_
                              refine gm_gI (k := 0) (v := I 0) d_GM_feed_128 GM_f7 (by decide) rfl ?_
                              refine jt_iconst d_GM_feed_131 ?_
                              refine jt_iadd d_GM_feed_132 ?_
                              refine jt_topi (fun v175 ev175 => ?_)
                              refine gm_pI (k := 0) (v := v175) (J := va_up I 0 v175) d_GM_feed_133 (GM_w7 _ rfl) (by decide) rfl rfl rfl ?_
                              refine jt_aload_n d_GM_feed_136 rfl ?_
                              refine gm_gI (k := 0) (v := v175) d_GM_feed_137 GM_f7 (by decide) rfl ?_
                              exact gm_ret d_GM_feed_140 rfl rfl (⟨fun z => by unfold gtok at z; first | exact ⟨rfl, rfl, rfl⟩ | (exfalso; omega), fun z y => by unfold gtok at z; first | exact ⟨rfl, rfl, rfl⟩ | (exfalso; omega), fun z y => by unfold gtok at z; first | exact ⟨by rw [ev175], by rw [ev175], rfl⟩ | (exfalso; omega)⟩)
                            · skip
                              refine jt_bipush d_GM_feed_103 (by omega) ?_
                              exact gm_ret d_GM_feed_105 rfl rfl (⟨fun z => by unfold gtok at z; first | exact ⟨rfl, rfl, rfl⟩ | (exfalso; omega), fun z y => by unfold gtok at z; first | exact ⟨rfl, rfl, rfl⟩ | (exfalso; omega), fun z y => by unfold gtok at z; first | exact ⟨by rw [], by rw [], rfl⟩ | (exfalso; omega)⟩)
                          · skip
                            refine jt_aload_n d_GM_feed_81 rfl ?_
                            refine jt_iload_n d_GM_feed_82 rfl ?_
                            refine jt_iconst d_GM_feed_83 ?_
                            refine jt_bipush d_GM_feed_84 (by omega) ?_
                            refine gct_call (Y := Y_GM_out) (As := [.int (jI v), .int (jI 0), .int (jI 13)]) (rest := []) d_GM_feed_86 GM_c152 yk_GM_out yv_GM_out rfl (Nat.le_of_ble_eq_true rfl) rfl rfl (Nat.le_of_ble_eq_true rfl) (c_GM_out G _ m v 0 13 I A (by unfold jRi; omega) (by unfold jRi; omega) (by unfold jRi; omega)) (fun rvq176 Iq176 Aq176 hq176 => ?_)
                            obtain ⟨haq176, hbq176, hIq176, hAq176⟩ := hq176
                            rw [hIq176, hAq176]
                            by_cases gq176 : v < 0 ∨ 13 < v
                            · skip
                              obtain rfl := haq176 gq176
                              show jt _ 89 [(0, .ref m), (1, .int (jI k)), (2, .int (jI v))] [.int (jI 1)] (gmf m f0 I A) _ _ _
                              refine jt_if_eq (t := 94) d_GM_feed_89 rfl (by unfold jRi; omega) (fun c177 => ?_) (fun c177 => ?_)
                              · skip
                                exfalso
                                omega
                              · skip
                                refine jt_iconst d_GM_feed_92 ?_
                                exact gm_ret d_GM_feed_93 rfl rfl (⟨fun z => by unfold gtok at z; first | exact ⟨rfl, rfl, rfl⟩ | (exfalso; omega), fun z y => by unfold gtok at z; first | exact ⟨rfl, rfl, rfl⟩ | (exfalso; omega), fun z y => by unfold gtok at z; first | exact ⟨by rw [], by rw [], rfl⟩ | (exfalso; omega)⟩)
                            · skip
                              obtain rfl := hbq176 gq176
                              show jt _ 89 [(0, .ref m), (1, .int (jI k)), (2, .int (jI v))] [.int (jI 0)] (gmf m f0 I A) _ _ _
                              refine jt_if_eq (t := 94) d_GM_feed_89 rfl (by unfold jRi; omega) (fun c178 => ?_) (fun c178 => ?_)
                              · skip
                                refine jt_aload_n d_GM_feed_94 rfl ?_
                                refine gm_gI (k := 0) (v := I 0) d_GM_feed_95 GM_f7 (by decide) rfl ?_
                                refine jt_bipush d_GM_feed_98 (by omega) ?_
                                refine jt_icmp_ne (t := 106) d_GM_feed_100 rfl (by unfold jRi; omega) (by unfold jRi; omega) (fun c179 => ?_) (fun c179 => ?_)
                                · skip
                                  refine jt_aload_n d_GM_feed_106 rfl ?_
                                  refine gm_gA (k := 16) (a := m + 1) d_GM_feed_107 GM_f59 (by decide) (by decide) rfl ?_
                                  refine jt_aload_n d_GM_feed_110 rfl ?_
                                  refine gm_gI (k := 0) (v := I 0) d_GM_feed_111 GM_f7 (by decide) rfl ?_
                                  refine jt_iload_n d_GM_feed_114 rfl ?_
                                  refine gm_st0 (k := 16) (n := 120) (B := va_up A 16 (ju (A 16) (I 0) k)) d_GM_feed_115 rfl (by decide) (by decide) rfl rfl (by omega) (by omega) (by omega) rfl ?_
                                  refine jt_aload_n d_GM_feed_116 rfl ?_
                                  refine gm_gA (k := 17) (a := m + 2) d_GM_feed_117 GM_f63 (by decide) (by decide) rfl ?_
                                  refine jt_aload_n d_GM_feed_120 rfl ?_
                                  refine gm_gI (k := 0) (v := I 0) d_GM_feed_121 GM_f7 (by decide) rfl ?_
                                  refine jt_iload_n d_GM_feed_124 rfl ?_
                                  refine gm_st0 (k := 17) (n := 120) (B := va_up (va_up A 16 (ju (A 16) (I 0) k)) 17 (ju (A 17) (I 0) v)) d_GM_feed_125 rfl (by decide) (by decide) rfl rfl (by omega) (by omega) (by omega) rfl ?_
                                  refine jt_aload_n d_GM_feed_126 rfl ?_
                                  refine jt_dup d_GM_feed_127 rfl ?_
                                  refine gm_gI (k := 0) (v := I 0) d_GM_feed_128 GM_f7 (by decide) rfl ?_
                                  refine jt_iconst d_GM_feed_131 ?_
                                  refine jt_iadd d_GM_feed_132 ?_
                                  refine jt_topi (fun v180 ev180 => ?_)
                                  refine gm_pI (k := 0) (v := v180) (J := va_up I 0 v180) d_GM_feed_133 (GM_w7 _ rfl) (by decide) rfl rfl rfl ?_
                                  refine jt_aload_n d_GM_feed_136 rfl ?_
                                  refine gm_gI (k := 0) (v := v180) d_GM_feed_137 GM_f7 (by decide) rfl ?_
                                  exact gm_ret d_GM_feed_140 rfl rfl (⟨fun z => by unfold gtok at z; first | exact ⟨rfl, rfl, rfl⟩ | (exfalso; omega), fun z y => by unfold gtok at z; first | exact ⟨rfl, rfl, rfl⟩ | (exfalso; omega), fun z y => by unfold gtok at z; first | exact ⟨by rw [ev180], by rw [ev180], rfl⟩ | (exfalso; omega)⟩)
                                · skip
                                  refine jt_bipush d_GM_feed_103 (by omega) ?_
                                  exact gm_ret d_GM_feed_105 rfl rfl (⟨fun z => by unfold gtok at z; first | exact ⟨rfl, rfl, rfl⟩ | (exfalso; omega), fun z y => by unfold gtok at z; first | exact ⟨rfl, rfl, rfl⟩ | (exfalso; omega), fun z y => by unfold gtok at z; first | exact ⟨by rw [], by rw [], rfl⟩ | (exfalso; omega)⟩)
                              · skip
                                exfalso
                                omega
                        · skip
                          refine jt_aload_n d_GM_feed_66 rfl ?_
                          refine jt_iload_n d_GM_feed_67 rfl ?_
                          refine jt_iconst d_GM_feed_68 ?_
                          refine jt_iconst d_GM_feed_69 ?_
                          refine gct_call (Y := Y_GM_out) (As := [.int (jI v), .int (jI 0), .int (jI 5)]) (rest := []) d_GM_feed_70 GM_c152 yk_GM_out yv_GM_out rfl (Nat.le_of_ble_eq_true rfl) rfl rfl (Nat.le_of_ble_eq_true rfl) (c_GM_out G _ m v 0 5 I A (by unfold jRi; omega) (by unfold jRi; omega) (by unfold jRi; omega)) (fun rvq181 Iq181 Aq181 hq181 => ?_)
                          obtain ⟨haq181, hbq181, hIq181, hAq181⟩ := hq181
                          rw [hIq181, hAq181]
                          by_cases gq181 : v < 0 ∨ 5 < v
                          · skip
                            obtain rfl := haq181 gq181
                            show jt _ 73 [(0, .ref m), (1, .int (jI k)), (2, .int (jI v))] [.int (jI 1)] (gmf m f0 I A) _ _ _
                            refine jt_if_ne (t := 92) d_GM_feed_73 rfl (by unfold jRi; omega) (fun c182 => ?_) (fun c182 => ?_)
                            · skip
                              refine jt_iconst d_GM_feed_92 ?_
                              exact gm_ret d_GM_feed_93 rfl rfl (⟨fun z => by unfold gtok at z; first | exact ⟨rfl, rfl, rfl⟩ | (exfalso; omega), fun z y => by unfold gtok at z; first | exact ⟨rfl, rfl, rfl⟩ | (exfalso; omega), fun z y => by unfold gtok at z; first | exact ⟨by rw [], by rw [], rfl⟩ | (exfalso; omega)⟩)
                            · skip
                              exfalso
                              omega
                          · skip
                            obtain rfl := hbq181 gq181
                            show jt _ 73 [(0, .ref m), (1, .int (jI k)), (2, .int (jI v))] [.int (jI 0)] (gmf m f0 I A) _ _ _
                            refine jt_if_ne (t := 92) d_GM_feed_73 rfl (by unfold jRi; omega) (fun c183 => ?_) (fun c183 => ?_)
                            · skip
                              exfalso
                              omega
                            · skip
                              refine jt_iload_n d_GM_feed_76 rfl ?_
                              refine jt_iconst d_GM_feed_77 ?_
                              refine jt_icmp_ne (t := 94) d_GM_feed_78 rfl (by unfold jRi; omega) (by unfold jRi; omega) (fun c184 => ?_) (fun c184 => ?_)
                              · skip
                                refine jt_aload_n d_GM_feed_94 rfl ?_
                                refine gm_gI (k := 0) (v := I 0) d_GM_feed_95 GM_f7 (by decide) rfl ?_
                                refine jt_bipush d_GM_feed_98 (by omega) ?_
                                refine jt_icmp_ne (t := 106) d_GM_feed_100 rfl (by unfold jRi; omega) (by unfold jRi; omega) (fun c185 => ?_) (fun c185 => ?_)
                                · skip
                                  refine jt_aload_n d_GM_feed_106 rfl ?_
                                  refine gm_gA (k := 16) (a := m + 1) d_GM_feed_107 GM_f59 (by decide) (by decide) rfl ?_
                                  refine jt_aload_n d_GM_feed_110 rfl ?_
                                  refine gm_gI (k := 0) (v := I 0) d_GM_feed_111 GM_f7 (by decide) rfl ?_
                                  refine jt_iload_n d_GM_feed_114 rfl ?_
                                  refine gm_st0 (k := 16) (n := 120) (B := va_up A 16 (ju (A 16) (I 0) k)) d_GM_feed_115 rfl (by decide) (by decide) rfl rfl (by omega) (by omega) (by omega) rfl ?_
                                  refine jt_aload_n d_GM_feed_116 rfl ?_
                                  refine gm_gA (k := 17) (a := m + 2) d_GM_feed_117 GM_f63 (by decide) (by decide) rfl ?_
                                  refine jt_aload_n d_GM_feed_120 rfl ?_
                                  refine gm_gI (k := 0) (v := I 0) d_GM_feed_121 GM_f7 (by decide) rfl ?_
                                  refine jt_iload_n d_GM_feed_124 rfl ?_
                                  refine gm_st0 (k := 17) (n := 120) (B := va_up (va_up A 16 (ju (A 16) (I 0) k)) 17 (ju (A 17) (I 0) v)) d_GM_feed_125 rfl (by decide) (by decide) rfl rfl (by omega) (by omega) (by omega) rfl ?_
                                  refine jt_aload_n d_GM_feed_126 rfl ?_
                                  refine jt_dup d_GM_feed_127 rfl ?_
                                  refine gm_gI (k := 0) (v := I 0) d_GM_feed_128 GM_f7 (by decide) rfl ?_
                                  refine jt_iconst d_GM_feed_131 ?_
                                  refine jt_iadd d_GM_feed_132 ?_
                                  refine jt_topi (fun v186 ev186 => ?_)
                                  refine gm_pI (k := 0) (v := v186) (J := va_up I 0 v186) d_GM_feed_133 (GM_w7 _ rfl) (by decide) rfl rfl rfl ?_
                                  refine jt_aload_n d_GM_feed_136 rfl ?_
                                  refine gm_gI (k := 0) (v := v186) d_GM_feed_137 GM_f7 (by decide) rfl ?_
                                  exact gm_ret d_GM_feed_140 rfl rfl (⟨fun z => by unfold gtok at z; first | exact ⟨rfl, rfl, rfl⟩ | (exfalso; omega), fun z y => by unfold gtok at z; first | exact ⟨rfl, rfl, rfl⟩ | (exfalso; omega), fun z y => by unfold gtok at z; first | exact ⟨by rw [ev186], by rw [ev186], rfl⟩ | (exfalso; omega)⟩)
                                · skip
                                  refine jt_bipush d_GM_feed_103 (by omega) ?_
                                  exact gm_ret d_GM_feed_105 rfl rfl (⟨fun z => by unfold gtok at z; first | exact ⟨rfl, rfl, rfl⟩ | (exfalso; omega), fun z y => by unfold gtok at z; first | exact ⟨rfl, rfl, rfl⟩ | (exfalso; omega), fun z y => by unfold gtok at z; first | exact ⟨by rw [], by rw [], rfl⟩ | (exfalso; omega)⟩)
                              · skip
                                refine jt_aload_n d_GM_feed_81 rfl ?_
                                refine jt_iload_n d_GM_feed_82 rfl ?_
                                refine jt_iconst d_GM_feed_83 ?_
                                refine jt_bipush d_GM_feed_84 (by omega) ?_
                                refine gct_call (Y := Y_GM_out) (As := [.int (jI v), .int (jI 0), .int (jI 13)]) (rest := []) d_GM_feed_86 GM_c152 yk_GM_out yv_GM_out rfl (Nat.le_of_ble_eq_true rfl) rfl rfl (Nat.le_of_ble_eq_true rfl) (c_GM_out G _ m v 0 13 I A (by unfold jRi; omega) (by unfold jRi; omega) (by unfold jRi; omega)) (fun rvq187 Iq187 Aq187 hq187 => ?_)
                                obtain ⟨haq187, hbq187, hIq187, hAq187⟩ := hq187
                                rw [hIq187, hAq187]
                                by_cases gq187 : v < 0 ∨ 13 < v
                                · skip
                                  obtain rfl := haq187 gq187
                                  show jt _ 89 [(0, .ref m), (1, .int (jI k)), (2, .int (jI v))] [.int (jI 1)] (gmf m f0 I A) _ _ _
                                  refine jt_if_eq (t := 94) d_GM_feed_89 rfl (by unfold jRi; omega) (fun c188 => ?_) (fun c188 => ?_)
                                  · skip
                                    exfalso
                                    omega
                                  · skip
                                    refine jt_iconst d_GM_feed_92 ?_
                                    exact gm_ret d_GM_feed_93 rfl rfl (⟨fun z => by unfold gtok at z; first | exact ⟨rfl, rfl, rfl⟩ | (exfalso; omega), fun z y => by unfold gtok at z; first | exact ⟨rfl, rfl, rfl⟩ | (exfalso; omega), fun z y => by unfold gtok at z; first | exact ⟨by rw [], by rw [], rfl⟩ | (exfalso; omega)⟩)
                                · skip
                                  obtain rfl := hbq187 gq187
                                  show jt _ 89 [(0, .ref m), (1, .int (jI k)), (2, .int (jI v))] [.int (jI 0)] (gmf m f0 I A) _ _ _
                                  refine jt_if_eq (t := 94) d_GM_feed_89 rfl (by unfold jRi; omega) (fun c189 => ?_) (fun c189 => ?_)
                                  · skip
                                    refine jt_aload_n d_GM_feed_94 rfl ?_
                                    refine gm_gI (k := 0) (v := I 0) d_GM_feed_95 GM_f7 (by decide) rfl ?_
                                    refine jt_bipush d_GM_feed_98 (by omega) ?_
                                    refine jt_icmp_ne (t := 106) d_GM_feed_100 rfl (by unfold jRi; omega) (by unfold jRi; omega) (fun c190 => ?_) (fun c190 => ?_)
                                    · skip
                                      refine jt_aload_n d_GM_feed_106 rfl ?_
                                      refine gm_gA (k := 16) (a := m + 1) d_GM_feed_107 GM_f59 (by decide) (by decide) rfl ?_
                                      refine jt_aload_n d_GM_feed_110 rfl ?_
                                      refine gm_gI (k := 0) (v := I 0) d_GM_feed_111 GM_f7 (by decide) rfl ?_
                                      refine jt_iload_n d_GM_feed_114 rfl ?_
                                      refine gm_st0 (k := 16) (n := 120) (B := va_up A 16 (ju (A 16) (I 0) k)) d_GM_feed_115 rfl (by decide) (by decide) rfl rfl (by omega) (by omega) (by omega) rfl ?_
                                      refine jt_aload_n d_GM_feed_116 rfl ?_
                                      refine gm_gA (k := 17) (a := m + 2) d_GM_feed_117 GM_f63 (by decide) (by decide) rfl ?_
                                      refine jt_aload_n d_GM_feed_120 rfl ?_
                                      refine gm_gI (k := 0) (v := I 0) d_GM_feed_121 GM_f7 (by decide) rfl ?_
                                      refine jt_iload_n d_GM_feed_124 rfl ?_
                                      refine gm_st0 (k := 17) (n := 120) (B := va_up (va_up A 16 (ju (A 16) (I 0) k)) 17 (ju (A 17) (I 0) v)) d_GM_feed_125 rfl (by decide) (by decide) rfl rfl (by omega) (by omega) (by omega) rfl ?_
                                      refine jt_aload_n d_GM_feed_126 rfl ?_
                                      refine jt_dup d_GM_feed_127 rfl ?_
                                      refine gm_gI (k := 0) (v := I 0) d_GM_feed_128 GM_f7 (by decide) rfl ?_
                                      refine jt_iconst d_GM_feed_131 ?_
                                      refine jt_iadd d_GM_feed_132 ?_
                                      refine jt_topi (fun v191 ev191 => ?_)
                                      refine gm_pI (k := 0) (v := v191) (J := va_up I 0 v191) d_GM_feed_133 (GM_w7 _ rfl) (by decide) rfl rfl rfl ?_
                                      refine jt_aload_n d_GM_feed_136 rfl ?_
                                      refine gm_gI (k := 0) (v := v191) d_GM_feed_137 GM_f7 (by decide) rfl ?_
                                      exact gm_ret d_GM_feed_140 rfl rfl (⟨fun z => by unfold gtok at z; first | exact ⟨rfl, rfl, rfl⟩ | (exfalso; omega), fun z y => by unfold gtok at z; first | exact ⟨rfl, rfl, rfl⟩ | (exfalso; omega), fun z y => by unfold gtok at z; first | exact ⟨by rw [ev191], by rw [ev191], rfl⟩ | (exfalso; omega)⟩)
                                    · skip
                                      refine jt_bipush d_GM_feed_103 (by omega) ?_
                                      exact gm_ret d_GM_feed_105 rfl rfl (⟨fun z => by unfold gtok at z; first | exact ⟨rfl, rfl, rfl⟩ | (exfalso; omega), fun z y => by unfold gtok at z; first | exact ⟨rfl, rfl, rfl⟩ | (exfalso; omega), fun z y => by unfold gtok at z; first | exact ⟨by rw [], by rw [], rfl⟩ | (exfalso; omega)⟩)
                                  · skip
                                    exfalso
                                    omega
                      · skip
                        exfalso
                        omega

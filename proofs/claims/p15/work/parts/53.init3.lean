theorem pd_GM : ∀ j, j < 46 → defaultValue ((parseFieldDescriptor (T_GM j).2.2.1).getD .int) = vp_V [.int (jI 0), .int (jI 0), .int (jI 0), .int (jI 0), .int (jI 0), .int (jI 0), .int (jI 0), .int (jI 0), .int (jI 0), .int (jI 0), .int (jI 0), .int (jI 0), .int (jI 0), .int (jI 0), .int (jI 0), .int (jI 0), .null, .null, .null, .null, .null, .null, .null, .null, .null, .null, .null, .null, .null, .null, .null, .null, .null, .null, .null, .null, .null, .null, .null, .null, .null, .null, .null, .null, .null, .null] j := by
  intro j hj
  match j, hj with
  | 0, _ => rfl
  | 1, _ => rfl
  | 2, _ => rfl
  | 3, _ => rfl
  | 4, _ => rfl
  | 5, _ => rfl
  | 6, _ => rfl
  | 7, _ => rfl
  | 8, _ => rfl
  | 9, _ => rfl
  | 10, _ => rfl
  | 11, _ => rfl
  | 12, _ => rfl
  | 13, _ => rfl
  | 14, _ => rfl
  | 15, _ => rfl
  | 16, _ => rfl
  | 17, _ => rfl
  | 18, _ => rfl
  | 19, _ => rfl
  | 20, _ => rfl
  | 21, _ => rfl
  | 22, _ => rfl
  | 23, _ => rfl
  | 24, _ => rfl
  | 25, _ => rfl
  | 26, _ => rfl
  | 27, _ => rfl
  | 28, _ => rfl
  | 29, _ => rfl
  | 30, _ => rfl
  | 31, _ => rfl
  | 32, _ => rfl
  | 33, _ => rfl
  | 34, _ => rfl
  | 35, _ => rfl
  | 36, _ => rfl
  | 37, _ => rfl
  | 38, _ => rfl
  | 39, _ => rfl
  | 40, _ => rfl
  | 41, _ => rfl
  | 42, _ => rfl
  | 43, _ => rfl
  | 44, _ => rfl
  | 45, _ => rfl
  | j + 46, hj => omega
def GI0 : Nat → Int := fun k => if k = 3 then -1 else 0
def GA0 : Nat → Int → Int := fun k z => if k = 20 then (if 0 ≤ z ∧ z < 6 then -1 else 0) else 0
def gmp (m j : Nat) (g : jF) (fs : List Value) : jF := fun q => if q = m then some (jOb 8 fs) else if m < q ∧ q ≤ m + j then some (gmc (q - m + 15) (fun _ => 0)) else g q
theorem gmp_o (m j : Nat) (g : jF) (fs : List Value) : gmp m j g fs m = some (jOb 8 fs) := by simp [gmp]
theorem gmp_0 (m : Nat) (g : jF) (fs : List Value) : va_up g m (some (jOb 8 fs)) = gmp m 0 g fs := by
  funext q
  unfold gmp
  by_cases h : q = m
  · subst h; rw [va_up_self, if_pos rfl]
  · rw [va_up_ne _ _ h, if_neg h, if_neg (by omega)]
theorem gmp_f (m j : Nat) (g : jF) (fs fs' : List Value) : va_up (gmp m j g fs) m (some (jOb 8 fs')) = gmp m j g fs' := by
  funext q
  unfold gmp
  by_cases h : q = m
  · subst h; rw [va_up_self, if_pos rfl]
  · rw [va_up_ne _ _ h, if_neg h, if_neg h]
theorem gmp_n (m j : Nat) (g : jF) (fs : List Value) {x : va_E} (hx : gmc (j + 16) (fun _ => 0) = x) : va_up (gmp m j g fs) (m + (j + 1)) (some x) = gmp m (j + 1) g fs := by
  funext q
  unfold gmp
  by_cases h : q = m + (j + 1)
  · subst h; rw [va_up_self, if_neg (by omega), if_pos ⟨by omega, by omega⟩, show m + (j + 1) - m + 15 = j + 16 by omega, hx]
  · rw [va_up_ne _ _ h]
    by_cases h1 : q = m
    · rw [if_pos h1, if_pos h1]
    · rw [if_neg h1, if_neg h1]
      by_cases h2 : m < q ∧ q ≤ m + j
      · rw [if_pos h2, if_pos ⟨h2.1, by omega⟩]
      · rw [if_neg h2, if_neg (by omega)]
theorem gmp_z (m : Nat) (g : jF) (fs : List Value) {P : Int → Int} (hf : fs = gmo m GI0) (hP : P = GA0 20) : va_up (gmp m 30 g fs) (m + 5) (some (jAI 6 P)) = gmf m g GI0 GA0 := by
  subst hf; subst hP
  funext q
  by_cases h : q = m + 5
  · subst h
    rw [va_up_self, show m + 5 = m + (20 - 15) from rfl, gmf_a m g GI0 GA0 (by decide) (by decide)]
    rfl
  · rw [va_up_ne _ _ h]
    unfold gmp gmf
    by_cases h1 : q = m
    · rw [if_pos h1, if_pos h1]
    · rw [if_neg h1, if_neg h1]
      by_cases h2 : m < q ∧ q ≤ m + 30
      · rw [if_pos h2, if_pos h2, show GA0 (q - m + 15) = fun _ => 0 from funext (fun z => by unfold GA0; rw [if_neg (by omega)])]
      · rw [if_neg h2, if_neg h2]
set_option maxRecDepth 100000 in
set_option maxHeartbeats 2000000 in
theorem i_GM (G : jG) (d m : Nat) (g : jF) : jct G Y_GM_init (iR (d + 1) 30 12602) [.ref m] (va_up g m (some (jOb 8 [.int (jI 0), .int (jI 0), .int (jI 0), .int (jI 0), .int (jI 0), .int (jI 0), .int (jI 0), .int (jI 0), .int (jI 0), .int (jI 0), .int (jI 0), .int (jI 0), .int (jI 0), .int (jI 0), .int (jI 0), .int (jI 0), .null, .null, .null, .null, .null, .null, .null, .null, .null, .null, .null, .null, .null, .null, .null, .null, .null, .null, .null, .null, .null, .null, .null, .null, .null, .null, .null, .null, .null, .null]))) (m + 1) (fun rv f' sz' => rv = none ∧ f' = gmf m g GI0 GA0 ∧ sz' = m + 31) := by
  refine jct_of (by decide) (Nat.le_of_ble_eq_true rfl) ?_
  show jt _ 0 [(0, .ref m)] [] _ _ _ _
  refine jt_fe (gmp_0 m g _) rfl ?_
  refine jt_aload_n d_GM_init_0 rfl ?_
  refine jt_objInit d_GM_init_1 GM_o1 (show 0 + 12 ≤ (d + 1) * 40 by omega) (show 1 ≤ d + 1 by omega) ?_
  refine jt_aload_n d_GM_init_4 rfl ?_
  refine jt_iconst d_GM_init_5 ?_
  refine jt_putf d_GM_init_6 (GM_w7 _ rfl) (gmp_o _ _ _ _) rfl rfl (Nat.le_of_ble_eq_true rfl) ?_
  refine jt_fe (f' := gmp m 0 g [.int (jI (0)), .int (jI 0), .int (jI 0), .int (jI 0), .int (jI 0), .int (jI 0), .int (jI 0), .int (jI 0), .int (jI 0), .int (jI 0), .int (jI 0), .int (jI 0), .int (jI 0), .int (jI 0), .int (jI 0), .int (jI 0), .null, .null, .null, .null, .null, .null, .null, .null, .null, .null, .null, .null, .null, .null, .null, .null, .null, .null, .null, .null, .null, .null, .null, .null, .null, .null, .null, .null, .null, .null]) (gmp_f m 0 g _ _) rfl ?_
  refine jt_aload_n d_GM_init_9 rfl ?_
  refine jt_iconst d_GM_init_10 ?_
  refine jt_putf d_GM_init_11 (GM_w13 _ rfl) (gmp_o _ _ _ _) rfl rfl (Nat.le_of_ble_eq_true rfl) ?_
  refine jt_fe (f' := gmp m 0 g [.int (jI (0)), .int (jI (0)), .int (jI 0), .int (jI 0), .int (jI 0), .int (jI 0), .int (jI 0), .int (jI 0), .int (jI 0), .int (jI 0), .int (jI 0), .int (jI 0), .int (jI 0), .int (jI 0), .int (jI 0), .int (jI 0), .null, .null, .null, .null, .null, .null, .null, .null, .null, .null, .null, .null, .null, .null, .null, .null, .null, .null, .null, .null, .null, .null, .null, .null, .null, .null, .null, .null, .null, .null]) (gmp_f m 0 g _ _) rfl ?_
  refine jt_aload_n d_GM_init_14 rfl ?_
  refine jt_iconst d_GM_init_15 ?_
  refine jt_putf d_GM_init_16 (GM_w16 _ rfl) (gmp_o _ _ _ _) rfl rfl (Nat.le_of_ble_eq_true rfl) ?_
  refine jt_fe (f' := gmp m 0 g [.int (jI (0)), .int (jI (0)), .int (jI (0)), .int (jI 0), .int (jI 0), .int (jI 0), .int (jI 0), .int (jI 0), .int (jI 0), .int (jI 0), .int (jI 0), .int (jI 0), .int (jI 0), .int (jI 0), .int (jI 0), .int (jI 0), .null, .null, .null, .null, .null, .null, .null, .null, .null, .null, .null, .null, .null, .null, .null, .null, .null, .null, .null, .null, .null, .null, .null, .null, .null, .null, .null, .null, .null, .null]) (gmp_f m 0 g _ _) rfl ?_
  refine jt_aload_n d_GM_init_19 rfl ?_
  refine jt_iconst d_GM_init_20 ?_
  refine jt_putf d_GM_init_21 (GM_w19 _ rfl) (gmp_o _ _ _ _) rfl rfl (Nat.le_of_ble_eq_true rfl) ?_
  refine jt_fe (f' := gmp m 0 g [.int (jI (0)), .int (jI (0)), .int (jI (0)), .int (jI (-1)), .int (jI 0), .int (jI 0), .int (jI 0), .int (jI 0), .int (jI 0), .int (jI 0), .int (jI 0), .int (jI 0), .int (jI 0), .int (jI 0), .int (jI 0), .int (jI 0), .null, .null, .null, .null, .null, .null, .null, .null, .null, .null, .null, .null, .null, .null, .null, .null, .null, .null, .null, .null, .null, .null, .null, .null, .null, .null, .null, .null, .null, .null]) (gmp_f m 0 g _ _) rfl ?_
  refine jt_aload_n d_GM_init_24 rfl ?_
  refine jt_iconst d_GM_init_25 ?_
  refine jt_putf d_GM_init_26 (GM_w22 _ rfl) (gmp_o _ _ _ _) rfl rfl (Nat.le_of_ble_eq_true rfl) ?_
  refine jt_fe (f' := gmp m 0 g [.int (jI (0)), .int (jI (0)), .int (jI (0)), .int (jI (-1)), .int (jI (0)), .int (jI 0), .int (jI 0), .int (jI 0), .int (jI 0), .int (jI 0), .int (jI 0), .int (jI 0), .int (jI 0), .int (jI 0), .int (jI 0), .int (jI 0), .null, .null, .null, .null, .null, .null, .null, .null, .null, .null, .null, .null, .null, .null, .null, .null, .null, .null, .null, .null, .null, .null, .null, .null, .null, .null, .null, .null, .null, .null]) (gmp_f m 0 g _ _) rfl ?_
  refine jt_aload_n d_GM_init_29 rfl ?_
  refine jt_iconst d_GM_init_30 ?_
  refine jt_putf d_GM_init_31 (GM_w25 _ rfl) (gmp_o _ _ _ _) rfl rfl (Nat.le_of_ble_eq_true rfl) ?_
  refine jt_fe (f' := gmp m 0 g [.int (jI (0)), .int (jI (0)), .int (jI (0)), .int (jI (-1)), .int (jI (0)), .int (jI (0)), .int (jI 0), .int (jI 0), .int (jI 0), .int (jI 0), .int (jI 0), .int (jI 0), .int (jI 0), .int (jI 0), .int (jI 0), .int (jI 0), .null, .null, .null, .null, .null, .null, .null, .null, .null, .null, .null, .null, .null, .null, .null, .null, .null, .null, .null, .null, .null, .null, .null, .null, .null, .null, .null, .null, .null, .null]) (gmp_f m 0 g _ _) rfl ?_
  refine jt_aload_n d_GM_init_34 rfl ?_
  refine jt_iconst d_GM_init_35 ?_
  refine jt_putf d_GM_init_36 (GM_w28 _ rfl) (gmp_o _ _ _ _) rfl rfl (Nat.le_of_ble_eq_true rfl) ?_
  refine jt_fe (f' := gmp m 0 g [.int (jI (0)), .int (jI (0)), .int (jI (0)), .int (jI (-1)), .int (jI (0)), .int (jI (0)), .int (jI (0)), .int (jI 0), .int (jI 0), .int (jI 0), .int (jI 0), .int (jI 0), .int (jI 0), .int (jI 0), .int (jI 0), .int (jI 0), .null, .null, .null, .null, .null, .null, .null, .null, .null, .null, .null, .null, .null, .null, .null, .null, .null, .null, .null, .null, .null, .null, .null, .null, .null, .null, .null, .null, .null, .null]) (gmp_f m 0 g _ _) rfl ?_
  refine jt_aload_n d_GM_init_39 rfl ?_
  refine jt_iconst d_GM_init_40 ?_
  refine jt_putf d_GM_init_41 (GM_w31 _ rfl) (gmp_o _ _ _ _) rfl rfl (Nat.le_of_ble_eq_true rfl) ?_
  refine jt_fe (f' := gmp m 0 g [.int (jI (0)), .int (jI (0)), .int (jI (0)), .int (jI (-1)), .int (jI (0)), .int (jI (0)), .int (jI (0)), .int (jI (0)), .int (jI 0), .int (jI 0), .int (jI 0), .int (jI 0), .int (jI 0), .int (jI 0), .int (jI 0), .int (jI 0), .null, .null, .null, .null, .null, .null, .null, .null, .null, .null, .null, .null, .null, .null, .null, .null, .null, .null, .null, .null, .null, .null, .null, .null, .null, .null, .null, .null, .null, .null]) (gmp_f m 0 g _ _) rfl ?_
  refine jt_aload_n d_GM_init_44 rfl ?_
  refine jt_iconst d_GM_init_45 ?_
  refine jt_putf d_GM_init_46 (GM_w34 _ rfl) (gmp_o _ _ _ _) rfl rfl (Nat.le_of_ble_eq_true rfl) ?_
  refine jt_fe (f' := gmp m 0 g [.int (jI (0)), .int (jI (0)), .int (jI (0)), .int (jI (-1)), .int (jI (0)), .int (jI (0)), .int (jI (0)), .int (jI (0)), .int (jI (0)), .int (jI 0), .int (jI 0), .int (jI 0), .int (jI 0), .int (jI 0), .int (jI 0), .int (jI 0), .null, .null, .null, .null, .null, .null, .null, .null, .null, .null, .null, .null, .null, .null, .null, .null, .null, .null, .null, .null, .null, .null, .null, .null, .null, .null, .null, .null, .null, .null]) (gmp_f m 0 g _ _) rfl ?_
  refine jt_aload_n d_GM_init_49 rfl ?_
  refine jt_iconst d_GM_init_50 ?_
  refine jt_putf d_GM_init_51 (GM_w37 _ rfl) (gmp_o _ _ _ _) rfl rfl (Nat.le_of_ble_eq_true rfl) ?_
  refine jt_fe (f' := gmp m 0 g [.int (jI (0)), .int (jI (0)), .int (jI (0)), .int (jI (-1)), .int (jI (0)), .int (jI (0)), .int (jI (0)), .int (jI (0)), .int (jI (0)), .int (jI (0)), .int (jI 0), .int (jI 0), .int (jI 0), .int (jI 0), .int (jI 0), .int (jI 0), .null, .null, .null, .null, .null, .null, .null, .null, .null, .null, .null, .null, .null, .null, .null, .null, .null, .null, .null, .null, .null, .null, .null, .null, .null, .null, .null, .null, .null, .null]) (gmp_f m 0 g _ _) rfl ?_
  refine jt_aload_n d_GM_init_54 rfl ?_
  refine jt_iconst d_GM_init_55 ?_
  refine jt_putf d_GM_init_56 (GM_w40 _ rfl) (gmp_o _ _ _ _) rfl rfl (Nat.le_of_ble_eq_true rfl) ?_
  refine jt_fe (f' := gmp m 0 g [.int (jI (0)), .int (jI (0)), .int (jI (0)), .int (jI (-1)), .int (jI (0)), .int (jI (0)), .int (jI (0)), .int (jI (0)), .int (jI (0)), .int (jI (0)), .int (jI (0)), .int (jI 0), .int (jI 0), .int (jI 0), .int (jI 0), .int (jI 0), .null, .null, .null, .null, .null, .null, .null, .null, .null, .null, .null, .null, .null, .null, .null, .null, .null, .null, .null, .null, .null, .null, .null, .null, .null, .null, .null, .null, .null, .null]) (gmp_f m 0 g _ _) rfl ?_
  refine jt_aload_n d_GM_init_59 rfl ?_
  refine jt_iconst d_GM_init_60 ?_
  refine jt_putf d_GM_init_61 (GM_w43 _ rfl) (gmp_o _ _ _ _) rfl rfl (Nat.le_of_ble_eq_true rfl) ?_
  refine jt_fe (f' := gmp m 0 g [.int (jI (0)), .int (jI (0)), .int (jI (0)), .int (jI (-1)), .int (jI (0)), .int (jI (0)), .int (jI (0)), .int (jI (0)), .int (jI (0)), .int (jI (0)), .int (jI (0)), .int (jI (0)), .int (jI 0), .int (jI 0), .int (jI 0), .int (jI 0), .null, .null, .null, .null, .null, .null, .null, .null, .null, .null, .null, .null, .null, .null, .null, .null, .null, .null, .null, .null, .null, .null, .null, .null, .null, .null, .null, .null, .null, .null]) (gmp_f m 0 g _ _) rfl ?_
  refine jt_aload_n d_GM_init_64 rfl ?_
  refine jt_iconst d_GM_init_65 ?_
  refine jt_putf d_GM_init_66 (GM_w46 _ rfl) (gmp_o _ _ _ _) rfl rfl (Nat.le_of_ble_eq_true rfl) ?_
  refine jt_fe (f' := gmp m 0 g [.int (jI (0)), .int (jI (0)), .int (jI (0)), .int (jI (-1)), .int (jI (0)), .int (jI (0)), .int (jI (0)), .int (jI (0)), .int (jI (0)), .int (jI (0)), .int (jI (0)), .int (jI (0)), .int (jI (0)), .int (jI 0), .int (jI 0), .int (jI 0), .null, .null, .null, .null, .null, .null, .null, .null, .null, .null, .null, .null, .null, .null, .null, .null, .null, .null, .null, .null, .null, .null, .null, .null, .null, .null, .null, .null, .null, .null]) (gmp_f m 0 g _ _) rfl ?_
  refine jt_aload_n d_GM_init_69 rfl ?_
  refine jt_iconst d_GM_init_70 ?_
  refine jt_putf d_GM_init_71 (GM_w49 _ rfl) (gmp_o _ _ _ _) rfl rfl (Nat.le_of_ble_eq_true rfl) ?_
  refine jt_fe (f' := gmp m 0 g [.int (jI (0)), .int (jI (0)), .int (jI (0)), .int (jI (-1)), .int (jI (0)), .int (jI (0)), .int (jI (0)), .int (jI (0)), .int (jI (0)), .int (jI (0)), .int (jI (0)), .int (jI (0)), .int (jI (0)), .int (jI (0)), .int (jI 0), .int (jI 0), .null, .null, .null, .null, .null, .null, .null, .null, .null, .null, .null, .null, .null, .null, .null, .null, .null, .null, .null, .null, .null, .null, .null, .null, .null, .null, .null, .null, .null, .null]) (gmp_f m 0 g _ _) rfl ?_
  refine jt_aload_n d_GM_init_74 rfl ?_
  refine jt_iconst d_GM_init_75 ?_
  refine jt_putf d_GM_init_76 (GM_w52 _ rfl) (gmp_o _ _ _ _) rfl rfl (Nat.le_of_ble_eq_true rfl) ?_
  refine jt_fe (f' := gmp m 0 g [.int (jI (0)), .int (jI (0)), .int (jI (0)), .int (jI (-1)), .int (jI (0)), .int (jI (0)), .int (jI (0)), .int (jI (0)), .int (jI (0)), .int (jI (0)), .int (jI (0)), .int (jI (0)), .int (jI (0)), .int (jI (0)), .int (jI (0)), .int (jI 0), .null, .null, .null, .null, .null, .null, .null, .null, .null, .null, .null, .null, .null, .null, .null, .null, .null, .null, .null, .null, .null, .null, .null, .null, .null, .null, .null, .null, .null, .null]) (gmp_f m 0 g _ _) rfl ?_
  refine jt_aload_n d_GM_init_79 rfl ?_
  refine jt_iconst d_GM_init_80 ?_
  refine jt_putf d_GM_init_81 (GM_w55 _ rfl) (gmp_o _ _ _ _) (jnz (by omega)) rfl (Nat.le_of_ble_eq_true rfl) ?_
  refine jt_fe (f' := gmp m 0 g [.int (jI (0)), .int (jI (0)), .int (jI (0)), .int (jI (-1)), .int (jI (0)), .int (jI (0)), .int (jI (0)), .int (jI (0)), .int (jI (0)), .int (jI (0)), .int (jI (0)), .int (jI (0)), .int (jI (0)), .int (jI (0)), .int (jI (0)), .int (jI (0)), .null, .null, .null, .null, .null, .null, .null, .null, .null, .null, .null, .null, .null, .null, .null, .null, .null, .null, .null, .null, .null, .null, .null, .null, .null, .null, .null, .null, .null, .null]) (gmp_f m 0 g _ _) rfl ?_
  refine jt_aload_n d_GM_init_84 rfl ?_
  refine jt_bipush d_GM_init_85 (by omega) ?_
  refine jt_newI (n := 120) d_GM_init_87 ac_int rfl (by omega) (show 0 + 1 ≤ 30 by omega) (show 0 + 120 ≤ 12602 by omega) ?_
  refine jt_fe (sz' := m + 2) (f' := gmp m 1 g [.int (jI (0)), .int (jI (0)), .int (jI (0)), .int (jI (-1)), .int (jI (0)), .int (jI (0)), .int (jI (0)), .int (jI (0)), .int (jI (0)), .int (jI (0)), .int (jI (0)), .int (jI (0)), .int (jI (0)), .int (jI (0)), .int (jI (0)), .int (jI (0)), .null, .null, .null, .null, .null, .null, .null, .null, .null, .null, .null, .null, .null, .null, .null, .null, .null, .null, .null, .null, .null, .null, .null, .null, .null, .null, .null, .null, .null, .null]) (gmp_n m 0 g _ rfl) rfl ?_
  refine jt_putf d_GM_init_89 (GM_w59 _ rfl rfl) (gmp_o _ _ _ _) rfl rfl (Nat.le_of_ble_eq_true rfl) ?_
  refine jt_fe (f' := gmp m 1 g [.int (jI (0)), .int (jI (0)), .int (jI (0)), .int (jI (-1)), .int (jI (0)), .int (jI (0)), .int (jI (0)), .int (jI (0)), .int (jI (0)), .int (jI (0)), .int (jI (0)), .int (jI (0)), .int (jI (0)), .int (jI (0)), .int (jI (0)), .int (jI (0)), .ref (m + 1), .null, .null, .null, .null, .null, .null, .null, .null, .null, .null, .null, .null, .null, .null, .null, .null, .null, .null, .null, .null, .null, .null, .null, .null, .null, .null, .null, .null, .null]) (gmp_f m 1 g _ _) rfl ?_
  refine jt_aload_n d_GM_init_92 rfl ?_
  refine jt_bipush d_GM_init_93 (by omega) ?_
  refine jt_newI (n := 120) d_GM_init_95 ac_int rfl (by omega) (show 1 + 1 ≤ 30 by omega) (show 120 + 120 ≤ 12602 by omega) ?_
  refine jt_fe (sz' := m + 3) (f' := gmp m 2 g [.int (jI (0)), .int (jI (0)), .int (jI (0)), .int (jI (-1)), .int (jI (0)), .int (jI (0)), .int (jI (0)), .int (jI (0)), .int (jI (0)), .int (jI (0)), .int (jI (0)), .int (jI (0)), .int (jI (0)), .int (jI (0)), .int (jI (0)), .int (jI (0)), .ref (m + 1), .null, .null, .null, .null, .null, .null, .null, .null, .null, .null, .null, .null, .null, .null, .null, .null, .null, .null, .null, .null, .null, .null, .null, .null, .null, .null, .null, .null, .null]) (gmp_n m 1 g _ rfl) rfl ?_
  refine jt_putf d_GM_init_97 (GM_w63 _ rfl rfl) (gmp_o _ _ _ _) rfl rfl (Nat.le_of_ble_eq_true rfl) ?_
  refine jt_fe (f' := gmp m 2 g [.int (jI (0)), .int (jI (0)), .int (jI (0)), .int (jI (-1)), .int (jI (0)), .int (jI (0)), .int (jI (0)), .int (jI (0)), .int (jI (0)), .int (jI (0)), .int (jI (0)), .int (jI (0)), .int (jI (0)), .int (jI (0)), .int (jI (0)), .int (jI (0)), .ref (m + 1), .ref (m + 2), .null, .null, .null, .null, .null, .null, .null, .null, .null, .null, .null, .null, .null, .null, .null, .null, .null, .null, .null, .null, .null, .null, .null, .null, .null, .null, .null, .null]) (gmp_f m 2 g _ _) rfl ?_
  refine jt_aload_n d_GM_init_100 rfl ?_
  refine jt_sipush d_GM_init_101 (by omega) ?_
  refine jt_newI (n := 240) d_GM_init_104 ac_int rfl (by omega) (show 2 + 1 ≤ 30 by omega) (show 240 + 240 ≤ 12602 by omega) ?_
  refine jt_fe (sz' := m + 4) (f' := gmp m 3 g [.int (jI (0)), .int (jI (0)), .int (jI (0)), .int (jI (-1)), .int (jI (0)), .int (jI (0)), .int (jI (0)), .int (jI (0)), .int (jI (0)), .int (jI (0)), .int (jI (0)), .int (jI (0)), .int (jI (0)), .int (jI (0)), .int (jI (0)), .int (jI (0)), .ref (m + 1), .ref (m + 2), .null, .null, .null, .null, .null, .null, .null, .null, .null, .null, .null, .null, .null, .null, .null, .null, .null, .null, .null, .null, .null, .null, .null, .null, .null, .null, .null, .null]) (gmp_n m 2 g _ rfl) rfl ?_
  refine jt_putf d_GM_init_106 (GM_w66 _ rfl rfl) (gmp_o _ _ _ _) rfl rfl (Nat.le_of_ble_eq_true rfl) ?_
  refine jt_fe (f' := gmp m 3 g [.int (jI (0)), .int (jI (0)), .int (jI (0)), .int (jI (-1)), .int (jI (0)), .int (jI (0)), .int (jI (0)), .int (jI (0)), .int (jI (0)), .int (jI (0)), .int (jI (0)), .int (jI (0)), .int (jI (0)), .int (jI (0)), .int (jI (0)), .int (jI (0)), .ref (m + 1), .ref (m + 2), .ref (m + 3), .null, .null, .null, .null, .null, .null, .null, .null, .null, .null, .null, .null, .null, .null, .null, .null, .null, .null, .null, .null, .null, .null, .null, .null, .null, .null, .null]) (gmp_f m 3 g _ _) rfl ?_
  refine jt_aload_n d_GM_init_109 rfl ?_
  refine jt_sipush d_GM_init_110 (by omega) ?_
  refine jt_newI (n := 240) d_GM_init_113 ac_int rfl (by omega) (show 3 + 1 ≤ 30 by omega) (show 480 + 240 ≤ 12602 by omega) ?_
  refine jt_fe (sz' := m + 5) (f' := gmp m 4 g [.int (jI (0)), .int (jI (0)), .int (jI (0)), .int (jI (-1)), .int (jI (0)), .int (jI (0)), .int (jI (0)), .int (jI (0)), .int (jI (0)), .int (jI (0)), .int (jI (0)), .int (jI (0)), .int (jI (0)), .int (jI (0)), .int (jI (0)), .int (jI (0)), .ref (m + 1), .ref (m + 2), .ref (m + 3), .null, .null, .null, .null, .null, .null, .null, .null, .null, .null, .null, .null, .null, .null, .null, .null, .null, .null, .null, .null, .null, .null, .null, .null, .null, .null, .null]) (gmp_n m 3 g _ rfl) rfl ?_
  refine jt_putf d_GM_init_115 (GM_w69 _ rfl rfl) (gmp_o _ _ _ _) rfl rfl (Nat.le_of_ble_eq_true rfl) ?_
  refine jt_fe (f' := gmp m 4 g [.int (jI (0)), .int (jI (0)), .int (jI (0)), .int (jI (-1)), .int (jI (0)), .int (jI (0)), .int (jI (0)), .int (jI (0)), .int (jI (0)), .int (jI (0)), .int (jI (0)), .int (jI (0)), .int (jI (0)), .int (jI (0)), .int (jI (0)), .int (jI (0)), .ref (m + 1), .ref (m + 2), .ref (m + 3), .ref (m + 4), .null, .null, .null, .null, .null, .null, .null, .null, .null, .null, .null, .null, .null, .null, .null, .null, .null, .null, .null, .null, .null, .null, .null, .null, .null, .null]) (gmp_f m 4 g _ _) rfl ?_
  refine jt_aload_n d_GM_init_118 rfl ?_
  refine jt_bipush d_GM_init_119 (by omega) ?_
  refine jt_newI (n := 6) d_GM_init_121 ac_int rfl (by omega) (show 4 + 1 ≤ 30 by omega) (show 720 + 6 ≤ 12602 by omega) ?_
  refine jt_fe (sz' := m + 6) (f' := gmp m 5 g [.int (jI (0)), .int (jI (0)), .int (jI (0)), .int (jI (-1)), .int (jI (0)), .int (jI (0)), .int (jI (0)), .int (jI (0)), .int (jI (0)), .int (jI (0)), .int (jI (0)), .int (jI (0)), .int (jI (0)), .int (jI (0)), .int (jI (0)), .int (jI (0)), .ref (m + 1), .ref (m + 2), .ref (m + 3), .ref (m + 4), .null, .null, .null, .null, .null, .null, .null, .null, .null, .null, .null, .null, .null, .null, .null, .null, .null, .null, .null, .null, .null, .null, .null, .null, .null, .null]) (gmp_n m 4 g _ rfl) rfl ?_
  refine jt_putf d_GM_init_123 (GM_w72 _ rfl rfl) (gmp_o _ _ _ _) rfl rfl (Nat.le_of_ble_eq_true rfl) ?_
  refine jt_fe (f' := gmp m 5 g [.int (jI (0)), .int (jI (0)), .int (jI (0)), .int (jI (-1)), .int (jI (0)), .int (jI (0)), .int (jI (0)), .int (jI (0)), .int (jI (0)), .int (jI (0)), .int (jI (0)), .int (jI (0)), .int (jI (0)), .int (jI (0)), .int (jI (0)), .int (jI (0)), .ref (m + 1), .ref (m + 2), .ref (m + 3), .ref (m + 4), .ref (m + 5), .null, .null, .null, .null, .null, .null, .null, .null, .null, .null, .null, .null, .null, .null, .null, .null, .null, .null, .null, .null, .null, .null, .null, .null, .null]) (gmp_f m 5 g _ _) rfl ?_
  refine jt_aload_n d_GM_init_126 rfl ?_
  refine jt_bipush d_GM_init_127 (by omega) ?_
  refine jt_newI (n := 6) d_GM_init_129 ac_int rfl (by omega) (show 5 + 1 ≤ 30 by omega) (show 726 + 6 ≤ 12602 by omega) ?_
  refine jt_fe (sz' := m + 7) (f' := gmp m 6 g [.int (jI (0)), .int (jI (0)), .int (jI (0)), .int (jI (-1)), .int (jI (0)), .int (jI (0)), .int (jI (0)), .int (jI (0)), .int (jI (0)), .int (jI (0)), .int (jI (0)), .int (jI (0)), .int (jI (0)), .int (jI (0)), .int (jI (0)), .int (jI (0)), .ref (m + 1), .ref (m + 2), .ref (m + 3), .ref (m + 4), .ref (m + 5), .null, .null, .null, .null, .null, .null, .null, .null, .null, .null, .null, .null, .null, .null, .null, .null, .null, .null, .null, .null, .null, .null, .null, .null, .null]) (gmp_n m 5 g _ rfl) rfl ?_
  refine jt_putf d_GM_init_131 (GM_w75 _ rfl rfl) (gmp_o _ _ _ _) rfl rfl (Nat.le_of_ble_eq_true rfl) ?_
  refine jt_fe (f' := gmp m 6 g [.int (jI (0)), .int (jI (0)), .int (jI (0)), .int (jI (-1)), .int (jI (0)), .int (jI (0)), .int (jI (0)), .int (jI (0)), .int (jI (0)), .int (jI (0)), .int (jI (0)), .int (jI (0)), .int (jI (0)), .int (jI (0)), .int (jI (0)), .int (jI (0)), .ref (m + 1), .ref (m + 2), .ref (m + 3), .ref (m + 4), .ref (m + 5), .ref (m + 6), .null, .null, .null, .null, .null, .null, .null, .null, .null, .null, .null, .null, .null, .null, .null, .null, .null, .null, .null, .null, .null, .null, .null, .null]) (gmp_f m 6 g _ _) rfl ?_
  refine jt_aload_n d_GM_init_134 rfl ?_
  refine jt_sipush d_GM_init_135 (by omega) ?_
  refine jt_newI (n := 700) d_GM_init_138 ac_int rfl (by omega) (show 6 + 1 ≤ 30 by omega) (show 732 + 700 ≤ 12602 by omega) ?_
  refine jt_fe (sz' := m + 8) (f' := gmp m 7 g [.int (jI (0)), .int (jI (0)), .int (jI (0)), .int (jI (-1)), .int (jI (0)), .int (jI (0)), .int (jI (0)), .int (jI (0)), .int (jI (0)), .int (jI (0)), .int (jI (0)), .int (jI (0)), .int (jI (0)), .int (jI (0)), .int (jI (0)), .int (jI (0)), .ref (m + 1), .ref (m + 2), .ref (m + 3), .ref (m + 4), .ref (m + 5), .ref (m + 6), .null, .null, .null, .null, .null, .null, .null, .null, .null, .null, .null, .null, .null, .null, .null, .null, .null, .null, .null, .null, .null, .null, .null, .null]) (gmp_n m 6 g _ rfl) rfl ?_
  refine jt_putf d_GM_init_140 (GM_w78 _ rfl rfl) (gmp_o _ _ _ _) rfl rfl (Nat.le_of_ble_eq_true rfl) ?_
  refine jt_fe (f' := gmp m 7 g [.int (jI (0)), .int (jI (0)), .int (jI (0)), .int (jI (-1)), .int (jI (0)), .int (jI (0)), .int (jI (0)), .int (jI (0)), .int (jI (0)), .int (jI (0)), .int (jI (0)), .int (jI (0)), .int (jI (0)), .int (jI (0)), .int (jI (0)), .int (jI (0)), .ref (m + 1), .ref (m + 2), .ref (m + 3), .ref (m + 4), .ref (m + 5), .ref (m + 6), .ref (m + 7), .null, .null, .null, .null, .null, .null, .null, .null, .null, .null, .null, .null, .null, .null, .null, .null, .null, .null, .null, .null, .null, .null, .null]) (gmp_f m 7 g _ _) rfl ?_
  refine jt_aload_n d_GM_init_143 rfl ?_
  refine jt_sipush d_GM_init_144 (by omega) ?_
  refine jt_newI (n := 700) d_GM_init_147 ac_int rfl (by omega) (show 7 + 1 ≤ 30 by omega) (show 1432 + 700 ≤ 12602 by omega) ?_
  refine jt_fe (sz' := m + 9) (f' := gmp m 8 g [.int (jI (0)), .int (jI (0)), .int (jI (0)), .int (jI (-1)), .int (jI (0)), .int (jI (0)), .int (jI (0)), .int (jI (0)), .int (jI (0)), .int (jI (0)), .int (jI (0)), .int (jI (0)), .int (jI (0)), .int (jI (0)), .int (jI (0)), .int (jI (0)), .ref (m + 1), .ref (m + 2), .ref (m + 3), .ref (m + 4), .ref (m + 5), .ref (m + 6), .ref (m + 7), .null, .null, .null, .null, .null, .null, .null, .null, .null, .null, .null, .null, .null, .null, .null, .null, .null, .null, .null, .null, .null, .null, .null]) (gmp_n m 7 g _ rfl) rfl ?_
  refine jt_putf d_GM_init_149 (GM_w81 _ rfl rfl) (gmp_o _ _ _ _) rfl rfl (Nat.le_of_ble_eq_true rfl) ?_
  refine jt_fe (f' := gmp m 8 g [.int (jI (0)), .int (jI (0)), .int (jI (0)), .int (jI (-1)), .int (jI (0)), .int (jI (0)), .int (jI (0)), .int (jI (0)), .int (jI (0)), .int (jI (0)), .int (jI (0)), .int (jI (0)), .int (jI (0)), .int (jI (0)), .int (jI (0)), .int (jI (0)), .ref (m + 1), .ref (m + 2), .ref (m + 3), .ref (m + 4), .ref (m + 5), .ref (m + 6), .ref (m + 7), .ref (m + 8), .null, .null, .null, .null, .null, .null, .null, .null, .null, .null, .null, .null, .null, .null, .null, .null, .null, .null, .null, .null, .null, .null]) (gmp_f m 8 g _ _) rfl ?_
  refine jt_aload_n d_GM_init_152 rfl ?_
  refine jt_sipush d_GM_init_153 (by omega) ?_
  refine jt_newI (n := 700) d_GM_init_156 ac_int rfl (by omega) (show 8 + 1 ≤ 30 by omega) (show 2132 + 700 ≤ 12602 by omega) ?_
  refine jt_fe (sz' := m + 10) (f' := gmp m 9 g [.int (jI (0)), .int (jI (0)), .int (jI (0)), .int (jI (-1)), .int (jI (0)), .int (jI (0)), .int (jI (0)), .int (jI (0)), .int (jI (0)), .int (jI (0)), .int (jI (0)), .int (jI (0)), .int (jI (0)), .int (jI (0)), .int (jI (0)), .int (jI (0)), .ref (m + 1), .ref (m + 2), .ref (m + 3), .ref (m + 4), .ref (m + 5), .ref (m + 6), .ref (m + 7), .ref (m + 8), .null, .null, .null, .null, .null, .null, .null, .null, .null, .null, .null, .null, .null, .null, .null, .null, .null, .null, .null, .null, .null, .null]) (gmp_n m 8 g _ rfl) rfl ?_
  refine jt_putf d_GM_init_158 (GM_w84 _ rfl rfl) (gmp_o _ _ _ _) rfl rfl (Nat.le_of_ble_eq_true rfl) ?_
  refine jt_fe (f' := gmp m 9 g [.int (jI (0)), .int (jI (0)), .int (jI (0)), .int (jI (-1)), .int (jI (0)), .int (jI (0)), .int (jI (0)), .int (jI (0)), .int (jI (0)), .int (jI (0)), .int (jI (0)), .int (jI (0)), .int (jI (0)), .int (jI (0)), .int (jI (0)), .int (jI (0)), .ref (m + 1), .ref (m + 2), .ref (m + 3), .ref (m + 4), .ref (m + 5), .ref (m + 6), .ref (m + 7), .ref (m + 8), .ref (m + 9), .null, .null, .null, .null, .null, .null, .null, .null, .null, .null, .null, .null, .null, .null, .null, .null, .null, .null, .null, .null, .null]) (gmp_f m 9 g _ _) rfl ?_
  refine jt_aload_n d_GM_init_161 rfl ?_
  refine jt_sipush d_GM_init_162 (by omega) ?_
  refine jt_newI (n := 700) d_GM_init_165 ac_int rfl (by omega) (show 9 + 1 ≤ 30 by omega) (show 2832 + 700 ≤ 12602 by omega) ?_
  refine jt_fe (sz' := m + 11) (f' := gmp m 10 g [.int (jI (0)), .int (jI (0)), .int (jI (0)), .int (jI (-1)), .int (jI (0)), .int (jI (0)), .int (jI (0)), .int (jI (0)), .int (jI (0)), .int (jI (0)), .int (jI (0)), .int (jI (0)), .int (jI (0)), .int (jI (0)), .int (jI (0)), .int (jI (0)), .ref (m + 1), .ref (m + 2), .ref (m + 3), .ref (m + 4), .ref (m + 5), .ref (m + 6), .ref (m + 7), .ref (m + 8), .ref (m + 9), .null, .null, .null, .null, .null, .null, .null, .null, .null, .null, .null, .null, .null, .null, .null, .null, .null, .null, .null, .null, .null]) (gmp_n m 9 g _ rfl) rfl ?_
  refine jt_putf d_GM_init_167 (GM_w87 _ rfl rfl) (gmp_o _ _ _ _) rfl rfl (Nat.le_of_ble_eq_true rfl) ?_
  refine jt_fe (f' := gmp m 10 g [.int (jI (0)), .int (jI (0)), .int (jI (0)), .int (jI (-1)), .int (jI (0)), .int (jI (0)), .int (jI (0)), .int (jI (0)), .int (jI (0)), .int (jI (0)), .int (jI (0)), .int (jI (0)), .int (jI (0)), .int (jI (0)), .int (jI (0)), .int (jI (0)), .ref (m + 1), .ref (m + 2), .ref (m + 3), .ref (m + 4), .ref (m + 5), .ref (m + 6), .ref (m + 7), .ref (m + 8), .ref (m + 9), .ref (m + 10), .null, .null, .null, .null, .null, .null, .null, .null, .null, .null, .null, .null, .null, .null, .null, .null, .null, .null, .null, .null]) (gmp_f m 10 g _ _) rfl ?_
  refine jt_aload_n d_GM_init_170 rfl ?_
  refine jt_sipush d_GM_init_171 (by omega) ?_
  refine jt_newI (n := 700) d_GM_init_174 ac_int rfl (by omega) (show 10 + 1 ≤ 30 by omega) (show 3532 + 700 ≤ 12602 by omega) ?_
  refine jt_fe (sz' := m + 12) (f' := gmp m 11 g [.int (jI (0)), .int (jI (0)), .int (jI (0)), .int (jI (-1)), .int (jI (0)), .int (jI (0)), .int (jI (0)), .int (jI (0)), .int (jI (0)), .int (jI (0)), .int (jI (0)), .int (jI (0)), .int (jI (0)), .int (jI (0)), .int (jI (0)), .int (jI (0)), .ref (m + 1), .ref (m + 2), .ref (m + 3), .ref (m + 4), .ref (m + 5), .ref (m + 6), .ref (m + 7), .ref (m + 8), .ref (m + 9), .ref (m + 10), .null, .null, .null, .null, .null, .null, .null, .null, .null, .null, .null, .null, .null, .null, .null, .null, .null, .null, .null, .null]) (gmp_n m 10 g _ rfl) rfl ?_
  refine jt_putf d_GM_init_176 (GM_w90 _ rfl rfl) (gmp_o _ _ _ _) rfl rfl (Nat.le_of_ble_eq_true rfl) ?_
  refine jt_fe (f' := gmp m 11 g [.int (jI (0)), .int (jI (0)), .int (jI (0)), .int (jI (-1)), .int (jI (0)), .int (jI (0)), .int (jI (0)), .int (jI (0)), .int (jI (0)), .int (jI (0)), .int (jI (0)), .int (jI (0)), .int (jI (0)), .int (jI (0)), .int (jI (0)), .int (jI (0)), .ref (m + 1), .ref (m + 2), .ref (m + 3), .ref (m + 4), .ref (m + 5), .ref (m + 6), .ref (m + 7), .ref (m + 8), .ref (m + 9), .ref (m + 10), .ref (m + 11), .null, .null, .null, .null, .null, .null, .null, .null, .null, .null, .null, .null, .null, .null, .null, .null, .null, .null, .null]) (gmp_f m 11 g _ _) rfl ?_
  refine jt_aload_n d_GM_init_179 rfl ?_
  refine jt_sipush d_GM_init_180 (by omega) ?_
  refine jt_newI (n := 700) d_GM_init_183 ac_int rfl (by omega) (show 11 + 1 ≤ 30 by omega) (show 4232 + 700 ≤ 12602 by omega) ?_
  refine jt_fe (sz' := m + 13) (f' := gmp m 12 g [.int (jI (0)), .int (jI (0)), .int (jI (0)), .int (jI (-1)), .int (jI (0)), .int (jI (0)), .int (jI (0)), .int (jI (0)), .int (jI (0)), .int (jI (0)), .int (jI (0)), .int (jI (0)), .int (jI (0)), .int (jI (0)), .int (jI (0)), .int (jI (0)), .ref (m + 1), .ref (m + 2), .ref (m + 3), .ref (m + 4), .ref (m + 5), .ref (m + 6), .ref (m + 7), .ref (m + 8), .ref (m + 9), .ref (m + 10), .ref (m + 11), .null, .null, .null, .null, .null, .null, .null, .null, .null, .null, .null, .null, .null, .null, .null, .null, .null, .null, .null]) (gmp_n m 11 g _ rfl) rfl ?_
  refine jt_putf d_GM_init_185 (GM_w93 _ rfl rfl) (gmp_o _ _ _ _) rfl rfl (Nat.le_of_ble_eq_true rfl) ?_
  refine jt_fe (f' := gmp m 12 g [.int (jI (0)), .int (jI (0)), .int (jI (0)), .int (jI (-1)), .int (jI (0)), .int (jI (0)), .int (jI (0)), .int (jI (0)), .int (jI (0)), .int (jI (0)), .int (jI (0)), .int (jI (0)), .int (jI (0)), .int (jI (0)), .int (jI (0)), .int (jI (0)), .ref (m + 1), .ref (m + 2), .ref (m + 3), .ref (m + 4), .ref (m + 5), .ref (m + 6), .ref (m + 7), .ref (m + 8), .ref (m + 9), .ref (m + 10), .ref (m + 11), .ref (m + 12), .null, .null, .null, .null, .null, .null, .null, .null, .null, .null, .null, .null, .null, .null, .null, .null, .null, .null]) (gmp_f m 12 g _ _) rfl ?_
  refine jt_aload_n d_GM_init_188 rfl ?_
  refine jt_iconst d_GM_init_189 ?_
  refine jt_newI (n := 3) d_GM_init_190 ac_int rfl (by omega) (show 12 + 1 ≤ 30 by omega) (show 4932 + 3 ≤ 12602 by omega) ?_
  refine jt_fe (sz' := m + 14) (f' := gmp m 13 g [.int (jI (0)), .int (jI (0)), .int (jI (0)), .int (jI (-1)), .int (jI (0)), .int (jI (0)), .int (jI (0)), .int (jI (0)), .int (jI (0)), .int (jI (0)), .int (jI (0)), .int (jI (0)), .int (jI (0)), .int (jI (0)), .int (jI (0)), .int (jI (0)), .ref (m + 1), .ref (m + 2), .ref (m + 3), .ref (m + 4), .ref (m + 5), .ref (m + 6), .ref (m + 7), .ref (m + 8), .ref (m + 9), .ref (m + 10), .ref (m + 11), .ref (m + 12), .null, .null, .null, .null, .null, .null, .null, .null, .null, .null, .null, .null, .null, .null, .null, .null, .null, .null]) (gmp_n m 12 g _ rfl) rfl ?_
  refine jt_putf d_GM_init_192 (GM_w96 _ rfl rfl) (gmp_o _ _ _ _) rfl rfl (Nat.le_of_ble_eq_true rfl) ?_
  refine jt_fe (f' := gmp m 13 g [.int (jI (0)), .int (jI (0)), .int (jI (0)), .int (jI (-1)), .int (jI (0)), .int (jI (0)), .int (jI (0)), .int (jI (0)), .int (jI (0)), .int (jI (0)), .int (jI (0)), .int (jI (0)), .int (jI (0)), .int (jI (0)), .int (jI (0)), .int (jI (0)), .ref (m + 1), .ref (m + 2), .ref (m + 3), .ref (m + 4), .ref (m + 5), .ref (m + 6), .ref (m + 7), .ref (m + 8), .ref (m + 9), .ref (m + 10), .ref (m + 11), .ref (m + 12), .ref (m + 13), .null, .null, .null, .null, .null, .null, .null, .null, .null, .null, .null, .null, .null, .null, .null, .null, .null]) (gmp_f m 13 g _ _) rfl ?_
  refine jt_aload_n d_GM_init_195 rfl ?_
  refine jt_iconst d_GM_init_196 ?_
  refine jt_newI (n := 3) d_GM_init_197 ac_int rfl (by omega) (show 13 + 1 ≤ 30 by omega) (show 4935 + 3 ≤ 12602 by omega) ?_
  refine jt_fe (sz' := m + 15) (f' := gmp m 14 g [.int (jI (0)), .int (jI (0)), .int (jI (0)), .int (jI (-1)), .int (jI (0)), .int (jI (0)), .int (jI (0)), .int (jI (0)), .int (jI (0)), .int (jI (0)), .int (jI (0)), .int (jI (0)), .int (jI (0)), .int (jI (0)), .int (jI (0)), .int (jI (0)), .ref (m + 1), .ref (m + 2), .ref (m + 3), .ref (m + 4), .ref (m + 5), .ref (m + 6), .ref (m + 7), .ref (m + 8), .ref (m + 9), .ref (m + 10), .ref (m + 11), .ref (m + 12), .ref (m + 13), .null, .null, .null, .null, .null, .null, .null, .null, .null, .null, .null, .null, .null, .null, .null, .null, .null]) (gmp_n m 13 g _ rfl) rfl ?_
  refine jt_putf d_GM_init_199 (GM_w99 _ rfl rfl) (gmp_o _ _ _ _) rfl rfl (Nat.le_of_ble_eq_true rfl) ?_
  refine jt_fe (f' := gmp m 14 g [.int (jI (0)), .int (jI (0)), .int (jI (0)), .int (jI (-1)), .int (jI (0)), .int (jI (0)), .int (jI (0)), .int (jI (0)), .int (jI (0)), .int (jI (0)), .int (jI (0)), .int (jI (0)), .int (jI (0)), .int (jI (0)), .int (jI (0)), .int (jI (0)), .ref (m + 1), .ref (m + 2), .ref (m + 3), .ref (m + 4), .ref (m + 5), .ref (m + 6), .ref (m + 7), .ref (m + 8), .ref (m + 9), .ref (m + 10), .ref (m + 11), .ref (m + 12), .ref (m + 13), .ref (m + 14), .null, .null, .null, .null, .null, .null, .null, .null, .null, .null, .null, .null, .null, .null, .null, .null]) (gmp_f m 14 g _ _) rfl ?_
  refine jt_aload_n d_GM_init_202 rfl ?_
  refine jt_bipush d_GM_init_203 (by omega) ?_
  refine jt_newI (n := 12) d_GM_init_205 ac_int rfl (by omega) (show 14 + 1 ≤ 30 by omega) (show 4938 + 12 ≤ 12602 by omega) ?_
  refine jt_fe (sz' := m + 16) (f' := gmp m 15 g [.int (jI (0)), .int (jI (0)), .int (jI (0)), .int (jI (-1)), .int (jI (0)), .int (jI (0)), .int (jI (0)), .int (jI (0)), .int (jI (0)), .int (jI (0)), .int (jI (0)), .int (jI (0)), .int (jI (0)), .int (jI (0)), .int (jI (0)), .int (jI (0)), .ref (m + 1), .ref (m + 2), .ref (m + 3), .ref (m + 4), .ref (m + 5), .ref (m + 6), .ref (m + 7), .ref (m + 8), .ref (m + 9), .ref (m + 10), .ref (m + 11), .ref (m + 12), .ref (m + 13), .ref (m + 14), .null, .null, .null, .null, .null, .null, .null, .null, .null, .null, .null, .null, .null, .null, .null, .null]) (gmp_n m 14 g _ rfl) rfl ?_
  refine jt_putf d_GM_init_207 (GM_w102 _ rfl rfl) (gmp_o _ _ _ _) rfl rfl (Nat.le_of_ble_eq_true rfl) ?_
  refine jt_fe (f' := gmp m 15 g [.int (jI (0)), .int (jI (0)), .int (jI (0)), .int (jI (-1)), .int (jI (0)), .int (jI (0)), .int (jI (0)), .int (jI (0)), .int (jI (0)), .int (jI (0)), .int (jI (0)), .int (jI (0)), .int (jI (0)), .int (jI (0)), .int (jI (0)), .int (jI (0)), .ref (m + 1), .ref (m + 2), .ref (m + 3), .ref (m + 4), .ref (m + 5), .ref (m + 6), .ref (m + 7), .ref (m + 8), .ref (m + 9), .ref (m + 10), .ref (m + 11), .ref (m + 12), .ref (m + 13), .ref (m + 14), .ref (m + 15), .null, .null, .null, .null, .null, .null, .null, .null, .null, .null, .null, .null, .null, .null, .null]) (gmp_f m 15 g _ _) rfl ?_
  refine jt_aload_n d_GM_init_210 rfl ?_
  refine jt_sipush d_GM_init_211 (by omega) ?_
  refine jt_newL (n := 156) d_GM_init_214 ac_long rfl (by omega) (show 15 + 1 ≤ 30 by omega) (show 4950 + 156 ≤ 12602 by omega) ?_
  refine jt_fe (sz' := m + 17) (f' := gmp m 16 g [.int (jI (0)), .int (jI (0)), .int (jI (0)), .int (jI (-1)), .int (jI (0)), .int (jI (0)), .int (jI (0)), .int (jI (0)), .int (jI (0)), .int (jI (0)), .int (jI (0)), .int (jI (0)), .int (jI (0)), .int (jI (0)), .int (jI (0)), .int (jI (0)), .ref (m + 1), .ref (m + 2), .ref (m + 3), .ref (m + 4), .ref (m + 5), .ref (m + 6), .ref (m + 7), .ref (m + 8), .ref (m + 9), .ref (m + 10), .ref (m + 11), .ref (m + 12), .ref (m + 13), .ref (m + 14), .ref (m + 15), .null, .null, .null, .null, .null, .null, .null, .null, .null, .null, .null, .null, .null, .null, .null]) (gmp_n m 15 g _ rfl) rfl ?_
  refine jt_putf d_GM_init_216 (GM_w105 _ rfl rfl) (gmp_o _ _ _ _) rfl rfl (Nat.le_of_ble_eq_true rfl) ?_
  refine jt_fe (f' := gmp m 16 g [.int (jI (0)), .int (jI (0)), .int (jI (0)), .int (jI (-1)), .int (jI (0)), .int (jI (0)), .int (jI (0)), .int (jI (0)), .int (jI (0)), .int (jI (0)), .int (jI (0)), .int (jI (0)), .int (jI (0)), .int (jI (0)), .int (jI (0)), .int (jI (0)), .ref (m + 1), .ref (m + 2), .ref (m + 3), .ref (m + 4), .ref (m + 5), .ref (m + 6), .ref (m + 7), .ref (m + 8), .ref (m + 9), .ref (m + 10), .ref (m + 11), .ref (m + 12), .ref (m + 13), .ref (m + 14), .ref (m + 15), .ref (m + 16), .null, .null, .null, .null, .null, .null, .null, .null, .null, .null, .null, .null, .null, .null]) (gmp_f m 16 g _ _) rfl ?_
  refine jt_aload_n d_GM_init_219 rfl ?_
  refine jt_bipush d_GM_init_220 (by omega) ?_
  refine jt_newL (n := 8) d_GM_init_222 ac_long rfl (by omega) (show 16 + 1 ≤ 30 by omega) (show 5106 + 8 ≤ 12602 by omega) ?_
  refine jt_fe (sz' := m + 18) (f' := gmp m 17 g [.int (jI (0)), .int (jI (0)), .int (jI (0)), .int (jI (-1)), .int (jI (0)), .int (jI (0)), .int (jI (0)), .int (jI (0)), .int (jI (0)), .int (jI (0)), .int (jI (0)), .int (jI (0)), .int (jI (0)), .int (jI (0)), .int (jI (0)), .int (jI (0)), .ref (m + 1), .ref (m + 2), .ref (m + 3), .ref (m + 4), .ref (m + 5), .ref (m + 6), .ref (m + 7), .ref (m + 8), .ref (m + 9), .ref (m + 10), .ref (m + 11), .ref (m + 12), .ref (m + 13), .ref (m + 14), .ref (m + 15), .ref (m + 16), .null, .null, .null, .null, .null, .null, .null, .null, .null, .null, .null, .null, .null, .null]) (gmp_n m 16 g _ rfl) rfl ?_
  refine jt_putf d_GM_init_224 (GM_w109 _ rfl rfl) (gmp_o _ _ _ _) rfl rfl (Nat.le_of_ble_eq_true rfl) ?_
  refine jt_fe (f' := gmp m 17 g [.int (jI (0)), .int (jI (0)), .int (jI (0)), .int (jI (-1)), .int (jI (0)), .int (jI (0)), .int (jI (0)), .int (jI (0)), .int (jI (0)), .int (jI (0)), .int (jI (0)), .int (jI (0)), .int (jI (0)), .int (jI (0)), .int (jI (0)), .int (jI (0)), .ref (m + 1), .ref (m + 2), .ref (m + 3), .ref (m + 4), .ref (m + 5), .ref (m + 6), .ref (m + 7), .ref (m + 8), .ref (m + 9), .ref (m + 10), .ref (m + 11), .ref (m + 12), .ref (m + 13), .ref (m + 14), .ref (m + 15), .ref (m + 16), .ref (m + 17), .null, .null, .null, .null, .null, .null, .null, .null, .null, .null, .null, .null, .null]) (gmp_f m 17 g _ _) rfl ?_
  refine jt_aload_n d_GM_init_227 rfl ?_
  refine jt_bipush d_GM_init_228 (by omega) ?_
  refine jt_newL (n := 13) d_GM_init_230 ac_long rfl (by omega) (show 17 + 1 ≤ 30 by omega) (show 5114 + 13 ≤ 12602 by omega) ?_
  refine jt_fe (sz' := m + 19) (f' := gmp m 18 g [.int (jI (0)), .int (jI (0)), .int (jI (0)), .int (jI (-1)), .int (jI (0)), .int (jI (0)), .int (jI (0)), .int (jI (0)), .int (jI (0)), .int (jI (0)), .int (jI (0)), .int (jI (0)), .int (jI (0)), .int (jI (0)), .int (jI (0)), .int (jI (0)), .ref (m + 1), .ref (m + 2), .ref (m + 3), .ref (m + 4), .ref (m + 5), .ref (m + 6), .ref (m + 7), .ref (m + 8), .ref (m + 9), .ref (m + 10), .ref (m + 11), .ref (m + 12), .ref (m + 13), .ref (m + 14), .ref (m + 15), .ref (m + 16), .ref (m + 17), .null, .null, .null, .null, .null, .null, .null, .null, .null, .null, .null, .null, .null]) (gmp_n m 17 g _ rfl) rfl ?_
  refine jt_putf d_GM_init_232 (GM_w112 _ rfl rfl) (gmp_o _ _ _ _) rfl rfl (Nat.le_of_ble_eq_true rfl) ?_
  refine jt_fe (f' := gmp m 18 g [.int (jI (0)), .int (jI (0)), .int (jI (0)), .int (jI (-1)), .int (jI (0)), .int (jI (0)), .int (jI (0)), .int (jI (0)), .int (jI (0)), .int (jI (0)), .int (jI (0)), .int (jI (0)), .int (jI (0)), .int (jI (0)), .int (jI (0)), .int (jI (0)), .ref (m + 1), .ref (m + 2), .ref (m + 3), .ref (m + 4), .ref (m + 5), .ref (m + 6), .ref (m + 7), .ref (m + 8), .ref (m + 9), .ref (m + 10), .ref (m + 11), .ref (m + 12), .ref (m + 13), .ref (m + 14), .ref (m + 15), .ref (m + 16), .ref (m + 17), .ref (m + 18), .null, .null, .null, .null, .null, .null, .null, .null, .null, .null, .null, .null]) (gmp_f m 18 g _ _) rfl ?_
  refine jt_aload_n d_GM_init_235 rfl ?_
  refine jt_bipush d_GM_init_236 (by omega) ?_
  refine jt_newL (n := 13) d_GM_init_238 ac_long rfl (by omega) (show 18 + 1 ≤ 30 by omega) (show 5127 + 13 ≤ 12602 by omega) ?_
  refine jt_fe (sz' := m + 20) (f' := gmp m 19 g [.int (jI (0)), .int (jI (0)), .int (jI (0)), .int (jI (-1)), .int (jI (0)), .int (jI (0)), .int (jI (0)), .int (jI (0)), .int (jI (0)), .int (jI (0)), .int (jI (0)), .int (jI (0)), .int (jI (0)), .int (jI (0)), .int (jI (0)), .int (jI (0)), .ref (m + 1), .ref (m + 2), .ref (m + 3), .ref (m + 4), .ref (m + 5), .ref (m + 6), .ref (m + 7), .ref (m + 8), .ref (m + 9), .ref (m + 10), .ref (m + 11), .ref (m + 12), .ref (m + 13), .ref (m + 14), .ref (m + 15), .ref (m + 16), .ref (m + 17), .ref (m + 18), .null, .null, .null, .null, .null, .null, .null, .null, .null, .null, .null, .null]) (gmp_n m 18 g _ rfl) rfl ?_
  refine jt_putf d_GM_init_240 (GM_w115 _ rfl rfl) (gmp_o _ _ _ _) rfl rfl (Nat.le_of_ble_eq_true rfl) ?_
  refine jt_fe (f' := gmp m 19 g [.int (jI (0)), .int (jI (0)), .int (jI (0)), .int (jI (-1)), .int (jI (0)), .int (jI (0)), .int (jI (0)), .int (jI (0)), .int (jI (0)), .int (jI (0)), .int (jI (0)), .int (jI (0)), .int (jI (0)), .int (jI (0)), .int (jI (0)), .int (jI (0)), .ref (m + 1), .ref (m + 2), .ref (m + 3), .ref (m + 4), .ref (m + 5), .ref (m + 6), .ref (m + 7), .ref (m + 8), .ref (m + 9), .ref (m + 10), .ref (m + 11), .ref (m + 12), .ref (m + 13), .ref (m + 14), .ref (m + 15), .ref (m + 16), .ref (m + 17), .ref (m + 18), .ref (m + 19), .null, .null, .null, .null, .null, .null, .null, .null, .null, .null, .null]) (gmp_f m 19 g _ _) rfl ?_
  refine jt_aload_n d_GM_init_243 rfl ?_
  refine jt_sipush d_GM_init_244 (by omega) ?_
  refine jt_newL (n := 5200) d_GM_init_247 ac_long rfl (by omega) (show 19 + 1 ≤ 30 by omega) (show 5140 + 5200 ≤ 12602 by omega) ?_
  refine jt_fe (sz' := m + 21) (f' := gmp m 20 g [.int (jI (0)), .int (jI (0)), .int (jI (0)), .int (jI (-1)), .int (jI (0)), .int (jI (0)), .int (jI (0)), .int (jI (0)), .int (jI (0)), .int (jI (0)), .int (jI (0)), .int (jI (0)), .int (jI (0)), .int (jI (0)), .int (jI (0)), .int (jI (0)), .ref (m + 1), .ref (m + 2), .ref (m + 3), .ref (m + 4), .ref (m + 5), .ref (m + 6), .ref (m + 7), .ref (m + 8), .ref (m + 9), .ref (m + 10), .ref (m + 11), .ref (m + 12), .ref (m + 13), .ref (m + 14), .ref (m + 15), .ref (m + 16), .ref (m + 17), .ref (m + 18), .ref (m + 19), .null, .null, .null, .null, .null, .null, .null, .null, .null, .null, .null]) (gmp_n m 19 g _ rfl) rfl ?_
  refine jt_putf d_GM_init_249 (GM_w118 _ rfl rfl) (gmp_o _ _ _ _) rfl rfl (Nat.le_of_ble_eq_true rfl) ?_
  refine jt_fe (f' := gmp m 20 g [.int (jI (0)), .int (jI (0)), .int (jI (0)), .int (jI (-1)), .int (jI (0)), .int (jI (0)), .int (jI (0)), .int (jI (0)), .int (jI (0)), .int (jI (0)), .int (jI (0)), .int (jI (0)), .int (jI (0)), .int (jI (0)), .int (jI (0)), .int (jI (0)), .ref (m + 1), .ref (m + 2), .ref (m + 3), .ref (m + 4), .ref (m + 5), .ref (m + 6), .ref (m + 7), .ref (m + 8), .ref (m + 9), .ref (m + 10), .ref (m + 11), .ref (m + 12), .ref (m + 13), .ref (m + 14), .ref (m + 15), .ref (m + 16), .ref (m + 17), .ref (m + 18), .ref (m + 19), .ref (m + 20), .null, .null, .null, .null, .null, .null, .null, .null, .null, .null]) (gmp_f m 20 g _ _) rfl ?_
  refine jt_aload_n d_GM_init_252 rfl ?_
  refine jt_sipush d_GM_init_253 (by omega) ?_
  refine jt_newI (n := 320) d_GM_init_256 ac_int rfl (by omega) (show 20 + 1 ≤ 30 by omega) (show 10340 + 320 ≤ 12602 by omega) ?_
  refine jt_fe (sz' := m + 22) (f' := gmp m 21 g [.int (jI (0)), .int (jI (0)), .int (jI (0)), .int (jI (-1)), .int (jI (0)), .int (jI (0)), .int (jI (0)), .int (jI (0)), .int (jI (0)), .int (jI (0)), .int (jI (0)), .int (jI (0)), .int (jI (0)), .int (jI (0)), .int (jI (0)), .int (jI (0)), .ref (m + 1), .ref (m + 2), .ref (m + 3), .ref (m + 4), .ref (m + 5), .ref (m + 6), .ref (m + 7), .ref (m + 8), .ref (m + 9), .ref (m + 10), .ref (m + 11), .ref (m + 12), .ref (m + 13), .ref (m + 14), .ref (m + 15), .ref (m + 16), .ref (m + 17), .ref (m + 18), .ref (m + 19), .ref (m + 20), .null, .null, .null, .null, .null, .null, .null, .null, .null, .null]) (gmp_n m 20 g _ rfl) rfl ?_
  refine jt_putf d_GM_init_258 (GM_w121 _ rfl rfl) (gmp_o _ _ _ _) rfl rfl (Nat.le_of_ble_eq_true rfl) ?_
  refine jt_fe (f' := gmp m 21 g [.int (jI (0)), .int (jI (0)), .int (jI (0)), .int (jI (-1)), .int (jI (0)), .int (jI (0)), .int (jI (0)), .int (jI (0)), .int (jI (0)), .int (jI (0)), .int (jI (0)), .int (jI (0)), .int (jI (0)), .int (jI (0)), .int (jI (0)), .int (jI (0)), .ref (m + 1), .ref (m + 2), .ref (m + 3), .ref (m + 4), .ref (m + 5), .ref (m + 6), .ref (m + 7), .ref (m + 8), .ref (m + 9), .ref (m + 10), .ref (m + 11), .ref (m + 12), .ref (m + 13), .ref (m + 14), .ref (m + 15), .ref (m + 16), .ref (m + 17), .ref (m + 18), .ref (m + 19), .ref (m + 20), .ref (m + 21), .null, .null, .null, .null, .null, .null, .null, .null, .null]) (gmp_f m 21 g _ _) rfl ?_
  refine jt_aload_n d_GM_init_261 rfl ?_
  refine jt_sipush d_GM_init_262 (by omega) ?_
  refine jt_newI (n := 320) d_GM_init_265 ac_int rfl (by omega) (show 21 + 1 ≤ 30 by omega) (show 10660 + 320 ≤ 12602 by omega) ?_
  refine jt_fe (sz' := m + 23) (f' := gmp m 22 g [.int (jI (0)), .int (jI (0)), .int (jI (0)), .int (jI (-1)), .int (jI (0)), .int (jI (0)), .int (jI (0)), .int (jI (0)), .int (jI (0)), .int (jI (0)), .int (jI (0)), .int (jI (0)), .int (jI (0)), .int (jI (0)), .int (jI (0)), .int (jI (0)), .ref (m + 1), .ref (m + 2), .ref (m + 3), .ref (m + 4), .ref (m + 5), .ref (m + 6), .ref (m + 7), .ref (m + 8), .ref (m + 9), .ref (m + 10), .ref (m + 11), .ref (m + 12), .ref (m + 13), .ref (m + 14), .ref (m + 15), .ref (m + 16), .ref (m + 17), .ref (m + 18), .ref (m + 19), .ref (m + 20), .ref (m + 21), .null, .null, .null, .null, .null, .null, .null, .null, .null]) (gmp_n m 21 g _ rfl) rfl ?_
  refine jt_putf d_GM_init_267 (GM_w124 _ rfl rfl) (gmp_o _ _ _ _) rfl rfl (Nat.le_of_ble_eq_true rfl) ?_
  refine jt_fe (f' := gmp m 22 g [.int (jI (0)), .int (jI (0)), .int (jI (0)), .int (jI (-1)), .int (jI (0)), .int (jI (0)), .int (jI (0)), .int (jI (0)), .int (jI (0)), .int (jI (0)), .int (jI (0)), .int (jI (0)), .int (jI (0)), .int (jI (0)), .int (jI (0)), .int (jI (0)), .ref (m + 1), .ref (m + 2), .ref (m + 3), .ref (m + 4), .ref (m + 5), .ref (m + 6), .ref (m + 7), .ref (m + 8), .ref (m + 9), .ref (m + 10), .ref (m + 11), .ref (m + 12), .ref (m + 13), .ref (m + 14), .ref (m + 15), .ref (m + 16), .ref (m + 17), .ref (m + 18), .ref (m + 19), .ref (m + 20), .ref (m + 21), .ref (m + 22), .null, .null, .null, .null, .null, .null, .null, .null]) (gmp_f m 22 g _ _) rfl ?_
  refine jt_aload_n d_GM_init_270 rfl ?_
  refine jt_sipush d_GM_init_271 (by omega) ?_
  refine jt_newL (n := 320) d_GM_init_274 ac_long rfl (by omega) (show 22 + 1 ≤ 30 by omega) (show 10980 + 320 ≤ 12602 by omega) ?_
  refine jt_fe (sz' := m + 24) (f' := gmp m 23 g [.int (jI (0)), .int (jI (0)), .int (jI (0)), .int (jI (-1)), .int (jI (0)), .int (jI (0)), .int (jI (0)), .int (jI (0)), .int (jI (0)), .int (jI (0)), .int (jI (0)), .int (jI (0)), .int (jI (0)), .int (jI (0)), .int (jI (0)), .int (jI (0)), .ref (m + 1), .ref (m + 2), .ref (m + 3), .ref (m + 4), .ref (m + 5), .ref (m + 6), .ref (m + 7), .ref (m + 8), .ref (m + 9), .ref (m + 10), .ref (m + 11), .ref (m + 12), .ref (m + 13), .ref (m + 14), .ref (m + 15), .ref (m + 16), .ref (m + 17), .ref (m + 18), .ref (m + 19), .ref (m + 20), .ref (m + 21), .ref (m + 22), .null, .null, .null, .null, .null, .null, .null, .null]) (gmp_n m 22 g _ rfl) rfl ?_
  refine jt_putf d_GM_init_276 (GM_w127 _ rfl rfl) (gmp_o _ _ _ _) rfl rfl (Nat.le_of_ble_eq_true rfl) ?_
  refine jt_fe (f' := gmp m 23 g [.int (jI (0)), .int (jI (0)), .int (jI (0)), .int (jI (-1)), .int (jI (0)), .int (jI (0)), .int (jI (0)), .int (jI (0)), .int (jI (0)), .int (jI (0)), .int (jI (0)), .int (jI (0)), .int (jI (0)), .int (jI (0)), .int (jI (0)), .int (jI (0)), .ref (m + 1), .ref (m + 2), .ref (m + 3), .ref (m + 4), .ref (m + 5), .ref (m + 6), .ref (m + 7), .ref (m + 8), .ref (m + 9), .ref (m + 10), .ref (m + 11), .ref (m + 12), .ref (m + 13), .ref (m + 14), .ref (m + 15), .ref (m + 16), .ref (m + 17), .ref (m + 18), .ref (m + 19), .ref (m + 20), .ref (m + 21), .ref (m + 22), .ref (m + 23), .null, .null, .null, .null, .null, .null, .null]) (gmp_f m 23 g _ _) rfl ?_
  refine jt_aload_n d_GM_init_279 rfl ?_
  refine jt_bipush d_GM_init_280 (by omega) ?_
  refine jt_newL (n := 80) d_GM_init_282 ac_long rfl (by omega) (show 23 + 1 ≤ 30 by omega) (show 11300 + 80 ≤ 12602 by omega) ?_
  refine jt_fe (sz' := m + 25) (f' := gmp m 24 g [.int (jI (0)), .int (jI (0)), .int (jI (0)), .int (jI (-1)), .int (jI (0)), .int (jI (0)), .int (jI (0)), .int (jI (0)), .int (jI (0)), .int (jI (0)), .int (jI (0)), .int (jI (0)), .int (jI (0)), .int (jI (0)), .int (jI (0)), .int (jI (0)), .ref (m + 1), .ref (m + 2), .ref (m + 3), .ref (m + 4), .ref (m + 5), .ref (m + 6), .ref (m + 7), .ref (m + 8), .ref (m + 9), .ref (m + 10), .ref (m + 11), .ref (m + 12), .ref (m + 13), .ref (m + 14), .ref (m + 15), .ref (m + 16), .ref (m + 17), .ref (m + 18), .ref (m + 19), .ref (m + 20), .ref (m + 21), .ref (m + 22), .ref (m + 23), .null, .null, .null, .null, .null, .null, .null]) (gmp_n m 23 g _ rfl) rfl ?_
  refine jt_putf d_GM_init_284 (GM_w130 _ rfl rfl) (gmp_o _ _ _ _) rfl rfl (Nat.le_of_ble_eq_true rfl) ?_
  refine jt_fe (f' := gmp m 24 g [.int (jI (0)), .int (jI (0)), .int (jI (0)), .int (jI (-1)), .int (jI (0)), .int (jI (0)), .int (jI (0)), .int (jI (0)), .int (jI (0)), .int (jI (0)), .int (jI (0)), .int (jI (0)), .int (jI (0)), .int (jI (0)), .int (jI (0)), .int (jI (0)), .ref (m + 1), .ref (m + 2), .ref (m + 3), .ref (m + 4), .ref (m + 5), .ref (m + 6), .ref (m + 7), .ref (m + 8), .ref (m + 9), .ref (m + 10), .ref (m + 11), .ref (m + 12), .ref (m + 13), .ref (m + 14), .ref (m + 15), .ref (m + 16), .ref (m + 17), .ref (m + 18), .ref (m + 19), .ref (m + 20), .ref (m + 21), .ref (m + 22), .ref (m + 23), .ref (m + 24), .null, .null, .null, .null, .null, .null]) (gmp_f m 24 g _ _) rfl ?_
  refine jt_aload_n d_GM_init_287 rfl ?_
  refine jt_bipush d_GM_init_288 (by omega) ?_
  refine jt_newL (n := 110) d_GM_init_290 ac_long rfl (by omega) (show 24 + 1 ≤ 30 by omega) (show 11380 + 110 ≤ 12602 by omega) ?_
  refine jt_fe (sz' := m + 26) (f' := gmp m 25 g [.int (jI (0)), .int (jI (0)), .int (jI (0)), .int (jI (-1)), .int (jI (0)), .int (jI (0)), .int (jI (0)), .int (jI (0)), .int (jI (0)), .int (jI (0)), .int (jI (0)), .int (jI (0)), .int (jI (0)), .int (jI (0)), .int (jI (0)), .int (jI (0)), .ref (m + 1), .ref (m + 2), .ref (m + 3), .ref (m + 4), .ref (m + 5), .ref (m + 6), .ref (m + 7), .ref (m + 8), .ref (m + 9), .ref (m + 10), .ref (m + 11), .ref (m + 12), .ref (m + 13), .ref (m + 14), .ref (m + 15), .ref (m + 16), .ref (m + 17), .ref (m + 18), .ref (m + 19), .ref (m + 20), .ref (m + 21), .ref (m + 22), .ref (m + 23), .ref (m + 24), .null, .null, .null, .null, .null, .null]) (gmp_n m 24 g _ rfl) rfl ?_
  refine jt_putf d_GM_init_292 (GM_w133 _ rfl rfl) (gmp_o _ _ _ _) rfl rfl (Nat.le_of_ble_eq_true rfl) ?_
  refine jt_fe (f' := gmp m 25 g [.int (jI (0)), .int (jI (0)), .int (jI (0)), .int (jI (-1)), .int (jI (0)), .int (jI (0)), .int (jI (0)), .int (jI (0)), .int (jI (0)), .int (jI (0)), .int (jI (0)), .int (jI (0)), .int (jI (0)), .int (jI (0)), .int (jI (0)), .int (jI (0)), .ref (m + 1), .ref (m + 2), .ref (m + 3), .ref (m + 4), .ref (m + 5), .ref (m + 6), .ref (m + 7), .ref (m + 8), .ref (m + 9), .ref (m + 10), .ref (m + 11), .ref (m + 12), .ref (m + 13), .ref (m + 14), .ref (m + 15), .ref (m + 16), .ref (m + 17), .ref (m + 18), .ref (m + 19), .ref (m + 20), .ref (m + 21), .ref (m + 22), .ref (m + 23), .ref (m + 24), .ref (m + 25), .null, .null, .null, .null, .null]) (gmp_f m 25 g _ _) rfl ?_
  refine jt_aload_n d_GM_init_295 rfl ?_
  refine jt_bipush d_GM_init_296 (by omega) ?_
  refine jt_newL (n := 110) d_GM_init_298 ac_long rfl (by omega) (show 25 + 1 ≤ 30 by omega) (show 11490 + 110 ≤ 12602 by omega) ?_
  refine jt_fe (sz' := m + 27) (f' := gmp m 26 g [.int (jI (0)), .int (jI (0)), .int (jI (0)), .int (jI (-1)), .int (jI (0)), .int (jI (0)), .int (jI (0)), .int (jI (0)), .int (jI (0)), .int (jI (0)), .int (jI (0)), .int (jI (0)), .int (jI (0)), .int (jI (0)), .int (jI (0)), .int (jI (0)), .ref (m + 1), .ref (m + 2), .ref (m + 3), .ref (m + 4), .ref (m + 5), .ref (m + 6), .ref (m + 7), .ref (m + 8), .ref (m + 9), .ref (m + 10), .ref (m + 11), .ref (m + 12), .ref (m + 13), .ref (m + 14), .ref (m + 15), .ref (m + 16), .ref (m + 17), .ref (m + 18), .ref (m + 19), .ref (m + 20), .ref (m + 21), .ref (m + 22), .ref (m + 23), .ref (m + 24), .ref (m + 25), .null, .null, .null, .null, .null]) (gmp_n m 25 g _ rfl) rfl ?_
  refine jt_putf d_GM_init_300 (GM_w136 _ rfl rfl) (gmp_o _ _ _ _) rfl rfl (Nat.le_of_ble_eq_true rfl) ?_
  refine jt_fe (f' := gmp m 26 g [.int (jI (0)), .int (jI (0)), .int (jI (0)), .int (jI (-1)), .int (jI (0)), .int (jI (0)), .int (jI (0)), .int (jI (0)), .int (jI (0)), .int (jI (0)), .int (jI (0)), .int (jI (0)), .int (jI (0)), .int (jI (0)), .int (jI (0)), .int (jI (0)), .ref (m + 1), .ref (m + 2), .ref (m + 3), .ref (m + 4), .ref (m + 5), .ref (m + 6), .ref (m + 7), .ref (m + 8), .ref (m + 9), .ref (m + 10), .ref (m + 11), .ref (m + 12), .ref (m + 13), .ref (m + 14), .ref (m + 15), .ref (m + 16), .ref (m + 17), .ref (m + 18), .ref (m + 19), .ref (m + 20), .ref (m + 21), .ref (m + 22), .ref (m + 23), .ref (m + 24), .ref (m + 25), .ref (m + 26), .null, .null, .null, .null]) (gmp_f m 26 g _ _) rfl ?_
  refine jt_aload_n d_GM_init_303 rfl ?_
  refine jt_bipush d_GM_init_304 (by omega) ?_
  refine jt_newL (n := 110) d_GM_init_306 ac_long rfl (by omega) (show 26 + 1 ≤ 30 by omega) (show 11600 + 110 ≤ 12602 by omega) ?_
  refine jt_fe (sz' := m + 28) (f' := gmp m 27 g [.int (jI (0)), .int (jI (0)), .int (jI (0)), .int (jI (-1)), .int (jI (0)), .int (jI (0)), .int (jI (0)), .int (jI (0)), .int (jI (0)), .int (jI (0)), .int (jI (0)), .int (jI (0)), .int (jI (0)), .int (jI (0)), .int (jI (0)), .int (jI (0)), .ref (m + 1), .ref (m + 2), .ref (m + 3), .ref (m + 4), .ref (m + 5), .ref (m + 6), .ref (m + 7), .ref (m + 8), .ref (m + 9), .ref (m + 10), .ref (m + 11), .ref (m + 12), .ref (m + 13), .ref (m + 14), .ref (m + 15), .ref (m + 16), .ref (m + 17), .ref (m + 18), .ref (m + 19), .ref (m + 20), .ref (m + 21), .ref (m + 22), .ref (m + 23), .ref (m + 24), .ref (m + 25), .ref (m + 26), .null, .null, .null, .null]) (gmp_n m 26 g _ rfl) rfl ?_
  refine jt_putf d_GM_init_308 (GM_w139 _ rfl rfl) (gmp_o _ _ _ _) rfl rfl (Nat.le_of_ble_eq_true rfl) ?_
  refine jt_fe (f' := gmp m 27 g [.int (jI (0)), .int (jI (0)), .int (jI (0)), .int (jI (-1)), .int (jI (0)), .int (jI (0)), .int (jI (0)), .int (jI (0)), .int (jI (0)), .int (jI (0)), .int (jI (0)), .int (jI (0)), .int (jI (0)), .int (jI (0)), .int (jI (0)), .int (jI (0)), .ref (m + 1), .ref (m + 2), .ref (m + 3), .ref (m + 4), .ref (m + 5), .ref (m + 6), .ref (m + 7), .ref (m + 8), .ref (m + 9), .ref (m + 10), .ref (m + 11), .ref (m + 12), .ref (m + 13), .ref (m + 14), .ref (m + 15), .ref (m + 16), .ref (m + 17), .ref (m + 18), .ref (m + 19), .ref (m + 20), .ref (m + 21), .ref (m + 22), .ref (m + 23), .ref (m + 24), .ref (m + 25), .ref (m + 26), .ref (m + 27), .null, .null, .null]) (gmp_f m 27 g _ _) rfl ?_
  refine jt_aload_n d_GM_init_311 rfl ?_
  refine jt_bipush d_GM_init_312 (by omega) ?_
  refine jt_newL (n := 110) d_GM_init_314 ac_long rfl (by omega) (show 27 + 1 ≤ 30 by omega) (show 11710 + 110 ≤ 12602 by omega) ?_
  refine jt_fe (sz' := m + 29) (f' := gmp m 28 g [.int (jI (0)), .int (jI (0)), .int (jI (0)), .int (jI (-1)), .int (jI (0)), .int (jI (0)), .int (jI (0)), .int (jI (0)), .int (jI (0)), .int (jI (0)), .int (jI (0)), .int (jI (0)), .int (jI (0)), .int (jI (0)), .int (jI (0)), .int (jI (0)), .ref (m + 1), .ref (m + 2), .ref (m + 3), .ref (m + 4), .ref (m + 5), .ref (m + 6), .ref (m + 7), .ref (m + 8), .ref (m + 9), .ref (m + 10), .ref (m + 11), .ref (m + 12), .ref (m + 13), .ref (m + 14), .ref (m + 15), .ref (m + 16), .ref (m + 17), .ref (m + 18), .ref (m + 19), .ref (m + 20), .ref (m + 21), .ref (m + 22), .ref (m + 23), .ref (m + 24), .ref (m + 25), .ref (m + 26), .ref (m + 27), .null, .null, .null]) (gmp_n m 27 g _ rfl) rfl ?_
  refine jt_putf d_GM_init_316 (GM_w142 _ rfl rfl) (gmp_o _ _ _ _) rfl rfl (Nat.le_of_ble_eq_true rfl) ?_
  refine jt_fe (f' := gmp m 28 g [.int (jI (0)), .int (jI (0)), .int (jI (0)), .int (jI (-1)), .int (jI (0)), .int (jI (0)), .int (jI (0)), .int (jI (0)), .int (jI (0)), .int (jI (0)), .int (jI (0)), .int (jI (0)), .int (jI (0)), .int (jI (0)), .int (jI (0)), .int (jI (0)), .ref (m + 1), .ref (m + 2), .ref (m + 3), .ref (m + 4), .ref (m + 5), .ref (m + 6), .ref (m + 7), .ref (m + 8), .ref (m + 9), .ref (m + 10), .ref (m + 11), .ref (m + 12), .ref (m + 13), .ref (m + 14), .ref (m + 15), .ref (m + 16), .ref (m + 17), .ref (m + 18), .ref (m + 19), .ref (m + 20), .ref (m + 21), .ref (m + 22), .ref (m + 23), .ref (m + 24), .ref (m + 25), .ref (m + 26), .ref (m + 27), .ref (m + 28), .null, .null]) (gmp_f m 28 g _ _) rfl ?_
  refine jt_aload_n d_GM_init_319 rfl ?_
  refine jt_bipush d_GM_init_320 (by omega) ?_
  refine jt_newI (n := 14) d_GM_init_322 ac_int rfl (by omega) (show 28 + 1 ≤ 30 by omega) (show 11820 + 14 ≤ 12602 by omega) ?_
  refine jt_fe (sz' := m + 30) (f' := gmp m 29 g [.int (jI (0)), .int (jI (0)), .int (jI (0)), .int (jI (-1)), .int (jI (0)), .int (jI (0)), .int (jI (0)), .int (jI (0)), .int (jI (0)), .int (jI (0)), .int (jI (0)), .int (jI (0)), .int (jI (0)), .int (jI (0)), .int (jI (0)), .int (jI (0)), .ref (m + 1), .ref (m + 2), .ref (m + 3), .ref (m + 4), .ref (m + 5), .ref (m + 6), .ref (m + 7), .ref (m + 8), .ref (m + 9), .ref (m + 10), .ref (m + 11), .ref (m + 12), .ref (m + 13), .ref (m + 14), .ref (m + 15), .ref (m + 16), .ref (m + 17), .ref (m + 18), .ref (m + 19), .ref (m + 20), .ref (m + 21), .ref (m + 22), .ref (m + 23), .ref (m + 24), .ref (m + 25), .ref (m + 26), .ref (m + 27), .ref (m + 28), .null, .null]) (gmp_n m 28 g _ rfl) rfl ?_
  refine jt_putf d_GM_init_324 (GM_w145 _ rfl rfl) (gmp_o _ _ _ _) rfl rfl (Nat.le_of_ble_eq_true rfl) ?_
  refine jt_fe (f' := gmp m 29 g [.int (jI (0)), .int (jI (0)), .int (jI (0)), .int (jI (-1)), .int (jI (0)), .int (jI (0)), .int (jI (0)), .int (jI (0)), .int (jI (0)), .int (jI (0)), .int (jI (0)), .int (jI (0)), .int (jI (0)), .int (jI (0)), .int (jI (0)), .int (jI (0)), .ref (m + 1), .ref (m + 2), .ref (m + 3), .ref (m + 4), .ref (m + 5), .ref (m + 6), .ref (m + 7), .ref (m + 8), .ref (m + 9), .ref (m + 10), .ref (m + 11), .ref (m + 12), .ref (m + 13), .ref (m + 14), .ref (m + 15), .ref (m + 16), .ref (m + 17), .ref (m + 18), .ref (m + 19), .ref (m + 20), .ref (m + 21), .ref (m + 22), .ref (m + 23), .ref (m + 24), .ref (m + 25), .ref (m + 26), .ref (m + 27), .ref (m + 28), .ref (m + 29), .null]) (gmp_f m 29 g _ _) rfl ?_
  refine jt_aload_n d_GM_init_327 rfl ?_
  refine jt_sipush d_GM_init_328 (by omega) ?_
  refine jt_newZ (n := 768) d_GM_init_331 ac_boolean rfl (by omega) (show 29 + 1 ≤ 30 by omega) (show 11834 + 768 ≤ 12602 by omega) ?_
  refine jt_fe (sz' := m + 31) (f' := gmp m 30 g [.int (jI (0)), .int (jI (0)), .int (jI (0)), .int (jI (-1)), .int (jI (0)), .int (jI (0)), .int (jI (0)), .int (jI (0)), .int (jI (0)), .int (jI (0)), .int (jI (0)), .int (jI (0)), .int (jI (0)), .int (jI (0)), .int (jI (0)), .int (jI (0)), .ref (m + 1), .ref (m + 2), .ref (m + 3), .ref (m + 4), .ref (m + 5), .ref (m + 6), .ref (m + 7), .ref (m + 8), .ref (m + 9), .ref (m + 10), .ref (m + 11), .ref (m + 12), .ref (m + 13), .ref (m + 14), .ref (m + 15), .ref (m + 16), .ref (m + 17), .ref (m + 18), .ref (m + 19), .ref (m + 20), .ref (m + 21), .ref (m + 22), .ref (m + 23), .ref (m + 24), .ref (m + 25), .ref (m + 26), .ref (m + 27), .ref (m + 28), .ref (m + 29), .null]) (gmp_n m 29 g _ rfl) rfl ?_
  refine jt_putf d_GM_init_333 (GM_w148 _ rfl rfl) (gmp_o _ _ _ _) rfl rfl (Nat.le_of_ble_eq_true rfl) ?_
  refine jt_fe (f' := gmp m 30 g [.int (jI (0)), .int (jI (0)), .int (jI (0)), .int (jI (-1)), .int (jI (0)), .int (jI (0)), .int (jI (0)), .int (jI (0)), .int (jI (0)), .int (jI (0)), .int (jI (0)), .int (jI (0)), .int (jI (0)), .int (jI (0)), .int (jI (0)), .int (jI (0)), .ref (m + 1), .ref (m + 2), .ref (m + 3), .ref (m + 4), .ref (m + 5), .ref (m + 6), .ref (m + 7), .ref (m + 8), .ref (m + 9), .ref (m + 10), .ref (m + 11), .ref (m + 12), .ref (m + 13), .ref (m + 14), .ref (m + 15), .ref (m + 16), .ref (m + 17), .ref (m + 18), .ref (m + 19), .ref (m + 20), .ref (m + 21), .ref (m + 22), .ref (m + 23), .ref (m + 24), .ref (m + 25), .ref (m + 26), .ref (m + 27), .ref (m + 28), .ref (m + 29), .ref (m + 30)]) (gmp_f m 30 g _ _) rfl ?_
  refine jt_iconst d_GM_init_336 ?_
  refine jt_istore_n (L' := [(0, .ref m), (1, .int (jI 0))]) d_GM_init_337 (Nat.le_of_ble_eq_true rfl) rfl ?_
  refine jt_fe (f' := va_up (gmp m 30 g [.int (jI (0)), .int (jI (0)), .int (jI (0)), .int (jI (-1)), .int (jI (0)), .int (jI (0)), .int (jI (0)), .int (jI (0)), .int (jI (0)), .int (jI (0)), .int (jI (0)), .int (jI (0)), .int (jI (0)), .int (jI (0)), .int (jI (0)), .int (jI (0)), .ref (m + 1), .ref (m + 2), .ref (m + 3), .ref (m + 4), .ref (m + 5), .ref (m + 6), .ref (m + 7), .ref (m + 8), .ref (m + 9), .ref (m + 10), .ref (m + 11), .ref (m + 12), .ref (m + 13), .ref (m + 14), .ref (m + 15), .ref (m + 16), .ref (m + 17), .ref (m + 18), .ref (m + 19), .ref (m + 20), .ref (m + 21), .ref (m + 22), .ref (m + 23), .ref (m + 24), .ref (m + 25), .ref (m + 26), .ref (m + 27), .ref (m + 28), .ref (m + 29), .ref (m + 30)]) (m + 5) (some (jAI 6 (fun _ => 0)))) ((gup_id (gmp m 30 g [.int (jI (0)), .int (jI (0)), .int (jI (0)), .int (jI (-1)), .int (jI (0)), .int (jI (0)), .int (jI (0)), .int (jI (0)), .int (jI (0)), .int (jI (0)), .int (jI (0)), .int (jI (0)), .int (jI (0)), .int (jI (0)), .int (jI (0)), .int (jI (0)), .ref (m + 1), .ref (m + 2), .ref (m + 3), .ref (m + 4), .ref (m + 5), .ref (m + 6), .ref (m + 7), .ref (m + 8), .ref (m + 9), .ref (m + 10), .ref (m + 11), .ref (m + 12), .ref (m + 13), .ref (m + 14), .ref (m + 15), .ref (m + 16), .ref (m + 17), .ref (m + 18), .ref (m + 19), .ref (m + 20), .ref (m + 21), .ref (m + 22), .ref (m + 23), .ref (m + 24), .ref (m + 25), .ref (m + 26), .ref (m + 27), .ref (m + 28), .ref (m + 29), .ref (m + 30)]) (m + 5)).trans (congrArg (va_up (gmp m 30 g [.int (jI (0)), .int (jI (0)), .int (jI (0)), .int (jI (-1)), .int (jI (0)), .int (jI (0)), .int (jI (0)), .int (jI (0)), .int (jI (0)), .int (jI (0)), .int (jI (0)), .int (jI (0)), .int (jI (0)), .int (jI (0)), .int (jI (0)), .int (jI (0)), .ref (m + 1), .ref (m + 2), .ref (m + 3), .ref (m + 4), .ref (m + 5), .ref (m + 6), .ref (m + 7), .ref (m + 8), .ref (m + 9), .ref (m + 10), .ref (m + 11), .ref (m + 12), .ref (m + 13), .ref (m + 14), .ref (m + 15), .ref (m + 16), .ref (m + 17), .ref (m + 18), .ref (m + 19), .ref (m + 20), .ref (m + 21), .ref (m + 22), .ref (m + 23), .ref (m + 24), .ref (m + 25), .ref (m + 26), .ref (m + 27), .ref (m + 28), .ref (m + 29), .ref (m + 30)]) (m + 5)) (by unfold gmp; rw [if_neg (by omega), if_pos ⟨by omega, by omega⟩, show m + 5 - m + 15 = 20 by omega]; rfl))) rfl ?_
  show jt _ 338 [(0, .ref m), (1, .int (jI 0))] [] (va_up (gmp m 30 g [.int (jI (0)), .int (jI (0)), .int (jI (0)), .int (jI (-1)), .int (jI (0)), .int (jI (0)), .int (jI (0)), .int (jI (0)), .int (jI (0)), .int (jI (0)), .int (jI (0)), .int (jI (0)), .int (jI (0)), .int (jI (0)), .int (jI (0)), .int (jI (0)), .ref (m + 1), .ref (m + 2), .ref (m + 3), .ref (m + 4), .ref (m + 5), .ref (m + 6), .ref (m + 7), .ref (m + 8), .ref (m + 9), .ref (m + 10), .ref (m + 11), .ref (m + 12), .ref (m + 13), .ref (m + 14), .ref (m + 15), .ref (m + 16), .ref (m + 17), .ref (m + 18), .ref (m + 19), .ref (m + 20), .ref (m + 21), .ref (m + 22), .ref (m + 23), .ref (m + 24), .ref (m + 25), .ref (m + 26), .ref (m + 27), .ref (m + 28), .ref (m + 29), .ref (m + 30)]) (m + 5) (some (jAI 6 (fun _ => 0)))) _ _ _
  refine jt_iload_n d_GM_init_338 rfl ?_
  refine jt_bipush d_GM_init_339 (by omega) ?_
  refine jt_icmp_ge (t := 357) d_GM_init_341 rfl (by unfold jRi; omega) (by unfold jRi; omega) (fun c => absurd c (by omega)) (fun c => ?_)
  refine jt_aload_n d_GM_init_344 rfl ?_
  refine jt_getf d_GM_init_345 GM_f72 (by rw [va_up_ne _ _ (by omega), gmp_o]) rfl ?_
  refine jt_iload_n d_GM_init_348 rfl ?_
  refine jt_iconst d_GM_init_349 ?_
  refine jt_iastore (n := 6) d_GM_init_350 (by rw [va_up_self]) (by omega) (by omega) (by omega) ?_
  refine jt_fe (f' := va_up (gmp m 30 g [.int (jI (0)), .int (jI (0)), .int (jI (0)), .int (jI (-1)), .int (jI (0)), .int (jI (0)), .int (jI (0)), .int (jI (0)), .int (jI (0)), .int (jI (0)), .int (jI (0)), .int (jI (0)), .int (jI (0)), .int (jI (0)), .int (jI (0)), .int (jI (0)), .ref (m + 1), .ref (m + 2), .ref (m + 3), .ref (m + 4), .ref (m + 5), .ref (m + 6), .ref (m + 7), .ref (m + 8), .ref (m + 9), .ref (m + 10), .ref (m + 11), .ref (m + 12), .ref (m + 13), .ref (m + 14), .ref (m + 15), .ref (m + 16), .ref (m + 17), .ref (m + 18), .ref (m + 19), .ref (m + 20), .ref (m + 21), .ref (m + 22), .ref (m + 23), .ref (m + 24), .ref (m + 25), .ref (m + 26), .ref (m + 27), .ref (m + 28), .ref (m + 29), .ref (m + 30)]) (m + 5) (some (jAI 6 (ju (fun _ => 0) 0 (-1))))) (bx_uu _ _ _ _) rfl ?_
  refine jt_iinc (L' := [(0, .ref m), (1, .int (jI 1))]) d_GM_init_351 rfl (Nat.le_of_ble_eq_true rfl) rfl ?_
  refine jt_goto (t := 338) d_GM_init_354 rfl ?_
  show jt _ 338 [(0, .ref m), (1, .int (jI 1))] [] (va_up (gmp m 30 g [.int (jI (0)), .int (jI (0)), .int (jI (0)), .int (jI (-1)), .int (jI (0)), .int (jI (0)), .int (jI (0)), .int (jI (0)), .int (jI (0)), .int (jI (0)), .int (jI (0)), .int (jI (0)), .int (jI (0)), .int (jI (0)), .int (jI (0)), .int (jI (0)), .ref (m + 1), .ref (m + 2), .ref (m + 3), .ref (m + 4), .ref (m + 5), .ref (m + 6), .ref (m + 7), .ref (m + 8), .ref (m + 9), .ref (m + 10), .ref (m + 11), .ref (m + 12), .ref (m + 13), .ref (m + 14), .ref (m + 15), .ref (m + 16), .ref (m + 17), .ref (m + 18), .ref (m + 19), .ref (m + 20), .ref (m + 21), .ref (m + 22), .ref (m + 23), .ref (m + 24), .ref (m + 25), .ref (m + 26), .ref (m + 27), .ref (m + 28), .ref (m + 29), .ref (m + 30)]) (m + 5) (some (jAI 6 (ju (fun _ => 0) 0 (-1))))) _ _ _
  refine jt_iload_n d_GM_init_338 rfl ?_
  refine jt_bipush d_GM_init_339 (by omega) ?_
  refine jt_icmp_ge (t := 357) d_GM_init_341 rfl (by unfold jRi; omega) (by unfold jRi; omega) (fun c => absurd c (by omega)) (fun c => ?_)
  refine jt_aload_n d_GM_init_344 rfl ?_
  refine jt_getf d_GM_init_345 GM_f72 (by rw [va_up_ne _ _ (by omega), gmp_o]) rfl ?_
  refine jt_iload_n d_GM_init_348 rfl ?_
  refine jt_iconst d_GM_init_349 ?_
  refine jt_iastore (n := 6) d_GM_init_350 (by rw [va_up_self]) (by omega) (by omega) (by omega) ?_
  refine jt_fe (f' := va_up (gmp m 30 g [.int (jI (0)), .int (jI (0)), .int (jI (0)), .int (jI (-1)), .int (jI (0)), .int (jI (0)), .int (jI (0)), .int (jI (0)), .int (jI (0)), .int (jI (0)), .int (jI (0)), .int (jI (0)), .int (jI (0)), .int (jI (0)), .int (jI (0)), .int (jI (0)), .ref (m + 1), .ref (m + 2), .ref (m + 3), .ref (m + 4), .ref (m + 5), .ref (m + 6), .ref (m + 7), .ref (m + 8), .ref (m + 9), .ref (m + 10), .ref (m + 11), .ref (m + 12), .ref (m + 13), .ref (m + 14), .ref (m + 15), .ref (m + 16), .ref (m + 17), .ref (m + 18), .ref (m + 19), .ref (m + 20), .ref (m + 21), .ref (m + 22), .ref (m + 23), .ref (m + 24), .ref (m + 25), .ref (m + 26), .ref (m + 27), .ref (m + 28), .ref (m + 29), .ref (m + 30)]) (m + 5) (some (jAI 6 (ju (ju (fun _ => 0) 0 (-1)) 1 (-1))))) (bx_uu _ _ _ _) rfl ?_
  refine jt_iinc (L' := [(0, .ref m), (1, .int (jI 2))]) d_GM_init_351 rfl (Nat.le_of_ble_eq_true rfl) rfl ?_
  refine jt_goto (t := 338) d_GM_init_354 rfl ?_
  show jt _ 338 [(0, .ref m), (1, .int (jI 2))] [] (va_up (gmp m 30 g [.int (jI (0)), .int (jI (0)), .int (jI (0)), .int (jI (-1)), .int (jI (0)), .int (jI (0)), .int (jI (0)), .int (jI (0)), .int (jI (0)), .int (jI (0)), .int (jI (0)), .int (jI (0)), .int (jI (0)), .int (jI (0)), .int (jI (0)), .int (jI (0)), .ref (m + 1), .ref (m + 2), .ref (m + 3), .ref (m + 4), .ref (m + 5), .ref (m + 6), .ref (m + 7), .ref (m + 8), .ref (m + 9), .ref (m + 10), .ref (m + 11), .ref (m + 12), .ref (m + 13), .ref (m + 14), .ref (m + 15), .ref (m + 16), .ref (m + 17), .ref (m + 18), .ref (m + 19), .ref (m + 20), .ref (m + 21), .ref (m + 22), .ref (m + 23), .ref (m + 24), .ref (m + 25), .ref (m + 26), .ref (m + 27), .ref (m + 28), .ref (m + 29), .ref (m + 30)]) (m + 5) (some (jAI 6 (ju (ju (fun _ => 0) 0 (-1)) 1 (-1))))) _ _ _
  refine jt_iload_n d_GM_init_338 rfl ?_
  refine jt_bipush d_GM_init_339 (by omega) ?_
  refine jt_icmp_ge (t := 357) d_GM_init_341 rfl (by unfold jRi; omega) (by unfold jRi; omega) (fun c => absurd c (by omega)) (fun c => ?_)
  refine jt_aload_n d_GM_init_344 rfl ?_
  refine jt_getf d_GM_init_345 GM_f72 (by rw [va_up_ne _ _ (by omega), gmp_o]) rfl ?_
  refine jt_iload_n d_GM_init_348 rfl ?_
  refine jt_iconst d_GM_init_349 ?_
  refine jt_iastore (n := 6) d_GM_init_350 (by rw [va_up_self]) (by omega) (by omega) (by omega) ?_
  refine jt_fe (f' := va_up (gmp m 30 g [.int (jI (0)), .int (jI (0)), .int (jI (0)), .int (jI (-1)), .int (jI (0)), .int (jI (0)), .int (jI (0)), .int (jI (0)), .int (jI (0)), .int (jI (0)), .int (jI (0)), .int (jI (0)), .int (jI (0)), .int (jI (0)), .int (jI (0)), .int (jI (0)), .ref (m + 1), .ref (m + 2), .ref (m + 3), .ref (m + 4), .ref (m + 5), .ref (m + 6), .ref (m + 7), .ref (m + 8), .ref (m + 9), .ref (m + 10), .ref (m + 11), .ref (m + 12), .ref (m + 13), .ref (m + 14), .ref (m + 15), .ref (m + 16), .ref (m + 17), .ref (m + 18), .ref (m + 19), .ref (m + 20), .ref (m + 21), .ref (m + 22), .ref (m + 23), .ref (m + 24), .ref (m + 25), .ref (m + 26), .ref (m + 27), .ref (m + 28), .ref (m + 29), .ref (m + 30)]) (m + 5) (some (jAI 6 (ju (ju (ju (fun _ => 0) 0 (-1)) 1 (-1)) 2 (-1))))) (bx_uu _ _ _ _) rfl ?_
  refine jt_iinc (L' := [(0, .ref m), (1, .int (jI 3))]) d_GM_init_351 rfl (Nat.le_of_ble_eq_true rfl) rfl ?_
  refine jt_goto (t := 338) d_GM_init_354 rfl ?_
  show jt _ 338 [(0, .ref m), (1, .int (jI 3))] [] (va_up (gmp m 30 g [.int (jI (0)), .int (jI (0)), .int (jI (0)), .int (jI (-1)), .int (jI (0)), .int (jI (0)), .int (jI (0)), .int (jI (0)), .int (jI (0)), .int (jI (0)), .int (jI (0)), .int (jI (0)), .int (jI (0)), .int (jI (0)), .int (jI (0)), .int (jI (0)), .ref (m + 1), .ref (m + 2), .ref (m + 3), .ref (m + 4), .ref (m + 5), .ref (m + 6), .ref (m + 7), .ref (m + 8), .ref (m + 9), .ref (m + 10), .ref (m + 11), .ref (m + 12), .ref (m + 13), .ref (m + 14), .ref (m + 15), .ref (m + 16), .ref (m + 17), .ref (m + 18), .ref (m + 19), .ref (m + 20), .ref (m + 21), .ref (m + 22), .ref (m + 23), .ref (m + 24), .ref (m + 25), .ref (m + 26), .ref (m + 27), .ref (m + 28), .ref (m + 29), .ref (m + 30)]) (m + 5) (some (jAI 6 (ju (ju (ju (fun _ => 0) 0 (-1)) 1 (-1)) 2 (-1))))) _ _ _
  refine jt_iload_n d_GM_init_338 rfl ?_
  refine jt_bipush d_GM_init_339 (by omega) ?_
  refine jt_icmp_ge (t := 357) d_GM_init_341 rfl (by unfold jRi; omega) (by unfold jRi; omega) (fun c => absurd c (by omega)) (fun c => ?_)
  refine jt_aload_n d_GM_init_344 rfl ?_
  refine jt_getf d_GM_init_345 GM_f72 (by rw [va_up_ne _ _ (by omega), gmp_o]) rfl ?_
  refine jt_iload_n d_GM_init_348 rfl ?_
  refine jt_iconst d_GM_init_349 ?_
  refine jt_iastore (n := 6) d_GM_init_350 (by rw [va_up_self]) (by omega) (by omega) (by omega) ?_
  refine jt_fe (f' := va_up (gmp m 30 g [.int (jI (0)), .int (jI (0)), .int (jI (0)), .int (jI (-1)), .int (jI (0)), .int (jI (0)), .int (jI (0)), .int (jI (0)), .int (jI (0)), .int (jI (0)), .int (jI (0)), .int (jI (0)), .int (jI (0)), .int (jI (0)), .int (jI (0)), .int (jI (0)), .ref (m + 1), .ref (m + 2), .ref (m + 3), .ref (m + 4), .ref (m + 5), .ref (m + 6), .ref (m + 7), .ref (m + 8), .ref (m + 9), .ref (m + 10), .ref (m + 11), .ref (m + 12), .ref (m + 13), .ref (m + 14), .ref (m + 15), .ref (m + 16), .ref (m + 17), .ref (m + 18), .ref (m + 19), .ref (m + 20), .ref (m + 21), .ref (m + 22), .ref (m + 23), .ref (m + 24), .ref (m + 25), .ref (m + 26), .ref (m + 27), .ref (m + 28), .ref (m + 29), .ref (m + 30)]) (m + 5) (some (jAI 6 (ju (ju (ju (ju (fun _ => 0) 0 (-1)) 1 (-1)) 2 (-1)) 3 (-1))))) (bx_uu _ _ _ _) rfl ?_
  refine jt_iinc (L' := [(0, .ref m), (1, .int (jI 4))]) d_GM_init_351 rfl (Nat.le_of_ble_eq_true rfl) rfl ?_
  refine jt_goto (t := 338) d_GM_init_354 rfl ?_
  show jt _ 338 [(0, .ref m), (1, .int (jI 4))] [] (va_up (gmp m 30 g [.int (jI (0)), .int (jI (0)), .int (jI (0)), .int (jI (-1)), .int (jI (0)), .int (jI (0)), .int (jI (0)), .int (jI (0)), .int (jI (0)), .int (jI (0)), .int (jI (0)), .int (jI (0)), .int (jI (0)), .int (jI (0)), .int (jI (0)), .int (jI (0)), .ref (m + 1), .ref (m + 2), .ref (m + 3), .ref (m + 4), .ref (m + 5), .ref (m + 6), .ref (m + 7), .ref (m + 8), .ref (m + 9), .ref (m + 10), .ref (m + 11), .ref (m + 12), .ref (m + 13), .ref (m + 14), .ref (m + 15), .ref (m + 16), .ref (m + 17), .ref (m + 18), .ref (m + 19), .ref (m + 20), .ref (m + 21), .ref (m + 22), .ref (m + 23), .ref (m + 24), .ref (m + 25), .ref (m + 26), .ref (m + 27), .ref (m + 28), .ref (m + 29), .ref (m + 30)]) (m + 5) (some (jAI 6 (ju (ju (ju (ju (fun _ => 0) 0 (-1)) 1 (-1)) 2 (-1)) 3 (-1))))) _ _ _
  refine jt_iload_n d_GM_init_338 rfl ?_
  refine jt_bipush d_GM_init_339 (by omega) ?_
  refine jt_icmp_ge (t := 357) d_GM_init_341 rfl (by unfold jRi; omega) (by unfold jRi; omega) (fun c => absurd c (by omega)) (fun c => ?_)
  refine jt_aload_n d_GM_init_344 rfl ?_
  refine jt_getf d_GM_init_345 GM_f72 (by rw [va_up_ne _ _ (by omega), gmp_o]) rfl ?_
  refine jt_iload_n d_GM_init_348 rfl ?_
  refine jt_iconst d_GM_init_349 ?_
  refine jt_iastore (n := 6) d_GM_init_350 (by rw [va_up_self]) (by omega) (by omega) (by omega) ?_
  refine jt_fe (f' := va_up (gmp m 30 g [.int (jI (0)), .int (jI (0)), .int (jI (0)), .int (jI (-1)), .int (jI (0)), .int (jI (0)), .int (jI (0)), .int (jI (0)), .int (jI (0)), .int (jI (0)), .int (jI (0)), .int (jI (0)), .int (jI (0)), .int (jI (0)), .int (jI (0)), .int (jI (0)), .ref (m + 1), .ref (m + 2), .ref (m + 3), .ref (m + 4), .ref (m + 5), .ref (m + 6), .ref (m + 7), .ref (m + 8), .ref (m + 9), .ref (m + 10), .ref (m + 11), .ref (m + 12), .ref (m + 13), .ref (m + 14), .ref (m + 15), .ref (m + 16), .ref (m + 17), .ref (m + 18), .ref (m + 19), .ref (m + 20), .ref (m + 21), .ref (m + 22), .ref (m + 23), .ref (m + 24), .ref (m + 25), .ref (m + 26), .ref (m + 27), .ref (m + 28), .ref (m + 29), .ref (m + 30)]) (m + 5) (some (jAI 6 (ju (ju (ju (ju (ju (fun _ => 0) 0 (-1)) 1 (-1)) 2 (-1)) 3 (-1)) 4 (-1))))) (bx_uu _ _ _ _) rfl ?_
  refine jt_iinc (L' := [(0, .ref m), (1, .int (jI 5))]) d_GM_init_351 rfl (Nat.le_of_ble_eq_true rfl) rfl ?_
  refine jt_goto (t := 338) d_GM_init_354 rfl ?_
  show jt _ 338 [(0, .ref m), (1, .int (jI 5))] [] (va_up (gmp m 30 g [.int (jI (0)), .int (jI (0)), .int (jI (0)), .int (jI (-1)), .int (jI (0)), .int (jI (0)), .int (jI (0)), .int (jI (0)), .int (jI (0)), .int (jI (0)), .int (jI (0)), .int (jI (0)), .int (jI (0)), .int (jI (0)), .int (jI (0)), .int (jI (0)), .ref (m + 1), .ref (m + 2), .ref (m + 3), .ref (m + 4), .ref (m + 5), .ref (m + 6), .ref (m + 7), .ref (m + 8), .ref (m + 9), .ref (m + 10), .ref (m + 11), .ref (m + 12), .ref (m + 13), .ref (m + 14), .ref (m + 15), .ref (m + 16), .ref (m + 17), .ref (m + 18), .ref (m + 19), .ref (m + 20), .ref (m + 21), .ref (m + 22), .ref (m + 23), .ref (m + 24), .ref (m + 25), .ref (m + 26), .ref (m + 27), .ref (m + 28), .ref (m + 29), .ref (m + 30)]) (m + 5) (some (jAI 6 (ju (ju (ju (ju (ju (fun _ => 0) 0 (-1)) 1 (-1)) 2 (-1)) 3 (-1)) 4 (-1))))) _ _ _
  refine jt_iload_n d_GM_init_338 rfl ?_
  refine jt_bipush d_GM_init_339 (by omega) ?_
  refine jt_icmp_ge (t := 357) d_GM_init_341 rfl (by unfold jRi; omega) (by unfold jRi; omega) (fun c => absurd c (by omega)) (fun c => ?_)
  refine jt_aload_n d_GM_init_344 rfl ?_
  refine jt_getf d_GM_init_345 GM_f72 (by rw [va_up_ne _ _ (by omega), gmp_o]) rfl ?_
  refine jt_iload_n d_GM_init_348 rfl ?_
  refine jt_iconst d_GM_init_349 ?_
  refine jt_iastore (n := 6) d_GM_init_350 (by rw [va_up_self]) (by omega) (by omega) (by omega) ?_
  refine jt_fe (f' := va_up (gmp m 30 g [.int (jI (0)), .int (jI (0)), .int (jI (0)), .int (jI (-1)), .int (jI (0)), .int (jI (0)), .int (jI (0)), .int (jI (0)), .int (jI (0)), .int (jI (0)), .int (jI (0)), .int (jI (0)), .int (jI (0)), .int (jI (0)), .int (jI (0)), .int (jI (0)), .ref (m + 1), .ref (m + 2), .ref (m + 3), .ref (m + 4), .ref (m + 5), .ref (m + 6), .ref (m + 7), .ref (m + 8), .ref (m + 9), .ref (m + 10), .ref (m + 11), .ref (m + 12), .ref (m + 13), .ref (m + 14), .ref (m + 15), .ref (m + 16), .ref (m + 17), .ref (m + 18), .ref (m + 19), .ref (m + 20), .ref (m + 21), .ref (m + 22), .ref (m + 23), .ref (m + 24), .ref (m + 25), .ref (m + 26), .ref (m + 27), .ref (m + 28), .ref (m + 29), .ref (m + 30)]) (m + 5) (some (jAI 6 (ju (ju (ju (ju (ju (ju (fun _ => 0) 0 (-1)) 1 (-1)) 2 (-1)) 3 (-1)) 4 (-1)) 5 (-1))))) (bx_uu _ _ _ _) rfl ?_
  refine jt_iinc (L' := [(0, .ref m), (1, .int (jI 6))]) d_GM_init_351 rfl (Nat.le_of_ble_eq_true rfl) rfl ?_
  refine jt_goto (t := 338) d_GM_init_354 rfl ?_
  show jt _ 338 [(0, .ref m), (1, .int (jI 6))] [] (va_up (gmp m 30 g [.int (jI (0)), .int (jI (0)), .int (jI (0)), .int (jI (-1)), .int (jI (0)), .int (jI (0)), .int (jI (0)), .int (jI (0)), .int (jI (0)), .int (jI (0)), .int (jI (0)), .int (jI (0)), .int (jI (0)), .int (jI (0)), .int (jI (0)), .int (jI (0)), .ref (m + 1), .ref (m + 2), .ref (m + 3), .ref (m + 4), .ref (m + 5), .ref (m + 6), .ref (m + 7), .ref (m + 8), .ref (m + 9), .ref (m + 10), .ref (m + 11), .ref (m + 12), .ref (m + 13), .ref (m + 14), .ref (m + 15), .ref (m + 16), .ref (m + 17), .ref (m + 18), .ref (m + 19), .ref (m + 20), .ref (m + 21), .ref (m + 22), .ref (m + 23), .ref (m + 24), .ref (m + 25), .ref (m + 26), .ref (m + 27), .ref (m + 28), .ref (m + 29), .ref (m + 30)]) (m + 5) (some (jAI 6 (ju (ju (ju (ju (ju (ju (fun _ => 0) 0 (-1)) 1 (-1)) 2 (-1)) 3 (-1)) 4 (-1)) 5 (-1))))) _ _ _
  refine jt_iload_n d_GM_init_338 rfl ?_
  refine jt_bipush d_GM_init_339 (by omega) ?_
  refine jt_icmp_ge (t := 357) d_GM_init_341 rfl (by unfold jRi; omega) (by unfold jRi; omega) (fun c => ?_) (fun c => absurd c (by omega))
  refine jt_vret d_GM_init_357 rfl (show 30 ≤ 30 by omega) (show 12602 ≤ 12602 by omega) ⟨rfl, gmp_z m g _ rfl ?_, rfl⟩
  funext z
  by_cases h : 0 ≤ z ∧ z < 6
  · have h6 : z = 0 ∨ z = 1 ∨ z = 2 ∨ z = 3 ∨ z = 4 ∨ z = 5 := by omega
    rcases h6 with rfl | rfl | rfl | rfl | rfl | rfl <;> rfl
  · rw [ju_ne _ _ (by omega), ju_ne _ _ (by omega), ju_ne _ _ (by omega), ju_ne _ _ (by omega), ju_ne _ _ (by omega), ju_ne _ _ (by omega)]
    show (0 : Int) = (if 0 ≤ z ∧ z < 6 then _ else _)
    rw [if_neg h]
theorem d_LA_law_0 : decode code 0 = .ok (.new 7, 3) := by decide +kernel
theorem d_LA_law_3 : decode code 3 = .ok (.dup, 1) := by decide +kernel
theorem d_LA_law_4 : decode code 4 = .ok (.invokespecial 9, 3) := by decide +kernel
theorem d_LA_law_7 : decode code 7 = .ok (.astore_n 1, 1) := by decide +kernel
theorem d_LA_law_8 : decode code 8 = .ok (.new 10, 3) := by decide +kernel
theorem d_LA_law_11 : decode code 11 = .ok (.dup, 1) := by decide +kernel
theorem d_LA_law_12 : decode code 12 = .ok (.invokespecial 12, 3) := by decide +kernel
theorem d_LA_law_15 : decode code 15 = .ok (.astore_n 2, 1) := by decide +kernel
theorem d_LA_law_16 : decode code 16 = .ok (.iconst 0, 1) := by decide +kernel
theorem d_LA_law_17 : decode code 17 = .ok (.istore_n 3, 1) := by decide +kernel
theorem d_LA_law_18 : decode code 18 = .ok (.iload_n 3, 1) := by decide +kernel
theorem d_LA_law_19 : decode code 19 = .ok (.aload_n 0, 1) := by decide +kernel
theorem d_LA_law_20 : decode code 20 = .ok (.arraylength, 1) := by decide +kernel
theorem d_LA_law_21 : decode code 21 = .ok (.iconst 3, 1) := by decide +kernel
theorem d_LA_law_22 : decode code 22 = .ok (.isub, 1) := by decide +kernel
theorem d_LA_law_23 : decode code 23 = .ok (.if_icmp .gt 409, 3) := by decide +kernel
theorem d_LA_law_26 : decode code 26 = .ok (.aload_n 0, 1) := by decide +kernel
theorem d_LA_law_27 : decode code 27 = .ok (.iload_n 3, 1) := by decide +kernel
theorem d_LA_law_28 : decode code 28 = .ok (.iaload, 1) := by decide +kernel
theorem d_LA_law_29 : decode code 29 = .ok (.bipush 15, 2) := by decide +kernel
theorem d_LA_law_31 : decode code 31 = .ok (.iand, 1) := by decide +kernel
theorem d_LA_law_32 : decode code 32 = .ok (.tableswitch 394 0 13 #[72, 105, 118, 151, 164, 177, 190, 203, 226, 249, 282, 315, 348, 371], 72) := by decide +kernel
theorem d_LA_law_104 : decode code 104 = .ok (.aload_n 1, 1) := by decide +kernel
theorem d_LA_law_105 : decode code 105 = .ok (.aload_n 0, 1) := by decide +kernel
theorem d_LA_law_106 : decode code 106 = .ok (.iload_n 3, 1) := by decide +kernel
theorem d_LA_law_107 : decode code 107 = .ok (.iconst 1, 1) := by decide +kernel
theorem d_LA_law_108 : decode code 108 = .ok (.iadd, 1) := by decide +kernel
theorem d_LA_law_109 : decode code 109 = .ok (.iaload, 1) := by decide +kernel
theorem d_LA_law_110 : decode code 110 = .ok (.aload_n 0, 1) := by decide +kernel
theorem d_LA_law_111 : decode code 111 = .ok (.iload_n 3, 1) := by decide +kernel
theorem d_LA_law_112 : decode code 112 = .ok (.iconst 2, 1) := by decide +kernel
theorem d_LA_law_113 : decode code 113 = .ok (.iadd, 1) := by decide +kernel
theorem d_LA_law_114 : decode code 114 = .ok (.iaload, 1) := by decide +kernel
theorem d_LA_law_115 : decode code 115 = .ok (.invokevirtual 13, 3) := by decide +kernel
theorem d_LA_law_118 : decode code 118 = .ok (.pop, 1) := by decide +kernel
theorem d_LA_law_119 : decode code 119 = .ok (.aload_n 2, 1) := by decide +kernel
theorem d_LA_law_120 : decode code 120 = .ok (.aload_n 0, 1) := by decide +kernel
theorem d_LA_law_121 : decode code 121 = .ok (.iload_n 3, 1) := by decide +kernel
theorem d_LA_law_122 : decode code 122 = .ok (.iconst 1, 1) := by decide +kernel
theorem d_LA_law_123 : decode code 123 = .ok (.iadd, 1) := by decide +kernel
theorem d_LA_law_124 : decode code 124 = .ok (.iaload, 1) := by decide +kernel
theorem d_LA_law_125 : decode code 125 = .ok (.aload_n 0, 1) := by decide +kernel
theorem d_LA_law_126 : decode code 126 = .ok (.iload_n 3, 1) := by decide +kernel
theorem d_LA_law_127 : decode code 127 = .ok (.iconst 2, 1) := by decide +kernel
theorem d_LA_law_128 : decode code 128 = .ok (.iadd, 1) := by decide +kernel
theorem d_LA_law_129 : decode code 129 = .ok (.iaload, 1) := by decide +kernel
theorem d_LA_law_130 : decode code 130 = .ok (.invokevirtual 17, 3) := by decide +kernel
theorem d_LA_law_133 : decode code 133 = .ok (.pop, 1) := by decide +kernel
theorem d_LA_law_134 : decode code 134 = .ok (.goto 292, 3) := by decide +kernel
theorem d_LA_law_137 : decode code 137 = .ok (.aload_n 1, 1) := by decide +kernel
theorem d_LA_law_138 : decode code 138 = .ok (.invokevirtual 18, 3) := by decide +kernel
theorem d_LA_law_141 : decode code 141 = .ok (.pop, 1) := by decide +kernel
theorem d_LA_law_142 : decode code 142 = .ok (.aload_n 2, 1) := by decide +kernel
theorem d_LA_law_143 : decode code 143 = .ok (.invokevirtual 22, 3) := by decide +kernel
theorem d_LA_law_146 : decode code 146 = .ok (.pop, 1) := by decide +kernel
theorem d_LA_law_147 : decode code 147 = .ok (.goto 279, 3) := by decide +kernel
theorem d_LA_law_150 : decode code 150 = .ok (.aload_n 1, 1) := by decide +kernel
theorem d_LA_law_151 : decode code 151 = .ok (.aload_n 0, 1) := by decide +kernel
theorem d_LA_law_152 : decode code 152 = .ok (.iload_n 3, 1) := by decide +kernel
theorem d_LA_law_153 : decode code 153 = .ok (.iconst 1, 1) := by decide +kernel
theorem d_LA_law_154 : decode code 154 = .ok (.iadd, 1) := by decide +kernel
theorem d_LA_law_155 : decode code 155 = .ok (.iaload, 1) := by decide +kernel
theorem d_LA_law_156 : decode code 156 = .ok (.aload_n 0, 1) := by decide +kernel
theorem d_LA_law_157 : decode code 157 = .ok (.iload_n 3, 1) := by decide +kernel
theorem d_LA_law_158 : decode code 158 = .ok (.iconst 2, 1) := by decide +kernel
theorem d_LA_law_159 : decode code 159 = .ok (.iadd, 1) := by decide +kernel
theorem d_LA_law_160 : decode code 160 = .ok (.iaload, 1) := by decide +kernel
theorem d_LA_law_161 : decode code 161 = .ok (.invokevirtual 23, 3) := by decide +kernel
theorem d_LA_law_164 : decode code 164 = .ok (.pop, 1) := by decide +kernel
theorem d_LA_law_165 : decode code 165 = .ok (.aload_n 2, 1) := by decide +kernel
theorem d_LA_law_166 : decode code 166 = .ok (.aload_n 0, 1) := by decide +kernel
theorem d_LA_law_167 : decode code 167 = .ok (.iload_n 3, 1) := by decide +kernel
theorem d_LA_law_168 : decode code 168 = .ok (.iconst 1, 1) := by decide +kernel
theorem d_LA_law_169 : decode code 169 = .ok (.iadd, 1) := by decide +kernel
theorem d_LA_law_170 : decode code 170 = .ok (.iaload, 1) := by decide +kernel
theorem d_LA_law_171 : decode code 171 = .ok (.aload_n 0, 1) := by decide +kernel
theorem d_LA_law_172 : decode code 172 = .ok (.iload_n 3, 1) := by decide +kernel
theorem d_LA_law_173 : decode code 173 = .ok (.iconst 2, 1) := by decide +kernel
theorem d_LA_law_174 : decode code 174 = .ok (.iadd, 1) := by decide +kernel
theorem d_LA_law_175 : decode code 175 = .ok (.iaload, 1) := by decide +kernel
theorem d_LA_law_176 : decode code 176 = .ok (.invokevirtual 26, 3) := by decide +kernel
theorem d_LA_law_179 : decode code 179 = .ok (.pop, 1) := by decide +kernel
theorem d_LA_law_180 : decode code 180 = .ok (.goto 246, 3) := by decide +kernel
theorem d_LA_law_183 : decode code 183 = .ok (.aload_n 1, 1) := by decide +kernel
theorem d_LA_law_184 : decode code 184 = .ok (.invokevirtual 27, 3) := by decide +kernel
theorem d_LA_law_187 : decode code 187 = .ok (.pop, 1) := by decide +kernel
theorem d_LA_law_188 : decode code 188 = .ok (.aload_n 2, 1) := by decide +kernel
theorem d_LA_law_189 : decode code 189 = .ok (.invokevirtual 30, 3) := by decide +kernel
theorem d_LA_law_192 : decode code 192 = .ok (.pop, 1) := by decide +kernel
theorem d_LA_law_193 : decode code 193 = .ok (.goto 233, 3) := by decide +kernel
theorem d_LA_law_196 : decode code 196 = .ok (.aload_n 1, 1) := by decide +kernel
theorem d_LA_law_197 : decode code 197 = .ok (.invokevirtual 31, 3) := by decide +kernel
theorem d_LA_law_200 : decode code 200 = .ok (.pop, 1) := by decide +kernel
theorem d_LA_law_201 : decode code 201 = .ok (.aload_n 2, 1) := by decide +kernel
theorem d_LA_law_202 : decode code 202 = .ok (.invokevirtual 34, 3) := by decide +kernel
theorem d_LA_law_205 : decode code 205 = .ok (.pop, 1) := by decide +kernel
theorem d_LA_law_206 : decode code 206 = .ok (.goto 220, 3) := by decide +kernel
theorem d_LA_law_209 : decode code 209 = .ok (.aload_n 1, 1) := by decide +kernel
theorem d_LA_law_210 : decode code 210 = .ok (.invokevirtual 35, 3) := by decide +kernel
theorem d_LA_law_213 : decode code 213 = .ok (.pop, 1) := by decide +kernel
theorem d_LA_law_214 : decode code 214 = .ok (.aload_n 2, 1) := by decide +kernel
theorem d_LA_law_215 : decode code 215 = .ok (.invokevirtual 38, 3) := by decide +kernel
theorem d_LA_law_218 : decode code 218 = .ok (.pop, 1) := by decide +kernel
theorem d_LA_law_219 : decode code 219 = .ok (.goto 207, 3) := by decide +kernel
theorem d_LA_law_222 : decode code 222 = .ok (.aload_n 1, 1) := by decide +kernel
theorem d_LA_law_223 : decode code 223 = .ok (.invokevirtual 39, 3) := by decide +kernel
theorem d_LA_law_226 : decode code 226 = .ok (.pop, 1) := by decide +kernel
theorem d_LA_law_227 : decode code 227 = .ok (.aload_n 2, 1) := by decide +kernel
theorem d_LA_law_228 : decode code 228 = .ok (.invokevirtual 42, 3) := by decide +kernel
theorem d_LA_law_231 : decode code 231 = .ok (.pop, 1) := by decide +kernel
theorem d_LA_law_232 : decode code 232 = .ok (.goto 194, 3) := by decide +kernel
theorem d_LA_law_235 : decode code 235 = .ok (.aload_n 1, 1) := by decide +kernel
theorem d_LA_law_236 : decode code 236 = .ok (.aload_n 0, 1) := by decide +kernel
theorem d_LA_law_237 : decode code 237 = .ok (.iload_n 3, 1) := by decide +kernel
theorem d_LA_law_238 : decode code 238 = .ok (.iconst 1, 1) := by decide +kernel
theorem d_LA_law_239 : decode code 239 = .ok (.iadd, 1) := by decide +kernel
theorem d_LA_law_240 : decode code 240 = .ok (.iaload, 1) := by decide +kernel
theorem d_LA_law_241 : decode code 241 = .ok (.invokevirtual 43, 3) := by decide +kernel
theorem d_LA_law_244 : decode code 244 = .ok (.pop, 1) := by decide +kernel
theorem d_LA_law_245 : decode code 245 = .ok (.aload_n 2, 1) := by decide +kernel
theorem d_LA_law_246 : decode code 246 = .ok (.aload_n 0, 1) := by decide +kernel
theorem d_LA_law_247 : decode code 247 = .ok (.iload_n 3, 1) := by decide +kernel
theorem d_LA_law_248 : decode code 248 = .ok (.iconst 1, 1) := by decide +kernel
theorem d_LA_law_249 : decode code 249 = .ok (.iadd, 1) := by decide +kernel
theorem d_LA_law_250 : decode code 250 = .ok (.iaload, 1) := by decide +kernel
theorem d_LA_law_251 : decode code 251 = .ok (.invokevirtual 47, 3) := by decide +kernel
theorem d_LA_law_254 : decode code 254 = .ok (.pop, 1) := by decide +kernel
theorem d_LA_law_255 : decode code 255 = .ok (.goto 171, 3) := by decide +kernel
theorem d_LA_law_258 : decode code 258 = .ok (.aload_n 1, 1) := by decide +kernel
theorem d_LA_law_259 : decode code 259 = .ok (.aload_n 0, 1) := by decide +kernel
theorem d_LA_law_260 : decode code 260 = .ok (.iload_n 3, 1) := by decide +kernel
theorem d_LA_law_261 : decode code 261 = .ok (.iconst 1, 1) := by decide +kernel
theorem d_LA_law_262 : decode code 262 = .ok (.iadd, 1) := by decide +kernel
theorem d_LA_law_263 : decode code 263 = .ok (.iaload, 1) := by decide +kernel
theorem d_LA_law_264 : decode code 264 = .ok (.invokevirtual 48, 3) := by decide +kernel
theorem d_LA_law_267 : decode code 267 = .ok (.pop2, 1) := by decide +kernel
theorem d_LA_law_268 : decode code 268 = .ok (.aload_n 2, 1) := by decide +kernel
theorem d_LA_law_269 : decode code 269 = .ok (.aload_n 0, 1) := by decide +kernel
theorem d_LA_law_270 : decode code 270 = .ok (.iload_n 3, 1) := by decide +kernel
theorem d_LA_law_271 : decode code 271 = .ok (.iconst 1, 1) := by decide +kernel
theorem d_LA_law_272 : decode code 272 = .ok (.iadd, 1) := by decide +kernel
theorem d_LA_law_273 : decode code 273 = .ok (.iaload, 1) := by decide +kernel
theorem d_LA_law_274 : decode code 274 = .ok (.invokevirtual 52, 3) := by decide +kernel
theorem d_LA_law_277 : decode code 277 = .ok (.pop2, 1) := by decide +kernel
theorem d_LA_law_278 : decode code 278 = .ok (.goto 148, 3) := by decide +kernel
theorem d_LA_law_281 : decode code 281 = .ok (.aload_n 1, 1) := by decide +kernel
theorem d_LA_law_282 : decode code 282 = .ok (.aload_n 0, 1) := by decide +kernel
theorem d_LA_law_283 : decode code 283 = .ok (.iload_n 3, 1) := by decide +kernel
theorem d_LA_law_284 : decode code 284 = .ok (.iconst 1, 1) := by decide +kernel
theorem d_LA_law_285 : decode code 285 = .ok (.iadd, 1) := by decide +kernel
theorem d_LA_law_286 : decode code 286 = .ok (.iaload, 1) := by decide +kernel
theorem d_LA_law_287 : decode code 287 = .ok (.aload_n 0, 1) := by decide +kernel
theorem d_LA_law_288 : decode code 288 = .ok (.iload_n 3, 1) := by decide +kernel
theorem d_LA_law_289 : decode code 289 = .ok (.iconst 2, 1) := by decide +kernel
theorem d_LA_law_290 : decode code 290 = .ok (.iadd, 1) := by decide +kernel
theorem d_LA_law_291 : decode code 291 = .ok (.iaload, 1) := by decide +kernel
theorem d_LA_law_292 : decode code 292 = .ok (.invokevirtual 53, 3) := by decide +kernel
theorem d_LA_law_295 : decode code 295 = .ok (.pop2, 1) := by decide +kernel
theorem d_LA_law_296 : decode code 296 = .ok (.aload_n 2, 1) := by decide +kernel
theorem d_LA_law_297 : decode code 297 = .ok (.aload_n 0, 1) := by decide +kernel
theorem d_LA_law_298 : decode code 298 = .ok (.iload_n 3, 1) := by decide +kernel
theorem d_LA_law_299 : decode code 299 = .ok (.iconst 1, 1) := by decide +kernel
theorem d_LA_law_300 : decode code 300 = .ok (.iadd, 1) := by decide +kernel
theorem d_LA_law_301 : decode code 301 = .ok (.iaload, 1) := by decide +kernel
theorem d_LA_law_302 : decode code 302 = .ok (.aload_n 0, 1) := by decide +kernel
theorem d_LA_law_303 : decode code 303 = .ok (.iload_n 3, 1) := by decide +kernel
theorem d_LA_law_304 : decode code 304 = .ok (.iconst 2, 1) := by decide +kernel
theorem d_LA_law_305 : decode code 305 = .ok (.iadd, 1) := by decide +kernel
theorem d_LA_law_306 : decode code 306 = .ok (.iaload, 1) := by decide +kernel
theorem d_LA_law_307 : decode code 307 = .ok (.invokevirtual 57, 3) := by decide +kernel
theorem d_LA_law_310 : decode code 310 = .ok (.pop2, 1) := by decide +kernel
theorem d_LA_law_311 : decode code 311 = .ok (.goto 115, 3) := by decide +kernel
theorem d_LA_law_314 : decode code 314 = .ok (.aload_n 1, 1) := by decide +kernel
theorem d_LA_law_315 : decode code 315 = .ok (.aload_n 0, 1) := by decide +kernel
theorem d_LA_law_316 : decode code 316 = .ok (.iload_n 3, 1) := by decide +kernel
theorem d_LA_law_317 : decode code 317 = .ok (.iconst 1, 1) := by decide +kernel
theorem d_LA_law_318 : decode code 318 = .ok (.iadd, 1) := by decide +kernel
theorem d_LA_law_319 : decode code 319 = .ok (.iaload, 1) := by decide +kernel
theorem d_LA_law_320 : decode code 320 = .ok (.aload_n 0, 1) := by decide +kernel
theorem d_LA_law_321 : decode code 321 = .ok (.iload_n 3, 1) := by decide +kernel
theorem d_LA_law_322 : decode code 322 = .ok (.iconst 2, 1) := by decide +kernel
theorem d_LA_law_323 : decode code 323 = .ok (.iadd, 1) := by decide +kernel
theorem d_LA_law_324 : decode code 324 = .ok (.iaload, 1) := by decide +kernel
theorem d_LA_law_325 : decode code 325 = .ok (.invokevirtual 58, 3) := by decide +kernel
theorem d_LA_law_328 : decode code 328 = .ok (.pop, 1) := by decide +kernel
theorem d_LA_law_329 : decode code 329 = .ok (.aload_n 2, 1) := by decide +kernel
theorem d_LA_law_330 : decode code 330 = .ok (.aload_n 0, 1) := by decide +kernel
theorem d_LA_law_331 : decode code 331 = .ok (.iload_n 3, 1) := by decide +kernel
theorem d_LA_law_332 : decode code 332 = .ok (.iconst 1, 1) := by decide +kernel
theorem d_LA_law_333 : decode code 333 = .ok (.iadd, 1) := by decide +kernel
theorem d_LA_law_334 : decode code 334 = .ok (.iaload, 1) := by decide +kernel
theorem d_LA_law_335 : decode code 335 = .ok (.aload_n 0, 1) := by decide +kernel
theorem d_LA_law_336 : decode code 336 = .ok (.iload_n 3, 1) := by decide +kernel
theorem d_LA_law_337 : decode code 337 = .ok (.iconst 2, 1) := by decide +kernel
theorem d_LA_law_338 : decode code 338 = .ok (.iadd, 1) := by decide +kernel
theorem d_LA_law_339 : decode code 339 = .ok (.iaload, 1) := by decide +kernel
theorem d_LA_law_340 : decode code 340 = .ok (.invokevirtual 62, 3) := by decide +kernel
theorem d_LA_law_343 : decode code 343 = .ok (.pop, 1) := by decide +kernel
theorem d_LA_law_344 : decode code 344 = .ok (.goto 82, 3) := by decide +kernel
theorem d_LA_law_347 : decode code 347 = .ok (.aload_n 1, 1) := by decide +kernel
theorem d_LA_law_348 : decode code 348 = .ok (.aload_n 0, 1) := by decide +kernel
theorem d_LA_law_349 : decode code 349 = .ok (.iload_n 3, 1) := by decide +kernel
theorem d_LA_law_350 : decode code 350 = .ok (.iconst 1, 1) := by decide +kernel
theorem d_LA_law_351 : decode code 351 = .ok (.iadd, 1) := by decide +kernel
theorem d_LA_law_352 : decode code 352 = .ok (.iaload, 1) := by decide +kernel
theorem d_LA_law_353 : decode code 353 = .ok (.aload_n 0, 1) := by decide +kernel
theorem d_LA_law_354 : decode code 354 = .ok (.iload_n 3, 1) := by decide +kernel
theorem d_LA_law_355 : decode code 355 = .ok (.iconst 2, 1) := by decide +kernel
theorem d_LA_law_356 : decode code 356 = .ok (.iadd, 1) := by decide +kernel
theorem d_LA_law_357 : decode code 357 = .ok (.iaload, 1) := by decide +kernel
theorem d_LA_law_358 : decode code 358 = .ok (.invokevirtual 63, 3) := by decide +kernel
theorem d_LA_law_361 : decode code 361 = .ok (.pop, 1) := by decide +kernel
theorem d_LA_law_362 : decode code 362 = .ok (.aload_n 2, 1) := by decide +kernel
theorem d_LA_law_363 : decode code 363 = .ok (.aload_n 0, 1) := by decide +kernel
theorem d_LA_law_364 : decode code 364 = .ok (.iload_n 3, 1) := by decide +kernel
theorem d_LA_law_365 : decode code 365 = .ok (.iconst 1, 1) := by decide +kernel
theorem d_LA_law_366 : decode code 366 = .ok (.iadd, 1) := by decide +kernel
theorem d_LA_law_367 : decode code 367 = .ok (.iaload, 1) := by decide +kernel
theorem d_LA_law_368 : decode code 368 = .ok (.aload_n 0, 1) := by decide +kernel
theorem d_LA_law_369 : decode code 369 = .ok (.iload_n 3, 1) := by decide +kernel
theorem d_LA_law_370 : decode code 370 = .ok (.iconst 2, 1) := by decide +kernel
theorem d_LA_law_371 : decode code 371 = .ok (.iadd, 1) := by decide +kernel
theorem d_LA_law_372 : decode code 372 = .ok (.iaload, 1) := by decide +kernel
theorem d_LA_law_373 : decode code 373 = .ok (.invokevirtual 66, 3) := by decide +kernel
theorem d_LA_law_376 : decode code 376 = .ok (.pop, 1) := by decide +kernel
theorem d_LA_law_377 : decode code 377 = .ok (.goto 49, 3) := by decide +kernel
theorem d_LA_law_380 : decode code 380 = .ok (.aload_n 1, 1) := by decide +kernel
theorem d_LA_law_381 : decode code 381 = .ok (.aload_n 0, 1) := by decide +kernel
theorem d_LA_law_382 : decode code 382 = .ok (.iload_n 3, 1) := by decide +kernel
theorem d_LA_law_383 : decode code 383 = .ok (.iconst 1, 1) := by decide +kernel
theorem d_LA_law_384 : decode code 384 = .ok (.iadd, 1) := by decide +kernel
theorem d_LA_law_385 : decode code 385 = .ok (.iaload, 1) := by decide +kernel
theorem d_LA_law_386 : decode code 386 = .ok (.invokevirtual 67, 3) := by decide +kernel
theorem d_LA_law_389 : decode code 389 = .ok (.pop2, 1) := by decide +kernel
theorem d_LA_law_390 : decode code 390 = .ok (.aload_n 2, 1) := by decide +kernel
theorem d_LA_law_391 : decode code 391 = .ok (.aload_n 0, 1) := by decide +kernel
theorem d_LA_law_392 : decode code 392 = .ok (.iload_n 3, 1) := by decide +kernel
theorem d_LA_law_393 : decode code 393 = .ok (.iconst 1, 1) := by decide +kernel
theorem d_LA_law_394 : decode code 394 = .ok (.iadd, 1) := by decide +kernel
theorem d_LA_law_395 : decode code 395 = .ok (.iaload, 1) := by decide +kernel
theorem d_LA_law_396 : decode code 396 = .ok (.invokevirtual 70, 3) := by decide +kernel
theorem d_LA_law_399 : decode code 399 = .ok (.pop2, 1) := by decide +kernel
theorem d_LA_law_400 : decode code 400 = .ok (.goto 26, 3) := by decide +kernel
theorem d_LA_law_403 : decode code 403 = .ok (.aload_n 1, 1) := by decide +kernel
theorem d_LA_law_404 : decode code 404 = .ok (.aload_n 0, 1) := by decide +kernel
theorem d_LA_law_405 : decode code 405 = .ok (.iload_n 3, 1) := by decide +kernel
theorem d_LA_law_406 : decode code 406 = .ok (.iconst 1, 1) := by decide +kernel
theorem d_LA_law_407 : decode code 407 = .ok (.iadd, 1) := by decide +kernel
theorem d_LA_law_408 : decode code 408 = .ok (.iaload, 1) := by decide +kernel
theorem d_LA_law_409 : decode code 409 = .ok (.invokevirtual 71, 3) := by decide +kernel
theorem d_LA_law_412 : decode code 412 = .ok (.aload_n 2, 1) := by decide +kernel
theorem d_LA_law_413 : decode code 413 = .ok (.aload_n 0, 1) := by decide +kernel
theorem d_LA_law_414 : decode code 414 = .ok (.iload_n 3, 1) := by decide +kernel
theorem d_LA_law_415 : decode code 415 = .ok (.iconst 1, 1) := by decide +kernel
theorem d_LA_law_416 : decode code 416 = .ok (.iadd, 1) := by decide +kernel
theorem d_LA_law_417 : decode code 417 = .ok (.iaload, 1) := by decide +kernel
theorem d_LA_law_418 : decode code 418 = .ok (.invokevirtual 74, 3) := by decide +kernel
theorem d_LA_law_421 : decode code 421 = .ok (.if_icmp .eq 5, 3) := by decide +kernel
theorem d_LA_law_424 : decode code 424 = .ok (.iconst 0, 1) := by decide +kernel
theorem d_LA_law_425 : decode code 425 = .ok (.ireturn, 1) := by decide +kernel
theorem d_LA_law_426 : decode code 426 = .ok (.iinc 3 3, 3) := by decide +kernel
theorem d_LA_law_429 : decode code 429 = .ok (.goto (-411), 3) := by decide +kernel
theorem d_LA_law_432 : decode code 432 = .ok (.iconst 1, 1) := by decide +kernel
theorem d_LA_law_433 : decode code 433 = .ok (.ireturn, 1) := by decide +kernel
theorem nw_LA_7 : Cond.classLink "GlyphCompilerLaw" 7 "GlyphCompiler" ∈ jTs ∧ Cond.instantiable "GlyphCompiler" 10 ∈ jTs ∧ Cond.initialized "GlyphCompiler" ∈ jTs := ⟨(jin_t (jin_1 14 rfl) rfl), (jin_t (jin_1 15 rfl) rfl), (jin_t (jin_1 1 rfl) rfl)⟩
theorem LA_c9 : jLk "GlyphCompilerLaw" 9 Y_GC_init := Or.inl (jin_t (jin_1 16 rfl) rfl)
theorem nw_LA_10 : Cond.classLink "GlyphCompilerLaw" 10 "GlyphCompilerModel" ∈ jTs ∧ Cond.instantiable "GlyphCompilerModel" 46 ∈ jTs ∧ Cond.initialized "GlyphCompilerModel" ∈ jTs := ⟨(jin_t (jin_3 116 rfl) rfl), (jin_t (jin_3 117 rfl) rfl), (jin_t (jin_1 9 rfl) rfl)⟩
theorem LA_c12 : jLk "GlyphCompilerLaw" 12 Y_GM_init := Or.inl (jin_t (jin_3 118 rfl) rfl)
theorem LA_c13 : jLk "GlyphCompilerLaw" 13 Y_GC_feed := Or.inl (jin_t (jin_2 18 rfl) rfl)
theorem LA_c17 : jLk "GlyphCompilerLaw" 17 Y_GM_feed := Or.inl (jin_t (jin_4 21 rfl) rfl)
theorem LA_c18 : jLk "GlyphCompilerLaw" 18 Y_GC_wipe := Or.inl (jin_t (jin_2 32 rfl) rfl)
theorem LA_c22 : jLk "GlyphCompilerLaw" 22 Y_GM_wipe := Or.inl (jin_t (jin_4 29 rfl) rfl)
theorem LA_c23 : jLk "GlyphCompilerLaw" 23 Y_GC_macro := Or.inl (jin_t (jin_2 36 rfl) rfl)
theorem LA_c26 : jLk "GlyphCompilerLaw" 26 Y_GM_macro := Or.inl (jin_t (jin_4 33 rfl) rfl)
theorem LA_c27 : jLk "GlyphCompilerLaw" 27 Y_GC_run := Or.inl (jin_t (jin_2 65 rfl) rfl)
theorem LA_c30 : jLk "GlyphCompilerLaw" 30 Y_GM_run := Or.inl (jin_t (jin_4 37 rfl) rfl)
theorem LA_c31 : jLk "GlyphCompilerLaw" 31 Y_GC_place := Or.inl (jin_t (jin_3 46 rfl) rfl)
theorem LA_c34 : jLk "GlyphCompilerLaw" 34 Y_GM_place := Or.inl (jin_t (jin_4 234 rfl) rfl)
theorem LA_c35 : jLk "GlyphCompilerLaw" 35 Y_GC_forget := Or.inl (jin_t (jin_3 50 rfl) rfl)
theorem LA_c38 : jLk "GlyphCompilerLaw" 38 Y_GM_forget := Or.inl (jin_t (jin_4 238 rfl) rfl)
theorem LA_c39 : jLk "GlyphCompilerLaw" 39 Y_GC_clean := Or.inl (jin_t (jin_3 58 rfl) rfl)
theorem LA_c42 : jLk "GlyphCompilerLaw" 42 Y_GM_clean := Or.inl (jin_t (jin_5 2 rfl) rfl)
theorem LA_c43 : jLk "GlyphCompilerLaw" 43 Y_GC_state := Or.inl (jin_t (jin_3 66 rfl) rfl)
theorem LA_c47 : jLk "GlyphCompilerLaw" 47 Y_GM_state := Or.inl (jin_t (jin_5 6 rfl) rfl)
theorem LA_c48 : jLk "GlyphCompilerLaw" 48 Y_GC_number := Or.inl (jin_t (jin_3 70 rfl) rfl)
theorem LA_c52 : jLk "GlyphCompilerLaw" 52 Y_GM_number := Or.inl (jin_t (jin_5 10 rfl) rfl)
theorem LA_c53 : jLk "GlyphCompilerLaw" 53 Y_GC_factor := Or.inl (jin_t (jin_3 75 rfl) rfl)
theorem LA_c57 : jLk "GlyphCompilerLaw" 57 Y_GM_factor := Or.inl (jin_t (jin_5 15 rfl) rfl)
theorem LA_c58 : jLk "GlyphCompilerLaw" 58 Y_GC_black := Or.inl (jin_t (jin_3 79 rfl) rfl)
theorem LA_c62 : jLk "GlyphCompilerLaw" 62 Y_GM_black := Or.inl (jin_t (jin_5 19 rfl) rfl)
theorem LA_c63 : jLk "GlyphCompilerLaw" 63 Y_GC_stretch := Or.inl (jin_t (jin_3 87 rfl) rfl)
theorem LA_c66 : jLk "GlyphCompilerLaw" 66 Y_GM_stretch := Or.inl (jin_t (jin_5 23 rfl) rfl)
theorem LA_c67 : jLk "GlyphCompilerLaw" 67 Y_GC_shown := Or.inl (jin_t (jin_3 96 rfl) rfl)
theorem LA_c70 : jLk "GlyphCompilerLaw" 70 Y_GM_shown := Or.inl (jin_t (jin_5 27 rfl) rfl)
theorem LA_c71 : jLk "GlyphCompilerLaw" 71 Y_GC_count := Or.inl (jin_t (jin_3 100 rfl) rfl)
theorem LA_c74 : jLk "GlyphCompilerLaw" 74 Y_GM_count := Or.inl (jin_t (jin_5 31 rfl) rfl)

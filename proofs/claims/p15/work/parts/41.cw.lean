/-! weak contracts of the class: bounds, tokens, frames (long arrays are free) -/
def cLo (k j : Nat) : Int := if j = 3 then (if k = 1 then 0 else if k = 8 then 0 else if k = 39 then 0 else if k = 464 then 0 else if k = 14 then 0 else if k = 18 then 0 else if k = 22 then 0 else if k = 26 then 0 else if k = 30 then 0 else if k = 34 then 0 else -2147483648) else if k = 5 then 0 else if k = 38 then (if j = 4 then -2147483648 else 0) else if k = 0 then (if j = 7 then 0 else -2147483648) else -2147483648
def cHi (k j : Nat) : Int := if j = 3 then (if k = 1 then 120 else if k = 8 then 300 else if k = 39 then 300 else if k = 464 then 98 else if k = 14 then 40 else if k = 18 then 40 else if k = 22 then 40 else if k = 26 then 40 else if k = 30 then 40 else if k = 34 then 40 else 2147483647) else if k = 5 then (if j = 5 then 300 else if j = 6 then 101 else 2147483647) else if k = 38 then (if j = 2 then 300 else if j = 6 then 150 else if j = 7 then 1 else if j = 9 then 2000 else 2147483647) else 2147483647
def eLo (k : Nat) : Int := if k = 7 then -1 else if k = 12 then 0 else if k = 13 then 0 else if k = 375 then 0 else if k = 469 then 0 else if ck k = 9 then -9223372036854775808 else -2147483648
def eHi (k : Nat) : Int := if k = 7 then 3 else if k = 12 then 300 else if k = 13 then 300 else if k = 375 then 1 else if k = 469 then 1 else if ck k = 9 then 9223372036854775807 else 2147483647
def cSI (I : Nat → Nat → Int) : Prop := ∀ k j, cLo k j ≤ I k j ∧ I k j ≤ cHi k j
def cSA (A : Nat → Int → Int) : Prop := ∀ k z, eLo k ≤ A k z ∧ A k z ≤ eHi k
def cRows : List Nat := [1, 8, 14, 18, 22, 26, 30, 34, 39]
/-- every place of every row bears a token -/
def cTok (A : Nat → Int → Int) : Prop := ∀ k, cRows.contains k = true → ∀ z, gtok (A (k + 1) z) (A (k + 2) z)
def cPo (S T : List Nat) (I : Nat → Nat → Int) (A : Nat → Int → Int) (J : Nat → Nat → Int) (B : Nat → Int → Int) : Prop := cSI J ∧ cSA B ∧ (∀ k j, S.contains (k * 16 + j) = false → J k j = I k j) ∧ (∀ k, T.contains k = false → ck k ≠ 9 → B k = A k)
theorem cPo.refl {S T : List Nat} {I : Nat → Nat → Int} {A : Nat → Int → Int} (h : cSI I) (h2 : cSA A) : cPo S T I A I A := ⟨h, h2, fun _ _ _ => rfl, fun _ _ _ => rfl⟩
theorem cPo.I {S T : List Nat} {I J : Nat → Nat → Int} {A B : Nat → Int → Int} (k j : Nat) (v : Int) (h : cPo S T I A J B) (hk : S.contains (k * 16 + j) = true) (hv : cLo k j ≤ v ∧ v ≤ cHi k j) : cPo S T I A (cu J k j v) B := by
  refine ⟨fun p q => ?_, h.2.1, fun p q hq => ?_, h.2.2.2⟩
  · unfold cu
    by_cases e : p = k ∧ q = j
    · rw [if_pos e, e.1, e.2]; exact hv
    · rw [if_neg e]; exact h.1 p q
  · rw [cu_n _ _ (fun e => by rw [e.1, e.2, hk] at hq; cases hq)]
    exact h.2.2.1 p q hq
theorem cPo.A {S T : List Nat} {I J : Nat → Nat → Int} {A B : Nat → Int → Int} (k : Nat) (g : Int → Int) (h : cPo S T I A J B) (hk : T.contains k = true ∨ ck k = 9) (hg : ∀ z, eLo k ≤ g z ∧ g z ≤ eHi k) : cPo S T I A J (va_up B k g) := by
  refine ⟨h.1, fun q z => ?_, h.2.2.1, fun q hq hl => ?_⟩
  · by_cases e : q = k
    · subst e; rw [va_up_self]; exact hg z
    · rw [va_up_ne _ _ e]; exact h.2.1 q z
  · rw [va_up_ne _ _ (fun e => by subst e; exact hk.elim (fun hk => by rw [hk] at hq; cases hq) hl)]
    exact h.2.2.2 q hq hl
theorem cPo.trans {S T S' T' : List Nat} {I J I2 : Nat → Nat → Int} {A B A2 : Nat → Int → Int} (h : cPo S T I A J B) (h2 : cPo S' T' J B I2 A2) (hS : S'.all (fun x => S.contains x) = true) (hT : T'.all (fun x => T.contains x) = true) : cPo S T I A I2 A2 := by
  have sub : ∀ (U V : List Nat), U.all (fun x => V.contains x) = true → ∀ k, V.contains k = false → U.contains k = false := by
    intro U V hUV k hk
    cases hc : U.contains k with
    | false => rfl
    | true =>
      have h1 := List.all_eq_true.mp hUV k (List.contains_iff_mem.mp hc)
      rw [hk] at h1; cases h1
  exact ⟨h2.1, h2.2.1, fun k j hk => (h2.2.2.1 k j (sub _ _ hS _ hk)).trans (h.2.2.1 k j hk), fun k hk hl => (h2.2.2.2 k (sub _ _ hT k hk) hl).trans (h.2.2.2 k hk hl)⟩
/-- the tokens stay where no row's array is written -/
theorem cTok_of {S T : List Nat} {I J : Nat → Nat → Int} {A B : Nat → Int → Int} (h : cPo S T I A J B) (hA : cTok A) (hT : cRows.all (fun k => !(T.contains (k + 1)) && !(T.contains (k + 2))) = true) : cTok B := by
  intro k hk z
  have h1 := List.all_eq_true.mp hT k (List.contains_iff_mem.mp hk)
  simp only [Bool.and_eq_true, Bool.not_eq_true'] at h1
  have h2 : ck (k + 1) ≠ 9 ∧ ck (k + 2) ≠ 9 := by
    have h3 : k = 1 ∨ k = 8 ∨ k = 14 ∨ k = 18 ∨ k = 22 ∨ k = 26 ∨ k = 30 ∨ k = 34 ∨ k = 39 := by
      have := List.contains_iff_mem.mp hk
      simpa [cRows] using this
    rcases h3 with rfl | rfl | rfl | rfl | rfl | rfl | rfl | rfl | rfl <;> decide
  rw [h.2.2.2 (k + 1) h1.1 h2.1, h.2.2.2 (k + 2) h1.2 h2.2]
  exact hA k hk z
theorem cTok_n {A : Nat → Int → Int} (k : Nat) (g : Int → Int) (hA : cTok A) (hk : cRows.all (fun r => !(r + 1 == k) && !(r + 2 == k)) = true) : cTok (va_up A k g) := by
  intro r hr z
  have h1 := List.all_eq_true.mp hk r (List.contains_iff_mem.mp hr)
  simp only [Bool.and_eq_true, Bool.not_eq_true', beq_eq_false_iff_ne, ne_eq] at h1
  rw [va_up_ne _ _ h1.1, va_up_ne _ _ h1.2]
  exact hA r hr z
/-- kinds and values of one row are written alike -/
theorem cTok_w {A : Nat → Int → Int} (r : Nat) (X Y : Int → Int) (hA : cTok A) (hX : ∀ z, gtok (X z) (Y z)) (hr : cRows.all (fun k => (k == r) || (!(k + 1 == r + 1) && !(k + 2 == r + 2) && !(k + 1 == r + 2) && !(k + 2 == r + 1))) = true) : cTok (va_up (va_up A (r + 1) X) (r + 2) Y) := by
  intro k hk z
  have h1 := List.all_eq_true.mp hr k (List.contains_iff_mem.mp hk)
  simp only [Bool.or_eq_true, Bool.and_eq_true, Bool.not_eq_true', beq_eq_false_iff_ne, ne_eq, beq_iff_eq] at h1
  by_cases e : k = r
  · subst e
    rw [va_up_self, va_up_ne _ _ (show k + 1 ≠ k + 2 by omega), va_up_self]
    exact hX z
  · rcases h1 with h1 | h1
    · exact absurd h1 e
    · rw [va_up_ne _ _ (show k + 1 ≠ r + 2 by omega), va_up_ne _ _ (show k + 1 ≠ r + 1 by omega), va_up_ne _ _ (show k + 2 ≠ r + 2 by omega), va_up_ne _ _ (show k + 2 ≠ r + 1 by omega)]
      exact hA k hk z
theorem jcp_tok {X Y U V : Int → Int} {sp dp n : Int} (h1 : ∀ z, gtok (X z) (Y z)) (h2 : ∀ z, gtok (U z) (V z)) : ∀ z, gtok (jcp X U sp dp n z) (jcp Y V sp dp n z) := by
  intro z
  unfold jcp
  by_cases h : dp ≤ z ∧ z < dp + n
  · rw [if_pos h, if_pos h]; exact h1 _
  · rw [if_neg h, if_neg h]; exact h2 _
theorem ju_tok {U V : Int → Int} {i k v : Int} (h1 : gtok k v) (h2 : ∀ z, gtok (U z) (V z)) : ∀ z, gtok (ju U i k z) (ju V i v z) := by
  intro z
  unfold ju
  by_cases h : z = i
  · rw [if_pos h, if_pos h]; exact h1
  · rw [if_neg h, if_neg h]; exact h2 _
theorem jcp_r {X U : Int → Int} {lo hi sp dp n : Int} (h1 : ∀ z, lo ≤ X z ∧ X z ≤ hi) (h2 : ∀ z, lo ≤ U z ∧ U z ≤ hi) : ∀ z, lo ≤ jcp X U sp dp n z ∧ jcp X U sp dp n z ≤ hi := by
  intro z
  unfold jcp
  by_cases h : dp ≤ z ∧ z < dp + n
  · rw [if_pos h]; exact h1 _
  · rw [if_neg h]; exact h2 _
theorem form_parts : ∀ k, k < 472 → ck k = 5 → ck (k + 1) = 9 ∧ cn (k + 1) = 13 ∧ k + 1 < 472 := by decide +kernel
theorem form_at : ∀ k, k < 472 → ck k = 12 → ∀ n, n < cn k → ck (k + 1 + 2 * n) = 5 ∧ k + 1 + 2 * n < 472 := by decide +kernel
theorem form_ne : ∀ k, k < 472 → ck k = 5 → k + 1 ≠ 7 ∧ k + 1 ≠ 12 ∧ k + 1 ≠ 13 ∧ k + 1 ≠ 375 ∧ k + 1 ≠ 469 := by decide +kernel
/-- an array of long parts, at a place that is not known -/
theorem eLong {k : Nat} (h : k < 472) (h5 : ck k = 5) : eLo (k + 1) = -9223372036854775808 ∧ eHi (k + 1) = 9223372036854775807 := by
  have h1 := (form_parts k h h5).1
  obtain ⟨a, b, c, d, e⟩ := form_ne k h h5
  unfold eLo eHi
  rw [if_neg a, if_neg a, if_neg b, if_neg b, if_neg c, if_neg c, if_neg d, if_neg d, if_neg e, if_neg e, if_pos h1, if_pos h1]
  exact ⟨rfl, rfl⟩
section CNM
variable {K : jK} {pc : Nat} {L : jLs} {st : List Value} {f0 : jF} {sz ce sl b : Nat} {I : Nat → Nat → Int} {A : Nat → Int → Int}
theorem cm_nmA (k : ∀ B : Nat → Int → Int, B = A → jt K pc L st (cmf b f0 I B) sz ce sl) : jt K pc L st (cmf b f0 I A) sz ce sl := k A rfl
end CNM
section WKS
variable {K : jK} {pc : Nat} {L : jLs} {st : List Value} {f : jF} {sz ce sl : Nat} {a b : Int}
theorem jt_topie (k : ∀ y : Int, (-2147483648 ≤ y ∧ y ≤ 2147483647) → y = jNi a → jt K pc L (.int (jI y) :: st) f sz ce sl) : jt K pc L (.int (jI a) :: st) f sz ce sl := by
  have h := k (jNi a) (jNi_r a) rfl
  rw [jNi_e] at h
  exact h
theorem jt_lshrW (hd : decode (yc (kY K)) pc = .ok (.lshr, 1)) (k : ∀ y : Int, (-9223372036854775808 ≤ y ∧ y ≤ 9223372036854775807) → jt K (pc + 1) L (.long (jL y) :: st) f sz ce sl) : jt K pc L (.int (jI b) :: .long (jL a) :: st) f sz ce sl :=
  jt_pu (st' := .long (jL (jL a >>> ((jI b).toInt64 &&& 63)).toInt) :: st) (fun _ _ _ _ _ _ _ _ _ _ _ _ _ _ C _ w => lv_lshr C.1 C.2.1 hd (jL_of _) w) (k _ (jRl_of _))
theorem jt_lshlW (hd : decode (yc (kY K)) pc = .ok (.lshl, 1)) (k : ∀ y : Int, (-9223372036854775808 ≤ y ∧ y ≤ 9223372036854775807) → jt K (pc + 1) L (.long (jL y) :: st) f sz ce sl) : jt K pc L (.int (jI b) :: .long (jL a) :: st) f sz ce sl :=
  jt_pu (st' := .long (jL (jL a <<< ((jI b).toInt64 &&& 63)).toInt) :: st) (fun _ _ _ _ _ _ _ _ _ _ _ _ _ _ C _ w => lv_lshl C.1 C.2.1 hd (jL_of _) w) (k _ (jRl_of _))
theorem jt_lushrW (hd : decode (yc (kY K)) pc = .ok (.lushr, 1)) (k : ∀ y : Int, (-9223372036854775808 ≤ y ∧ y ≤ 9223372036854775807) → jt K (pc + 1) L (.long (jL y) :: st) f sz ce sl) : jt K pc L (.int (jI b) :: .long (jL a) :: st) f sz ce sl :=
  jt_pu (st' := .long (jL (((jL a).toUInt64 >>> ((jI b).toInt64.toUInt64 &&& Int64.toUInt64 63)).toInt64).toInt) :: st) (fun _ _ _ _ _ _ _ _ _ _ _ _ _ _ C _ w => lv_lushr C.1 C.2.1 hd (jL_of _) w) (k _ (jRl_of _))
theorem jt_iandW (hd : decode (yc (kY K)) pc = .ok (.iand, 1)) (k : ∀ y : Int, (-2147483648 ≤ y ∧ y ≤ 2147483647) → jt K (pc + 1) L (.int (jI y) :: st) f sz ce sl) : jt K pc L (.int (jI b) :: .int (jI a) :: st) f sz ce sl :=
  jt_pu (st' := .int (jI (jI a &&& jI b).toInt) :: st) (fun _ _ _ _ _ _ _ _ _ _ _ _ _ _ C _ w => lv_iand C.1 C.2.1 hd (by rw [← jI_of] at w; exact w)) (k _ (jRi_of _))
end WKS

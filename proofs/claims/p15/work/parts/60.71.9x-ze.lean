/-! macros, in the class -/
theorem gH_rd {X Y D U V W : Int → Int} {n j : Int} (h : gH X Y D (xs U V W 0 n)) (hn : n ≤ 700) (j0 : 0 ≤ j) (j1 : j < n) : X j = U j ∧ Y j = V j := by
  obtain ⟨i, rfl⟩ := Int.eq_ofNat_of_zero_le j0
  have hl : i < (xs U V W 0 n).length := by rw [xs_len]; omega
  have hg := List.getElem?_eq_getElem hl
  have h1 := xs_get U V W 0 n i _ hg
  have h2 := h i _ hg (by omega)
  rw [h1.2, Int.zero_add] at h2
  exact ⟨h2.1, h2.2.1⟩
theorem ctn3 {a b c d : Nat} (h1 : a ≠ b) (h2 : a ≠ c) (h3 : a ≠ d) : [b, c, d].contains a = false := by simp [h1, h2, h3]
/-- macro q is made out of the input, with n parameters -/
def mDf (q n : Int) (I : Nat → Nat → Int) (A : Nat → Int → Int) (J : Nat → Nat → Int) (B : Nat → Int → Int) : Prop :=
  B 7 = ju (A 7) q n ∧ ∀ z : Int, 0 ≤ z → z < 6 → (z = q → J (14 + 4 * z.toNat) 3 = I 1 3 ∧ ∀ j, 0 ≤ j → j < I 1 3 → B (15 + 4 * z.toNat) j = A 2 j ∧ B (16 + 4 * z.toNat) j = A 3 j) ∧ (z ≠ q → J (14 + 4 * z.toNat) 3 = I (14 + 4 * z.toNat) 3 ∧ B (15 + 4 * z.toNat) = A (15 + 4 * z.toNat) ∧ B (16 + 4 * z.toNat) = A (16 + 4 * z.toNat))
theorem mDf_I {q n : Int} {I J : Nat → Nat → Int} {A B : Nat → Int → Int} {v : Int} (h : mDf q n I A J B) : mDf q n I A (cu J 1 3 v) B := by
  refine ⟨h.1, fun z z0 z1 => ?_⟩
  have e : (cu J 1 3 v) (14 + 4 * z.toNat) 3 = J (14 + 4 * z.toNat) 3 := by
    unfold cu
    rw [if_neg (by omega)]
  rw [e]
  exact h.2 z z0 z1

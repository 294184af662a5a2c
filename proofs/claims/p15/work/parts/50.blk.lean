/-! THE CONSTRUCTORS: cells k .. k2 - 1 as they stand at the end, the rest as before -/
def I0 : Nat → Nat → Int := fun k j => if k = 0 ∧ j = 9 then -1 else 0
def aV (n1 n2 : Nat) : Nat → Int → Int := fun k z => if k = 7 then (if 0 ≤ z ∧ z < 6 then -1 else 0) else if 47 ≤ k ∧ k < 47 + 2 * n1 ∧ k % 2 = 1 then (if z = (((k - 47) / 2 : Nat) : Int) then 65536 else 0) else if 437 ≤ k ∧ k < 437 + 2 * n2 ∧ k % 2 = 1 then (if z = (((k - 437) / 2 : Nat) : Int) then 65536 else 0) else 0
def blk (b : Nat) (A : Nat → Int → Int) (k k2 : Nat) (f : jF) : jF := fun q => if b + k ≤ q ∧ q < b + k2 then some (cc b I0 A (q - b)) else f q
theorem aV_0 {n1 n2 k : Nat} (h7 : k ≠ 7) (h1 : ¬ (47 ≤ k ∧ k < 47 + 2 * n1 ∧ k % 2 = 1)) (h2 : ¬ (437 ≤ k ∧ k < 437 + 2 * n2 ∧ k % 2 = 1)) : aV n1 n2 k = fun _ => 0 := by
  funext z
  unfold aV
  rw [if_neg h7, if_neg h1, if_neg h2]
theorem blk_in (b : Nat) (A : Nat → Int → Int) (k k2 : Nat) (f : jF) {q : Nat} (h1 : k ≤ q) (h2 : q < k2) : blk b A k k2 f (b + q) = some (cc b I0 A q) := by
  unfold blk
  rw [if_pos ⟨by omega, by omega⟩, show b + q - b = q by omega]
theorem blk_out (b : Nat) (A : Nat → Int → Int) (k k2 : Nat) (f : jF) {q : Nat} (h : q < k ∨ k2 ≤ q) : blk b A k k2 f (b + q) = f (b + q) := by
  unfold blk
  rw [if_neg (by omega)]
theorem blk_1 (b : Nat) (A : Nat → Int → Int) {k m : Nat} (f : jF) {x : va_E} (hx : x = cc b I0 A m) (h : k ≤ m) : va_up (blk b A k m f) (b + m) (some x) = blk b A k (m + 1) f := by
  funext q
  by_cases hq : q = b + m
  · subst hq
    rw [va_up_self, blk_in b A k (m + 1) f h (by omega), hx]
  · rw [va_up_ne _ _ hq]
    unfold blk
    by_cases h2 : b + k ≤ q ∧ q < b + m
    · rw [if_pos h2, if_pos ⟨h2.1, by omega⟩]
    · rw [if_neg h2, if_neg (by omega)]
theorem blk_2 (b : Nat) (A : Nat → Int → Int) {k m m2 : Nat} (f : jF) {x : Option va_E} (h : k ≤ m) (h2 : m < m2) : blk b A m m2 (va_up (blk b A k m f) (b + m) x) = blk b A k m2 f := by
  funext q
  unfold blk
  by_cases h3 : b + m ≤ q ∧ q < b + m2
  · rw [if_pos h3, if_pos ⟨by omega, h3.2⟩]
  · rw [if_neg h3, va_up_ne _ _ (by omega)]
    by_cases h4 : b + k ≤ q ∧ q < b + m
    · rw [if_pos h4, if_pos ⟨h4.1, by omega⟩]
    · rw [if_neg h4, if_neg (by omega)]
/-- a static maker's block behind another -/
theorem blk_5 (b : Nat) (A : Nat → Int → Int) {k m m2 : Nat} (f : jF) (h : k ≤ m) (h2 : m ≤ m2) : blk b A m m2 (blk b A k m f) = blk b A k m2 f := by
  funext q
  unfold blk
  by_cases h3 : b + m ≤ q ∧ q < b + m2
  · rw [if_pos h3, if_pos ⟨by omega, h3.2⟩]
  · rw [if_neg h3]
    by_cases h4 : b + k ≤ q ∧ q < b + m
    · rw [if_pos h4, if_pos ⟨h4.1, by omega⟩]
    · rw [if_neg h4, if_neg (by omega)]
theorem blk_3 (b : Nat) (A : Nat → Int → Int) {k k1 m : Nat} (g : jF) {x y : Option va_E} (h : k < k1) : va_up (blk b A k1 m (va_up g (b + k) x)) (b + k) y = blk b A k1 m (va_up g (b + k) y) := by
  funext q
  by_cases hq : q = b + k
  · subst hq
    rw [va_up_self, blk_out b A k1 m _ (Or.inl h), va_up_self]
  · rw [va_up_ne _ _ hq]
    unfold blk
    by_cases h2 : b + k1 ≤ q ∧ q < b + m
    · rw [if_pos h2, if_pos h2]
    · rw [if_neg h2, if_neg h2, va_up_ne _ _ hq, va_up_ne _ _ hq]
theorem blk_4 (b : Nat) (A : Nat → Int → Int) {k m : Nat} (g : jF) {x : va_E} (hx : x = cc b I0 A k) (h : k < m) : blk b A (k + 1) m (va_up g (b + k) (some x)) = blk b A k m g := by
  funext q
  unfold blk
  by_cases hq : q = b + k
  · subst hq
    rw [if_neg (by omega), va_up_self, if_pos ⟨by omega, by omega⟩, show b + k - b = k by omega, hx]
  · by_cases h2 : b + (k + 1) ≤ q ∧ q < b + m
    · rw [if_pos h2, if_pos ⟨by omega, h2.2⟩]
    · rw [if_neg h2, va_up_ne _ _ hq, if_neg (by omega)]
theorem blk_A (b : Nat) (A A' : Nat → Int → Int) {k m : Nat} (g : jF) (h : ∀ q, k ≤ q → q < m → A q = A' q) : blk b A k m g = blk b A' k m g := by
  funext q
  unfold blk
  by_cases h2 : b + k ≤ q ∧ q < b + m
  · rw [if_pos h2, if_pos h2, cc_A b I0 A' A (q - b) (h _ (by omega) (by omega))]
  · rw [if_neg h2, if_neg h2]
theorem blk_nil (b : Nat) (A : Nat → Int → Int) (k : Nat) (g : jF) : blk b A k k g = g := by
  funext q
  unfold blk
  rw [if_neg (by omega)]
theorem blk_all (b : Nat) (A : Nat → Int → Int) (g : jF) : blk b A 0 472 g = cmf b g I0 A := by
  funext q
  unfold blk cmf
  by_cases h : b ≤ q ∧ q < b + 472
  · rw [if_pos ⟨by omega, h.2⟩, if_pos h]
  · rw [if_neg (by omega), if_neg h]
theorem blk_w (b : Nat) (A : Nat → Int → Int) {q k1 m : Nat} (F : jF) {y : Option va_E} (h : q < k1) : va_up (blk b A k1 m F) (b + q) y = blk b A k1 m (va_up F (b + q) y) := by
  funext p
  by_cases hq : p = b + q
  · subst hq
    rw [va_up_self, blk_out b A k1 m _ (Or.inl h), va_up_self]
  · rw [va_up_ne _ _ hq]
    unfold blk
    by_cases h2 : b + k1 ≤ p ∧ p < b + m
    · rw [if_pos h2, if_pos h2]
    · rw [if_neg h2, if_neg h2, va_up_ne _ _ hq]
theorem blk_u (b : Nat) (A A' : Nat → Int → Int) {q k1 m : Nat} (F : jF) {x : va_E} (h1 : k1 ≤ q) (h2 : q < m) (hx : x = cc b I0 A' q) (ho : ∀ p, p ≠ q → A p = A' p) : va_up (blk b A k1 m F) (b + q) (some x) = blk b A' k1 m F := by
  funext p
  by_cases hq : p = b + q
  · subst hq
    rw [va_up_self, blk_in b A' k1 m F h1 h2, hx]
  · rw [va_up_ne _ _ hq]
    unfold blk
    by_cases h3 : b + k1 ≤ p ∧ p < b + m
    · rw [if_pos h3, if_pos h3, cc_A b I0 A' A (p - b) (ho _ (by omega))]
    · rw [if_neg h3, if_neg h3]
theorem aV_s1 (v n2 p : Nat) (h : p ≠ 47 + 2 * v) : aV v n2 p = aV (v + 1) n2 p := by
  funext z
  unfold aV
  by_cases h7 : p = 7
  · rw [if_pos h7, if_pos h7]
  · rw [if_neg h7, if_neg h7]
    by_cases h1 : 47 ≤ p ∧ p < 47 + 2 * v ∧ p % 2 = 1
    · rw [if_pos h1, if_pos (show 47 ≤ p ∧ p < 47 + 2 * (v + 1) ∧ p % 2 = 1 by omega)]
    · rw [if_neg h1, if_neg (show ¬ (47 ≤ p ∧ p < 47 + 2 * (v + 1) ∧ p % 2 = 1) by omega)]
theorem aV_s2 (n1 v p : Nat) (h : p ≠ 437 + 2 * v) : aV n1 v p = aV n1 (v + 1) p := by
  funext z
  unfold aV
  by_cases h7 : p = 7
  · rw [if_pos h7, if_pos h7]
  · rw [if_neg h7, if_neg h7]
    by_cases h1 : 47 ≤ p ∧ p < 47 + 2 * n1 ∧ p % 2 = 1
    · rw [if_pos h1, if_pos h1]
    · rw [if_neg h1, if_neg h1]
      by_cases h2 : 437 ≤ p ∧ p < 437 + 2 * v ∧ p % 2 = 1
      · rw [if_pos h2, if_pos (show 437 ≤ p ∧ p < 437 + 2 * (v + 1) ∧ p % 2 = 1 by omega)]
      · rw [if_neg h2, if_neg (show ¬ (437 ≤ p ∧ p < 437 + 2 * (v + 1) ∧ p % 2 = 1) by omega)]
theorem aV_e1 (v n2 : Nat) : aV (v + 1) n2 (47 + 2 * v) = fun z => if z = (v : Int) then 65536 else 0 := by
  funext z
  unfold aV
  rw [if_neg (by omega), if_pos (by omega), show (47 + 2 * v - 47) / 2 = v by omega]
theorem aV_e2 (v : Nat) : aV 12 (v + 1) (437 + 2 * v) = fun z => if z = (v : Int) then 65536 else 0 := by
  funext z
  unfold aV
  rw [if_neg (by omega), if_neg (by omega), if_pos (by omega), show (437 + 2 * v - 437) / 2 = v by omega]
theorem aV_far (n1 n2 n3 p : Nat) (h : p < 437) : aV n1 n2 p = aV n1 n3 p := by
  funext z
  unfold aV
  by_cases h7 : p = 7
  · rw [if_pos h7, if_pos h7]
  · rw [if_neg h7, if_neg h7]
    by_cases h1 : 47 ≤ p ∧ p < 47 + 2 * n1 ∧ p % 2 = 1
    · rw [if_pos h1, if_pos h1]
    · rw [if_neg h1, if_neg h1, if_neg (show ¬ (437 ≤ p ∧ p < 437 + 2 * n2 ∧ p % 2 = 1) by omega), if_neg (show ¬ (437 ≤ p ∧ p < 437 + 2 * n3 ∧ p % 2 = 1) by omega)]
abbrev iR (d c s : Nat) : Room := { frames := d, cells := c, slots := s, locals := d * 40 }
section IMM
variable {K : jK} {pc : Nat} {L : jLs} {st : List Value} {f : jF} {sz ce sl : Nat}
theorem jt_fe {f' : jF} {sz' : Nat} (h : f = f') (h2 : sz = sz') (k : jt K pc L st f' sz' ce sl) : jt K pc L st f sz ce sl := by
  subst h; subst h2; exact k
end IMM

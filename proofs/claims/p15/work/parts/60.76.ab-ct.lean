/-! COUNTING the picture's points: how many are black; the least and greatest place across (a = 1) or down -/
def cnN (P : Int → Int) : Nat → Int
  | 0 => 0
  | n + 1 => cnN P n + (if P (n : Int) = 0 then 0 else 1)
def edH (a z : Int) : Int := if a = 1 then z % 32 else z / 32
def edN (a g : Int) (P : Int → Int) : Nat → Int
  | 0 => -2
  | n + 1 => if P (n : Int) = 0 then edN a g P n else if edN a g P n = -2 ∨ (g = 1 ∧ edN a g P n < edH a (n : Int)) ∨ (¬ g = 1 ∧ edH a (n : Int) < edN a g P n) then edH a (n : Int) else edN a g P n
section CTS
variable {P Q : Int → Int} {a g : Int} {n : Nat}
theorem cnN_c (h : ∀ z, 0 ≤ z → z < 768 → P z = Q z) : ∀ n : Nat, n ≤ 768 → cnN P n = cnN Q n
  | 0, _ => rfl
  | n + 1, hn => by
    show cnN P n + (if P (n : Int) = 0 then 0 else 1) = cnN Q n + (if Q (n : Int) = 0 then 0 else 1)
    rw [cnN_c h n (by omega), h (n : Int) (by omega) (by omega)]
theorem edN_c (h : ∀ z, 0 ≤ z → z < 768 → P z = Q z) : ∀ n : Nat, n ≤ 768 → edN a g P n = edN a g Q n
  | 0, _ => rfl
  | n + 1, hn => by
    show (if P (n : Int) = 0 then edN a g P n else if edN a g P n = -2 ∨ (g = 1 ∧ edN a g P n < edH a (n : Int)) ∨ (¬ g = 1 ∧ edH a (n : Int) < edN a g P n) then edH a (n : Int) else edN a g P n) = (if Q (n : Int) = 0 then edN a g Q n else if edN a g Q n = -2 ∨ (g = 1 ∧ edN a g Q n < edH a (n : Int)) ∨ (¬ g = 1 ∧ edH a (n : Int) < edN a g Q n) then edH a (n : Int) else edN a g Q n)
    rw [edN_c h n (by omega), h (n : Int) (by omega) (by omega)]
theorem edH_r (a : Int) {z : Int} (h0 : 0 ≤ z) : 0 ≤ edH a z ∧ edH a z ≤ z := by
  unfold edH
  split <;> omega
theorem edN_r (a g : Int) (P : Int → Int) : ∀ n : Nat, edN a g P n = -2 ∨ (0 ≤ edN a g P n ∧ edN a g P n ≤ (n : Int))
  | 0 => Or.inl rfl
  | n + 1 => by
    have h := edN_r a g P n
    have k := edH_r a (z := (n : Int)) (by omega)
    show (if P (n : Int) = 0 then edN a g P n else if edN a g P n = -2 ∨ (g = 1 ∧ edN a g P n < edH a (n : Int)) ∨ (¬ g = 1 ∧ edH a (n : Int) < edN a g P n) then edH a (n : Int) else edN a g P n) = -2 ∨ (0 ≤ (if P (n : Int) = 0 then edN a g P n else if edN a g P n = -2 ∨ (g = 1 ∧ edN a g P n < edH a (n : Int)) ∨ (¬ g = 1 ∧ edH a (n : Int) < edN a g P n) then edH a (n : Int) else edN a g P n) ∧ (if P (n : Int) = 0 then edN a g P n else if edN a g P n = -2 ∨ (g = 1 ∧ edN a g P n < edH a (n : Int)) ∨ (¬ g = 1 ∧ edH a (n : Int) < edN a g P n) then edH a (n : Int) else edN a g P n) ≤ ((n + 1 : Nat) : Int))
    split
    · omega
    · split
      · omega
      · omega
/-- down, no place is behind the one that is looked at -/
theorem edN_j (g : Int) (P : Int → Int) : ∀ n : Nat, edN 0 g P n ≤ (n : Int) / 32
  | 0 => by show (-2 : Int) ≤ ((0 : Nat) : Int) / 32; decide
  | n + 1 => by
    have h := edN_j g P n
    have e : edH 0 (n : Int) = (n : Int) / 32 := if_neg (by decide)
    show (if P (n : Int) = 0 then edN 0 g P n else if edN 0 g P n = -2 ∨ (g = 1 ∧ edN 0 g P n < edH 0 (n : Int)) ∨ (¬ g = 1 ∧ edH 0 (n : Int) < edN 0 g P n) then edH 0 (n : Int) else edN 0 g P n) ≤ ((n + 1 : Nat) : Int) / 32
    rw [e]
    split
    · omega
    · split
      · omega
      · omega
theorem edN_w (h : P (n : Int) = 0) : edN a g P (n + 1) = edN a g P n := if_pos h
theorem cnN_w (h : P (n : Int) = 0) : cnN P (n + 1) = cnN P n := by
  show cnN P n + (if P (n : Int) = 0 then 0 else 1) = cnN P n
  rw [if_pos h]
  omega
theorem cnN_b (h : ¬ P (n : Int) = 0) : cnN P (n + 1) = cnN P n + 1 := by
  show cnN P n + (if P (n : Int) = 0 then 0 else 1) = cnN P n + 1
  rw [if_neg h]
theorem edN_b (h : ¬ P (n : Int) = 0) : edN a g P (n + 1) = if edN a g P n = -2 ∨ (g = 1 ∧ edN a g P n < edH a (n : Int)) ∨ (¬ g = 1 ∧ edH a (n : Int) < edN a g P n) then edH a (n : Int) else edN a g P n := if_neg h
/-- the four of the reference -/
theorem ed_li {k z : Int} (hk : k = (n : Int)) (h : ¬ P k = 0) (hz : z = edN 1 0 P n) : ((z < 0 ∨ k % 32 < z) → edN 1 0 P (n + 1) = k % 32) ∧ (¬ (z < 0 ∨ k % 32 < z) → edN 1 0 P (n + 1) = z) := by
  subst hk
  have r := edN_r 1 0 P n
  have e : edH 1 (n : Int) = (n : Int) % 32 := if_pos rfl
  rw [edN_b h, e, ← hz]
  rw [← hz] at r
  exact ⟨fun c => if_pos (by omega), fun c => if_neg (by omega)⟩
theorem ed_hi {k z : Int} (hk : k = (n : Int)) (h : ¬ P k = 0) (hz : z = edN 1 1 P n) : (z < k % 32 → edN 1 1 P (n + 1) = k % 32) ∧ (¬ z < k % 32 → edN 1 1 P (n + 1) = z) := by
  subst hk
  have r := edN_r 1 1 P n
  have e : edH 1 (n : Int) = (n : Int) % 32 := if_pos rfl
  rw [edN_b h, e, ← hz]
  rw [← hz] at r
  exact ⟨fun c => if_pos (by omega), fun c => if_neg (by omega)⟩
theorem ed_lj {k z : Int} (hk : k = (n : Int)) (h : ¬ P k = 0) (hz : z = edN 0 0 P n) : (z < 0 → edN 0 0 P (n + 1) = k / 32) ∧ (¬ z < 0 → edN 0 0 P (n + 1) = z) := by
  subst hk
  have r := edN_r 0 0 P n
  have j := edN_j 0 P n
  have e : edH 0 (n : Int) = (n : Int) / 32 := if_neg (by decide)
  rw [edN_b h, e, ← hz]
  rw [← hz] at r j
  exact ⟨fun c => if_pos (by omega), fun c => if_neg (by omega)⟩
theorem ed_hj {k : Int} (hk : k = (n : Int)) (h : ¬ P k = 0) : edN 0 1 P (n + 1) = k / 32 := by
  subst hk
  have r := edN_r 0 1 P n
  have j := edN_j 1 P n
  have e : edH 0 (n : Int) = (n : Int) / 32 := if_neg (by decide)
  rw [edN_b h, e]
  split <;> omega
end CTS
theorem jNi_m (z : Int) : (jNi z - z) % 4294967296 = 0 := by
  have e : jNi z = Int.bmod z 4294967296 := by
    unfold jNi jI
    rw [Int32.toInt_ofInt]
  rw [e, Int.bmod_def]
  split <;> omega
/-- count's answers -/
def ctA (q s : Int) (P : Int → Int) (c d r : Int) (b : Int → Int) : Int :=
  if q = 0 then s else if q = 1 then cnN P 768 else if q = 2 then edN 1 0 P 768 else if q = 3 then edN 1 1 P 768 else if q = 4 then edN 0 0 P 768 else if q = 5 then edN 0 1 P 768 else if q = 6 then c else if q = 7 then d else if q = 8 then r else if 9 ≤ q ∧ q ≤ 14 then b (q - 9) else -1

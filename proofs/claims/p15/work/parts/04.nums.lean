/-! numbers: jI z, jL z for integers z -/
theorem jI_add (a b : Int) : jI a + jI b = jI (a + b) := (Int32.ofInt_add a b).symm
theorem jI_sub (a b : Int) : jI a - jI b = jI (a - b) := (Int32.ofInt_sub a b).symm
theorem jI_mul (a b : Int) : jI a * jI b = jI (a * b) := (Int32.ofInt_mul a b).symm
theorem jI_neg (a : Int) : -jI a = jI (-a) := (Int32.ofInt_neg a).symm
theorem jL_add (a b : Int) : jL a + jL b = jL (a + b) := (Int64.ofInt_add a b).symm
theorem jL_sub (a b : Int) : jL a - jL b = jL (a - b) := (Int64.ofInt_sub a b).symm
theorem jL_mul (a b : Int) : jL a * jL b = jL (a * b) := (Int64.ofInt_mul a b).symm
theorem jL_neg (a : Int) : -jL a = jL (-a) := (Int64.ofInt_neg a).symm
/-- within an int's, a long's range -/
def jRi (z : Int) : Prop := -2147483648 ≤ z ∧ z ≤ 2147483647
def jRl (z : Int) : Prop := -9223372036854775808 ≤ z ∧ z ≤ 9223372036854775807
theorem jI_toInt {z : Int} (h : jRi z) : (jI z).toInt = z := Int32.toInt_ofInt_of_le (by have := h.1; omega) (by have := h.2; omega)
theorem jL_toInt {z : Int} (h : jRl z) : (jL z).toInt = z := Int64.toInt_ofInt_of_le (by have := h.1; omega) (by have := h.2; omega)
theorem jI_of (x : Int32) : x = jI x.toInt := (Int32.ofInt_toInt x).symm
theorem jL_of (x : Int64) : x = jL x.toInt := (Int64.ofInt_toInt x).symm
theorem jRi_of (x : Int32) : jRi x.toInt := ⟨by have := Int32.le_toInt x; omega, by have := Int32.toInt_lt x; omega⟩
theorem jRl_of (x : Int64) : jRl x.toInt := ⟨by have := Int64.le_toInt x; omega, by have := Int64.toInt_lt x; omega⟩
theorem jI_lt {a b : Int} (ha : jRi a) (hb : jRi b) : jI a < jI b ↔ a < b := by rw [Int32.lt_iff_toInt_lt, jI_toInt ha, jI_toInt hb]
theorem jI_le {a b : Int} (ha : jRi a) (hb : jRi b) : jI a ≤ jI b ↔ a ≤ b := by rw [Int32.le_iff_toInt_le, jI_toInt ha, jI_toInt hb]
theorem jI_eq {a b : Int} (ha : jRi a) (hb : jRi b) : jI a = jI b ↔ a = b := ⟨fun h => by rw [← jI_toInt ha, h, jI_toInt hb], fun h => by rw [h]⟩
theorem jL_lt {a b : Int} (ha : jRl a) (hb : jRl b) : jL a < jL b ↔ a < b := by rw [Int64.lt_iff_toInt_lt, jL_toInt ha, jL_toInt hb]
theorem jL_le {a b : Int} (ha : jRl a) (hb : jRl b) : jL a ≤ jL b ↔ a ≤ b := by rw [Int64.le_iff_toInt_le, jL_toInt ha, jL_toInt hb]
theorem jL_eq {a b : Int} (ha : jRl a) (hb : jRl b) : jL a = jL b ↔ a = b := ⟨fun h => by rw [← jL_toInt ha, h, jL_toInt hb], fun h => by rw [h]⟩
theorem jI_0 : (0 : Int32) = jI 0 := by decide
theorem jL_0 : (0 : Int64) = jL 0 := by decide
theorem jRi0 : jRi 0 := by unfold jRi; omega
theorem jRl0 : jRl 0 := by unfold jRl; omega
theorem jI_nat {z : Int} (h : jRi z) : (jI z).toNatClampNeg = z.toNat := by
  show (jI z).toInt.toNat = z.toNat
  rw [jI_toInt h]
theorem jI_in {z : Int} {n : Nat} (h0 : 0 ≤ z) (h1 : z < n) (hn : (n : Int) ≤ 2147483647) : vp_in (jI z) n := by
  rw [vp_in_iff, jI_toInt ⟨by omega, by omega⟩]
  exact ⟨h0, h1⟩
theorem jI_byte {z : Int} (h1 : -128 ≤ z) (h2 : z ≤ 127) : (Int8.ofInt z).toInt32 = jI z := by
  apply Int32.toInt_inj.mp
  rw [Int8.toInt_toInt32, jI_toInt ⟨by omega, by omega⟩, Int8.toInt_ofInt_of_le (by omega) (by omega)]
theorem jI_short {z : Int} (h1 : -32768 ≤ z) (h2 : z ≤ 32767) : (Int16.ofInt z).toInt32 = jI z := by
  apply Int32.toInt_inj.mp
  rw [Int16.toInt_toInt32, jI_toInt ⟨by omega, by omega⟩, Int16.toInt_ofInt_of_le (by omega) (by omega)]
theorem jI_long {z : Int} (h : jRi z) : (jI z).toInt64 = jL z := by
  have h1 := h.1
  have h2 := h.2
  apply Int64.toInt_inj.mp
  rw [Int32.toInt_toInt64, jI_toInt h, jL_toInt ⟨by omega, by omega⟩]
theorem jL_int (z : Int) : (jL z).toInt32 = jI z := Int64.toInt32_ofInt
/-- arrays by functions of integers -/
def jAI (n : Nat) (g : Int → Int) : va_E := .inl (0, n, .inl (fun k => jI (g (k : Int))))
def jAL (n : Nat) (g : Int → Int) : va_E := .inl (1, n, .inr (.inl (fun k => jL (g (k : Int)))))
def jAZ (n : Nat) (g : Int → Int) : va_E := .inl (2, n, .inl (fun k => jI (g (k : Int))))
def jAR (t n : Nat) (g : Int → Option Nat) : va_E := .inl (t, n, .inr (.inr (.inr (.inr (fun k => g (k : Int))))))
def jOb (c : Nat) (fs : List Value) : va_E := .inr (c, fs)
def ju {α : Type} (g : Int → α) (z : Int) (v : α) : Int → α := fun k => if k = z then v else g k
theorem ju_self {α : Type} (g : Int → α) (z : Int) (v : α) : ju g z v z = v := by simp [ju]
theorem ju_ne {α : Type} (g : Int → α) {z k : Int} (v : α) (h : k ≠ z) : ju g z v k = g k := by simp [ju, h]
theorem ju_upd {α β : Type} (F : α → β) (g : Int → α) {z : Int} (h : 0 ≤ z) (v : α) : (fun k : Nat => F (ju g z v (k : Int))) = fun j => if j = z.toNat then F v else F (g (j : Int)) := by
  funext k
  by_cases hk : k = z.toNat
  · have e : (k : Int) = z := by omega
    rw [if_pos hk, e, ju_self]
  · have e : (k : Int) ≠ z := by omega
    rw [if_neg hk, ju_ne _ _ e]

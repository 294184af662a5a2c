/-! bits: how many are set; powers of two -/
theorem ld_split {a b y m : Nat} (ha : a < 256) (hb : b < 256) : (a + 256 * y) &&& (b + 256 * m) = (a &&& b) + 256 * (y &&& m) := by
  have h1 : ((a + 256 * y) &&& (b + 256 * m)) % 256 = a &&& b := by
    show ((a + 256 * y) &&& (b + 256 * m)) % 2 ^ 8 = _
    rw [Nat.and_mod_two_pow]
    show (a + 256 * y) % 256 &&& (b + 256 * m) % 256 = _
    rw [show (a + 256 * y) % 256 = a by omega, show (b + 256 * m) % 256 = b by omega]
  have h2 : ((a + 256 * y) &&& (b + 256 * m)) / 256 = y &&& m := by
    show ((a + 256 * y) &&& (b + 256 * m)) / 2 ^ 8 = _
    rw [Nat.and_div_two_pow]
    show (a + 256 * y) / 256 &&& (b + 256 * m) / 256 = _
    rw [show (a + 256 * y) / 256 = y by omega, show (b + 256 * m) / 256 = m by omega]
  omega
def pA1 (a : Nat) : Nat := a - (a / 2 &&& 85)
def pA2 (a : Nat) : Nat := (a &&& 51) + (a / 4 &&& 51)
def pb (a : Nat) : Nat := (pA2 (pA1 a) + pA2 (pA1 a) / 16) % 16
def bT1 (m x : Nat) : Nat := x - (x / 2 &&& m)
def bT2 (m x : Nat) : Nat := (x &&& m) + (x / 4 &&& m)
def bT3 (m x : Nat) : Nat := (x + x / 16) &&& m
def bW (m5 m3 mf x : Nat) : Nat := bT3 mf (bT2 m3 (bT1 m5 x))
theorem f85 : ∀ a, a < 256 → ∀ b, b < 2 → (a / 2 + 128 * b) &&& 85 = a / 2 &&& 85 := by decide +kernel
theorem f51 : ∀ a, a < 256 → ∀ b, b < 4 → (a / 4 + 64 * b) &&& 51 = a / 4 &&& 51 := by decide +kernel
theorem bT1_s {a y m : Nat} (ha : a < 256) : bT1 (85 + 256 * m) (a + 256 * y) = pA1 a + 256 * bT1 m y := by
  unfold bT1 pA1
  rw [show (a + 256 * y) / 2 = (a / 2 + 128 * (y % 2)) + 256 * (y / 2) by omega, ld_split (by omega) (by omega), f85 a ha (y % 2) (by omega)]
  have g1 : a / 2 &&& 85 ≤ a / 2 := Nat.and_le_left
  have g2 : y / 2 &&& m ≤ y / 2 := Nat.and_le_left
  omega
theorem bT2_s {a y m : Nat} (ha : a < 256) : bT2 (51 + 256 * m) (a + 256 * y) = pA2 a + 256 * bT2 m y := by
  unfold bT2 pA2
  rw [show (a + 256 * y) / 4 = (a / 4 + 64 * (y % 4)) + 256 * (y / 4) by omega, ld_split (by omega) (by omega), ld_split (by omega) (by omega), f51 a ha (y % 4) (by omega)]
  omega
theorem bT2_16 {y m : Nat} (hm : m % 16 ≤ 3) : bT2 m y % 16 ≤ 6 := by
  unfold bT2
  have h1 : (y &&& m) % 16 ≤ m % 16 := by
    show (y &&& m) % 2 ^ 4 ≤ m % 2 ^ 4
    rw [Nat.and_mod_two_pow]
    exact Nat.and_le_right
  have h2 : (y / 4 &&& m) % 16 ≤ m % 16 := by
    show (y / 4 &&& m) % 2 ^ 4 ≤ m % 2 ^ 4
    rw [Nat.and_mod_two_pow]
    exact Nat.and_le_right
  omega
theorem a15 (x : Nat) : x &&& 15 = x % 16 := Nat.and_two_pow_sub_one_eq_mod x 4
theorem bT3_s {a y m : Nat} (ha : a ≤ 102) (hy : y % 16 ≤ 6) : bT3 (15 + 256 * m) (a + 256 * y) = (a + a / 16) % 16 + 256 * bT3 m y := by
  unfold bT3
  rw [show a + 256 * y + (a + 256 * y) / 16 = (a + a / 16 + 16 * (y % 16)) + 256 * (y + y / 16) by omega, ld_split (by omega) (by omega), a15]
  omega
theorem pA2_le (a : Nat) : pA2 a ≤ 102 := by
  unfold pA2
  have h1 : a &&& 51 ≤ 51 := Nat.and_le_right
  have h2 : a / 4 &&& 51 ≤ 51 := Nat.and_le_right
  omega
theorem bW_s {a y m5 m3 mf : Nat} (ha : a < 256) (hm : m3 % 16 ≤ 3) : bW (85 + 256 * m5) (51 + 256 * m3) (15 + 256 * mf) (a + 256 * y) = pb a + 256 * bW m5 m3 mf y := by
  unfold bW pb
  have h1 : pA1 a < 256 := by unfold pA1; omega
  rw [bT1_s ha, bT2_s h1, bT3_s (pA2_le _) (bT2_16 hm)]
theorem bW_0 (m5 m3 mf : Nat) : bW m5 m3 mf 0 = 0 := by
  unfold bW bT1 bT2 bT3
  simp
def bcN (x : Nat) : Nat :=
  let y := bW 6148914691236517205 3689348814741910323 1085102592571150095 x
  (y + y / 256 + (y + y / 256) / 65536 + (y + y / 256 + (y + y / 256) / 65536) / 4294967296) % 128
theorem pb_le : ∀ a, a < 256 → pb a ≤ 8 := by decide +kernel
theorem pb_0 : ∀ a, a < 256 → pb a = 0 → a = 0 := by decide +kernel
theorem pb_1 : ∀ a, a < 256 → pb a = 1 → a = 1 ∨ a = 2 ∨ a = 4 ∨ a = 8 ∨ a = 16 ∨ a = 32 ∨ a = 64 ∨ a = 128 := by decide +kernel
theorem bW_5 {a b c e g : Nat} (ha : a < 256) (hb : b < 256) (hc : c < 256) (he : e < 256) (hg : g < 256) : bW 6148914691236517205 3689348814741910323 1085102592571150095 (a + 256 * (b + 256 * (c + 256 * (e + 256 * (g + 256 * 0))))) = pb a + 256 * (pb b + 256 * (pb c + 256 * (pb e + 256 * (pb g + 256 * 0)))) := by
  have h0 : bW 6148914691236517205 3689348814741910323 1085102592571150095 (a + 256 * (b + 256 * (c + 256 * (e + 256 * (g + 256 * 0))))) = pb a + 256 * bW 24019198012642645 14411518807585587 4238682002231055 (b + 256 * (c + 256 * (e + 256 * (g + 256 * 0)))) := bW_s (m5 := 24019198012642645) (m3 := 14411518807585587) (mf := 4238682002231055) ha (by decide)
  have h1 : bW 24019198012642645 14411518807585587 4238682002231055 (b + 256 * (c + 256 * (e + 256 * (g + 256 * 0)))) = pb b + 256 * bW 93824992236885 56294995342131 16557351571215 (c + 256 * (e + 256 * (g + 256 * 0))) := bW_s (m5 := 93824992236885) (m3 := 56294995342131) (mf := 16557351571215) hb (by decide)
  have h2 : bW 93824992236885 56294995342131 16557351571215 (c + 256 * (e + 256 * (g + 256 * 0))) = pb c + 256 * bW 366503875925 219902325555 64677154575 (e + 256 * (g + 256 * 0)) := bW_s (m5 := 366503875925) (m3 := 219902325555) (mf := 64677154575) hc (by decide)
  have h3 : bW 366503875925 219902325555 64677154575 (e + 256 * (g + 256 * 0)) = pb e + 256 * bW 1431655765 858993459 252645135 (g + 256 * 0) := bW_s (m5 := 1431655765) (m3 := 858993459) (mf := 252645135) he (by decide)
  have h4 : bW 1431655765 858993459 252645135 (g + 256 * 0) = pb g + 256 * bW 5592405 3355443 986895 (0) := bW_s (m5 := 5592405) (m3 := 3355443) (mf := 986895) hg (by decide)
  rw [h0, h1, h2, h3, h4, bW_0]
theorem bcN_e {x : Nat} (hx : x < 1099511627776) : bcN x = pb (x % 256) + pb (x / 256 % 256) + pb (x / 65536 % 256) + pb (x / 16777216 % 256) + pb (x / 4294967296 % 256) := by
  have h0 := pb_le (x % 256) (by omega)
  have h1 := pb_le (x / 256 % 256) (by omega)
  have h2 := pb_le (x / 65536 % 256) (by omega)
  have h3 := pb_le (x / 16777216 % 256) (by omega)
  have h4 := pb_le (x / 4294967296 % 256) (by omega)
  have h5 := bW_5 (a := x % 256) (b := x / 256 % 256) (c := x / 65536 % 256) (e := x / 16777216 % 256) (g := x / 4294967296 % 256) (by omega) (by omega) (by omega) (by omega) (by omega)
  rw [show x % 256 + 256 * (x / 256 % 256 + 256 * (x / 65536 % 256 + 256 * (x / 16777216 % 256 + 256 * (x / 4294967296 % 256 + 256 * 0)))) = x by omega] at h5
  unfold bcN
  simp only [h5]
  generalize pb (x % 256) = p0 at h0 ⊢
  generalize pb (x / 256 % 256) = p1 at h1 ⊢
  generalize pb (x / 65536 % 256) = p2 at h2 ⊢
  generalize pb (x / 16777216 % 256) = p3 at h3 ⊢
  generalize pb (x / 4294967296 % 256) = p4 at h4 ⊢
  clear h5 hx
  obtain ⟨y, hy⟩ : ∃ q : Nat, q = p0 + 256 * (p1 + 256 * (p2 + 256 * (p3 + 256 * (p4 + 256 * 0)))) := ⟨_, rfl⟩
  rw [← hy]
  obtain ⟨y1, g1⟩ : ∃ q : Nat, q = y / 256 := ⟨_, rfl⟩
  rw [← g1]
  have e1 : y1 = p1 + 256 * p2 + 65536 * p3 + 16777216 * p4 := by omega
  obtain ⟨y2, g2⟩ : ∃ q : Nat, q = (y + y1) / 65536 := ⟨_, rfl⟩
  rw [← g2]
  have e2 : y2 = (p2 + p3) + 256 * (p3 + p4) + 65536 * p4 := by omega
  obtain ⟨y3, g3⟩ : ∃ q : Nat, q = (y + y1 + y2) / 4294967296 := ⟨_, rfl⟩
  rw [← g3]
  have e3 : y3 = p4 := by omega
  omega
theorem bcN_p : ∀ k, k < 40 → bcN (2 ^ k) = 1 := by decide +kernel
theorem bcN_1 {x : Nat} (hx : x < 1099511627776) : bcN x = 1 ↔ ∃ k : Nat, x = 2 ^ k := by
  constructor
  · intro h
    rw [bcN_e hx] at h
    have z0 := pb_0 (x % 256) (by omega)
    have z1 := pb_0 (x / 256 % 256) (by omega)
    have z2 := pb_0 (x / 65536 % 256) (by omega)
    have z3 := pb_0 (x / 16777216 % 256) (by omega)
    have z4 := pb_0 (x / 4294967296 % 256) (by omega)
    have o0 := pb_1 (x % 256) (by omega)
    have o1 := pb_1 (x / 256 % 256) (by omega)
    have o2 := pb_1 (x / 65536 % 256) (by omega)
    have o3 := pb_1 (x / 16777216 % 256) (by omega)
    have o4 := pb_1 (x / 4294967296 % 256) (by omega)
    generalize pb (x % 256) = p0 at z0 o0 h
    generalize pb (x / 256 % 256) = p1 at z1 o1 h
    generalize pb (x / 65536 % 256) = p2 at z2 o2 h
    generalize pb (x / 16777216 % 256) = p3 at z3 o3 h
    generalize pb (x / 4294967296 % 256) = p4 at z4 o4 h
    rcases (show p0 = 1 ∨ p1 = 1 ∨ p2 = 1 ∨ p3 = 1 ∨ p4 = 1 by omega) with q | q | q | q | q
    · skip
      have y1 := z1 (by omega)
      have y2 := z2 (by omega)
      have y3 := z3 (by omega)
      have y4 := z4 (by omega)
      have w := o0 q
      clear z0 o0 z1 o1 z2 o2 z3 o3 z4 o4
      rcases w with w | w | w | w | w | w | w | w
      · exact ⟨0, by show x = 1; omega⟩
      · exact ⟨1, by show x = 2; omega⟩
      · exact ⟨2, by show x = 4; omega⟩
      · exact ⟨3, by show x = 8; omega⟩
      · exact ⟨4, by show x = 16; omega⟩
      · exact ⟨5, by show x = 32; omega⟩
      · exact ⟨6, by show x = 64; omega⟩
      · exact ⟨7, by show x = 128; omega⟩
    · skip
      have y0 := z0 (by omega)
      have y2 := z2 (by omega)
      have y3 := z3 (by omega)
      have y4 := z4 (by omega)
      have w := o1 q
      clear z0 o0 z1 o1 z2 o2 z3 o3 z4 o4
      rcases w with w | w | w | w | w | w | w | w
      · exact ⟨8, by show x = 256; omega⟩
      · exact ⟨9, by show x = 512; omega⟩
      · exact ⟨10, by show x = 1024; omega⟩
      · exact ⟨11, by show x = 2048; omega⟩
      · exact ⟨12, by show x = 4096; omega⟩
      · exact ⟨13, by show x = 8192; omega⟩
      · exact ⟨14, by show x = 16384; omega⟩
      · exact ⟨15, by show x = 32768; omega⟩
    · skip
      have y0 := z0 (by omega)
      have y1 := z1 (by omega)
      have y3 := z3 (by omega)
      have y4 := z4 (by omega)
      have w := o2 q
      clear z0 o0 z1 o1 z2 o2 z3 o3 z4 o4
      rcases w with w | w | w | w | w | w | w | w
      · exact ⟨16, by show x = 65536; omega⟩
      · exact ⟨17, by show x = 131072; omega⟩
      · exact ⟨18, by show x = 262144; omega⟩
      · exact ⟨19, by show x = 524288; omega⟩
      · exact ⟨20, by show x = 1048576; omega⟩
      · exact ⟨21, by show x = 2097152; omega⟩
      · exact ⟨22, by show x = 4194304; omega⟩
      · exact ⟨23, by show x = 8388608; omega⟩
    · skip
      have y0 := z0 (by omega)
      have y1 := z1 (by omega)
      have y2 := z2 (by omega)
      have y4 := z4 (by omega)
      have w := o3 q
      clear z0 o0 z1 o1 z2 o2 z3 o3 z4 o4
      rcases w with w | w | w | w | w | w | w | w
      · exact ⟨24, by show x = 16777216; omega⟩
      · exact ⟨25, by show x = 33554432; omega⟩
      · exact ⟨26, by show x = 67108864; omega⟩
      · exact ⟨27, by show x = 134217728; omega⟩
      · exact ⟨28, by show x = 268435456; omega⟩
      · exact ⟨29, by show x = 536870912; omega⟩
      · exact ⟨30, by show x = 1073741824; omega⟩
      · exact ⟨31, by show x = 2147483648; omega⟩
    · skip
      have y0 := z0 (by omega)
      have y1 := z1 (by omega)
      have y2 := z2 (by omega)
      have y3 := z3 (by omega)
      have w := o4 q
      clear z0 o0 z1 o1 z2 o2 z3 o3 z4 o4
      rcases w with w | w | w | w | w | w | w | w
      · exact ⟨32, by show x = 4294967296; omega⟩
      · exact ⟨33, by show x = 8589934592; omega⟩
      · exact ⟨34, by show x = 17179869184; omega⟩
      · exact ⟨35, by show x = 34359738368; omega⟩
      · exact ⟨36, by show x = 68719476736; omega⟩
      · exact ⟨37, by show x = 137438953472; omega⟩
      · exact ⟨38, by show x = 274877906944; omega⟩
      · exact ⟨39, by show x = 549755813888; omega⟩
  · rintro ⟨k, rfl⟩
    by_cases hk : k < 40
    · exact bcN_p k hk
    · exfalso
      have h1 : 2 ^ 40 ≤ 2 ^ k := Nat.pow_le_pow_right (by decide) (by omega)
      have h2 : (2 : Nat) ^ 40 = 1099511627776 := by decide
      omega
/-- the reference's test of a power of two -/
theorem p2_and : ∀ n t : Nat, t < n → t ≠ 0 → t &&& (t - 1) = 0 → ∃ k : Nat, t = 2 ^ k
  | 0, t, h, _, _ => by omega
  | n + 1, t, h, h0, ha => by
    have hd : (t &&& (t - 1)) / 2 = 0 := by rw [ha]
    rw [Nat.and_div_two] at hd
    by_cases e : t % 2 = 0
    · rw [show (t - 1) / 2 = t / 2 - 1 by omega] at hd
      obtain ⟨k, hk⟩ := p2_and n (t / 2) (by omega) (by omega) hd
      refine ⟨k + 1, ?_⟩
      rw [Nat.pow_succ, ← hk]
      omega
    · rw [show (t - 1) / 2 = t / 2 by omega, Nat.and_self] at hd
      exact ⟨0, by show t = 1; omega⟩
theorem p2_and0 (k : Nat) : (2 ^ k) &&& (2 ^ k - 1) = 0 := by rw [Nat.and_two_pow_sub_one_eq_mod, Nat.mod_self]
theorem jL_andN {a c : Nat} (ha : a < 9223372036854775808) : jL (a : Int) &&& jL (c : Int) = jL ((a &&& c % 18446744073709551616 : Nat) : Int) := by
  apply Int64.toBitVec.inj
  rw [Int64.toBitVec_and]
  show BitVec.ofInt 64 (a : Int) &&& BitVec.ofInt 64 (c : Int) = BitVec.ofInt 64 ((a &&& c % 18446744073709551616 : Nat) : Int)
  apply BitVec.eq_of_toNat_eq
  rw [BitVec.toNat_and, BitVec.toNat_ofInt, BitVec.toNat_ofInt, BitVec.toNat_ofInt]
  have h1 : a &&& c % 18446744073709551616 ≤ a := Nat.and_le_left
  rw [show ((a : Int) % ((2 ^ 64 : Nat) : Int)).toNat = a by omega, show ((c : Int) % ((2 ^ 64 : Nat) : Int)).toNat = c % 18446744073709551616 by omega]
  generalize a &&& c % 18446744073709551616 = q at h1 ⊢
  omega
theorem jI_and127 (a : Int) : jI a &&& jI 127 = jI (a % 128) := by
  apply Int32.toBitVec.inj
  rw [Int32.toBitVec_and]
  show BitVec.ofInt 32 a &&& BitVec.ofInt 32 127 = BitVec.ofInt 32 (a % 128)
  apply BitVec.eq_of_toNat_eq
  rw [BitVec.toNat_and, BitVec.toNat_ofInt, BitVec.toNat_ofInt, BitVec.toNat_ofInt]
  rw [show ((127 : Int) % ((2 ^ 32 : Nat) : Int)).toNat = 2 ^ 7 - 1 by decide, Nat.and_two_pow_sub_one_eq_mod]
  omega
theorem jL_ush1 {a : Nat} (ha : a < 9223372036854775808) : ((jL (a : Int)).toUInt64 >>> ((jI 1).toInt64.toUInt64 &&& Int64.toUInt64 63)).toInt64 = jL ((a / 2 : Nat) : Int) := by
  apply Int64.toBitVec.inj
  apply BitVec.eq_of_toNat_eq
  show ((jL (a : Int)).toUInt64 >>> ((jI 1).toInt64.toUInt64 &&& Int64.toUInt64 63)).toNat = (BitVec.ofInt 64 ((a / 2 : Nat) : Int)).toNat
  rw [UInt64.toNat_shiftRight, show ((jI 1).toInt64.toUInt64 &&& Int64.toUInt64 63).toNat % 64 = 1 by decide, Nat.shiftRight_eq_div_pow, BitVec.toNat_ofInt]
  show (BitVec.ofInt 64 (a : Int)).toNat / 2 = _
  rw [BitVec.toNat_ofInt]
  omega
theorem jL_ush2 {a : Nat} (ha : a < 9223372036854775808) : ((jL (a : Int)).toUInt64 >>> ((jI 2).toInt64.toUInt64 &&& Int64.toUInt64 63)).toInt64 = jL ((a / 4 : Nat) : Int) := by
  apply Int64.toBitVec.inj
  apply BitVec.eq_of_toNat_eq
  show ((jL (a : Int)).toUInt64 >>> ((jI 2).toInt64.toUInt64 &&& Int64.toUInt64 63)).toNat = (BitVec.ofInt 64 ((a / 4 : Nat) : Int)).toNat
  rw [UInt64.toNat_shiftRight, show ((jI 2).toInt64.toUInt64 &&& Int64.toUInt64 63).toNat % 64 = 2 by decide, Nat.shiftRight_eq_div_pow, BitVec.toNat_ofInt]
  show (BitVec.ofInt 64 (a : Int)).toNat / 4 = _
  rw [BitVec.toNat_ofInt]
  omega
theorem jL_ush4 {a : Nat} (ha : a < 9223372036854775808) : ((jL (a : Int)).toUInt64 >>> ((jI 4).toInt64.toUInt64 &&& Int64.toUInt64 63)).toInt64 = jL ((a / 16 : Nat) : Int) := by
  apply Int64.toBitVec.inj
  apply BitVec.eq_of_toNat_eq
  show ((jL (a : Int)).toUInt64 >>> ((jI 4).toInt64.toUInt64 &&& Int64.toUInt64 63)).toNat = (BitVec.ofInt 64 ((a / 16 : Nat) : Int)).toNat
  rw [UInt64.toNat_shiftRight, show ((jI 4).toInt64.toUInt64 &&& Int64.toUInt64 63).toNat % 64 = 4 by decide, Nat.shiftRight_eq_div_pow, BitVec.toNat_ofInt]
  show (BitVec.ofInt 64 (a : Int)).toNat / 16 = _
  rw [BitVec.toNat_ofInt]
  omega
theorem jL_ush8 {a : Nat} (ha : a < 9223372036854775808) : ((jL (a : Int)).toUInt64 >>> ((jI 8).toInt64.toUInt64 &&& Int64.toUInt64 63)).toInt64 = jL ((a / 256 : Nat) : Int) := by
  apply Int64.toBitVec.inj
  apply BitVec.eq_of_toNat_eq
  show ((jL (a : Int)).toUInt64 >>> ((jI 8).toInt64.toUInt64 &&& Int64.toUInt64 63)).toNat = (BitVec.ofInt 64 ((a / 256 : Nat) : Int)).toNat
  rw [UInt64.toNat_shiftRight, show ((jI 8).toInt64.toUInt64 &&& Int64.toUInt64 63).toNat % 64 = 8 by decide, Nat.shiftRight_eq_div_pow, BitVec.toNat_ofInt]
  show (BitVec.ofInt 64 (a : Int)).toNat / 256 = _
  rw [BitVec.toNat_ofInt]
  omega
theorem jL_ush16 {a : Nat} (ha : a < 9223372036854775808) : ((jL (a : Int)).toUInt64 >>> ((jI 16).toInt64.toUInt64 &&& Int64.toUInt64 63)).toInt64 = jL ((a / 65536 : Nat) : Int) := by
  apply Int64.toBitVec.inj
  apply BitVec.eq_of_toNat_eq
  show ((jL (a : Int)).toUInt64 >>> ((jI 16).toInt64.toUInt64 &&& Int64.toUInt64 63)).toNat = (BitVec.ofInt 64 ((a / 65536 : Nat) : Int)).toNat
  rw [UInt64.toNat_shiftRight, show ((jI 16).toInt64.toUInt64 &&& Int64.toUInt64 63).toNat % 64 = 16 by decide, Nat.shiftRight_eq_div_pow, BitVec.toNat_ofInt]
  show (BitVec.ofInt 64 (a : Int)).toNat / 65536 = _
  rw [BitVec.toNat_ofInt]
  omega
theorem jL_ush32 {a : Nat} (ha : a < 9223372036854775808) : ((jL (a : Int)).toUInt64 >>> ((jI 32).toInt64.toUInt64 &&& Int64.toUInt64 63)).toInt64 = jL ((a / 4294967296 : Nat) : Int) := by
  apply Int64.toBitVec.inj
  apply BitVec.eq_of_toNat_eq
  show ((jL (a : Int)).toUInt64 >>> ((jI 32).toInt64.toUInt64 &&& Int64.toUInt64 63)).toNat = (BitVec.ofInt 64 ((a / 4294967296 : Nat) : Int)).toNat
  rw [UInt64.toNat_shiftRight, show ((jI 32).toInt64.toUInt64 &&& Int64.toUInt64 63).toNat % 64 = 32 by decide, Nat.shiftRight_eq_div_pow, BitVec.toNat_ofInt]
  show (BitVec.ofInt 64 (a : Int)).toNat / 4294967296 = _
  rw [BitVec.toNat_ofInt]
  omega
section JB
variable {K : jK} {pc : Nat} {L L' : jLs} {r st : List Value} {f : jF} {sz ce sl : Nat} {a b c : Nat}
theorem jt_landN (hd : decode (yc (kY K)) pc = .ok (.land, 1)) (ha : a < 9223372036854775808) (hc : c % 18446744073709551616 = c) (k : jt K (pc + 1) L (.long (jL ((a &&& c : Nat) : Int)) :: st) f sz ce sl) : jt K pc L (.long (jL (c : Int)) :: .long (jL (a : Int)) :: st) f sz ce sl :=
  jt_pu (fun _ _ _ _ _ _ _ _ _ _ _ _ _ _ C _ w => lv_land C.1 C.2.1 hd (by rw [jL_andN ha, hc]; exact w)) k
theorem jt_lsubN (hd : decode (yc (kY K)) pc = .ok (.lsub, 1)) (hb : b ≤ a) (k : jt K (pc + 1) L (.long (jL ((a - b : Nat) : Int)) :: st) f sz ce sl) : jt K pc L (.long (jL (b : Int)) :: .long (jL (a : Int)) :: st) f sz ce sl :=
  jt_lsub hd (by rw [← Int.ofNat_sub hb]; exact k)
theorem jt_laddN (hd : decode (yc (kY K)) pc = .ok (.ladd, 1)) (k : jt K (pc + 1) L (.long (jL ((a + b : Nat) : Int)) :: st) f sz ce sl) : jt K pc L (.long (jL (b : Int)) :: .long (jL (a : Int)) :: st) f sz ce sl :=
  jt_ladd hd (by rw [← Int.natCast_add]; exact k)
theorem jt_iand127 {a : Int} (hd : decode (yc (kY K)) pc = .ok (.iand, 1)) (k : jt K (pc + 1) L (.int (jI (a % 128)) :: st) f sz ce sl) : jt K pc L (.int (jI 127) :: .int (jI a) :: st) f sz ce sl :=
  jt_pu (fun _ _ _ _ _ _ _ _ _ _ _ _ _ _ C _ w => lv_iand C.1 C.2.1 hd (by rw [jI_and127]; exact w)) k
theorem jt_lush1 (hd : decode (yc (kY K)) pc = .ok (.lushr, 1)) (ha : a < 9223372036854775808) (k : jt K (pc + 1) L (.long (jL ((a / 2 : Nat) : Int)) :: st) f sz ce sl) : jt K pc L (.int (jI 1) :: .long (jL (a : Int)) :: st) f sz ce sl :=
  jt_pu (fun _ _ _ _ _ _ _ _ _ _ _ _ _ _ C _ w => lv_lushr C.1 C.2.1 hd (jL_ush1 ha) w) k
theorem jt_lush2 (hd : decode (yc (kY K)) pc = .ok (.lushr, 1)) (ha : a < 9223372036854775808) (k : jt K (pc + 1) L (.long (jL ((a / 4 : Nat) : Int)) :: st) f sz ce sl) : jt K pc L (.int (jI 2) :: .long (jL (a : Int)) :: st) f sz ce sl :=
  jt_pu (fun _ _ _ _ _ _ _ _ _ _ _ _ _ _ C _ w => lv_lushr C.1 C.2.1 hd (jL_ush2 ha) w) k
theorem jt_lush4 (hd : decode (yc (kY K)) pc = .ok (.lushr, 1)) (ha : a < 9223372036854775808) (k : jt K (pc + 1) L (.long (jL ((a / 16 : Nat) : Int)) :: st) f sz ce sl) : jt K pc L (.int (jI 4) :: .long (jL (a : Int)) :: st) f sz ce sl :=
  jt_pu (fun _ _ _ _ _ _ _ _ _ _ _ _ _ _ C _ w => lv_lushr C.1 C.2.1 hd (jL_ush4 ha) w) k
theorem jt_lush8 (hd : decode (yc (kY K)) pc = .ok (.lushr, 1)) (ha : a < 9223372036854775808) (k : jt K (pc + 1) L (.long (jL ((a / 256 : Nat) : Int)) :: st) f sz ce sl) : jt K pc L (.int (jI 8) :: .long (jL (a : Int)) :: st) f sz ce sl :=
  jt_pu (fun _ _ _ _ _ _ _ _ _ _ _ _ _ _ C _ w => lv_lushr C.1 C.2.1 hd (jL_ush8 ha) w) k
theorem jt_lush16 (hd : decode (yc (kY K)) pc = .ok (.lushr, 1)) (ha : a < 9223372036854775808) (k : jt K (pc + 1) L (.long (jL ((a / 65536 : Nat) : Int)) :: st) f sz ce sl) : jt K pc L (.int (jI 16) :: .long (jL (a : Int)) :: st) f sz ce sl :=
  jt_pu (fun _ _ _ _ _ _ _ _ _ _ _ _ _ _ C _ w => lv_lushr C.1 C.2.1 hd (jL_ush16 ha) w) k
theorem jt_lush32 (hd : decode (yc (kY K)) pc = .ok (.lushr, 1)) (ha : a < 9223372036854775808) (k : jt K (pc + 1) L (.long (jL ((a / 4294967296 : Nat) : Int)) :: st) f sz ce sl) : jt K pc L (.int (jI 32) :: .long (jL (a : Int)) :: st) f sz ce sl :=
  jt_pu (fun _ _ _ _ _ _ _ _ _ _ _ _ _ _ C _ w => lv_lushr C.1 C.2.1 hd (jL_ush32 ha) w) k
end JB
set_option maxRecDepth 100000 in
theorem v_Lo_bitCount_x (G : jG) (d b : Nat) (X : Nat) (I : Nat → Nat → Int) (A : Nat → Int → Int) (hx : X < 1099511627776) : cct G Y_Lo_bitCount d b [.long (jL (X : Int))] I A (fun rv I2 A2 => rv = some (.int (jI ((bcN X : Nat) : Int))) ∧ I2 = I ∧ A2 = A) := by
  refine cct_of (by decide) (Nat.le_of_ble_eq_true rfl) (fun f0 sz => ?_)
  show jt _ 0 [(0, .long (jL (X : Int)))] [] _ _ _ _
  refine jt_lload_n d_Lo_bitCount_0 rfl ?_
  refine jt_lload_n d_Lo_bitCount_1 rfl ?_
  refine jt_iconst d_Lo_bitCount_2 ?_
  refine jt_lush1 d_Lo_bitCount_3 (by omega) ?_
  refine jt_ldc2 (z := 6148914691236517205) d_Lo_bitCount_4 Lo_k314 ?_
  refine jt_landN (c := 6148914691236517205) d_Lo_bitCount_7 (by omega) (by decide) ?_
  have u1 : X / 2 &&& 6148914691236517205 ≤ X / 2 := Nat.and_le_left
  refine jt_lsubN d_Lo_bitCount_8 (by omega) ?_
  obtain ⟨x1, e1⟩ : ∃ q : Nat, q = X - (X / 2 &&& 6148914691236517205) := ⟨_, rfl⟩
  rw [← e1]
  have b1 : x1 < 1099511627776 := by omega
  refine jt_lstore_n (L' := [(0, .long (jL (x1 : Int)))]) d_Lo_bitCount_9 (Nat.le_of_ble_eq_true rfl) rfl ?_
  refine jt_lload_n d_Lo_bitCount_10 rfl ?_
  refine jt_ldc2 (z := 3689348814741910323) d_Lo_bitCount_11 Lo_k316 ?_
  refine jt_landN (c := 3689348814741910323) d_Lo_bitCount_14 (by omega) (by decide) ?_
  refine jt_lload_n d_Lo_bitCount_15 rfl ?_
  refine jt_iconst d_Lo_bitCount_16 ?_
  refine jt_lush2 d_Lo_bitCount_17 (by omega) ?_
  refine jt_ldc2 (z := 3689348814741910323) d_Lo_bitCount_18 Lo_k316 ?_
  refine jt_landN (c := 3689348814741910323) d_Lo_bitCount_21 (by omega) (by decide) ?_
  refine jt_laddN d_Lo_bitCount_22 ?_
  have u2 : x1 &&& 3689348814741910323 ≤ x1 := Nat.and_le_left
  have u3 : x1 / 4 &&& 3689348814741910323 ≤ x1 / 4 := Nat.and_le_left
  obtain ⟨x2, e2⟩ : ∃ q : Nat, q = (x1 &&& 3689348814741910323) + (x1 / 4 &&& 3689348814741910323) := ⟨_, rfl⟩
  rw [← e2]
  have b2 : x2 < 2199023255552 := by omega
  refine jt_lstore_n (L' := [(0, .long (jL (x2 : Int)))]) d_Lo_bitCount_23 (Nat.le_of_ble_eq_true rfl) rfl ?_
  refine jt_lload_n d_Lo_bitCount_24 rfl ?_
  refine jt_lload_n d_Lo_bitCount_25 rfl ?_
  refine jt_iconst d_Lo_bitCount_26 ?_
  refine jt_lush4 d_Lo_bitCount_27 (by omega) ?_
  refine jt_laddN d_Lo_bitCount_28 ?_
  refine jt_ldc2 (z := 1085102592571150095) d_Lo_bitCount_29 Lo_k318 ?_
  refine jt_landN (c := 1085102592571150095) d_Lo_bitCount_32 (by omega) (by decide) ?_
  have u4 : x2 + x2 / 16 &&& 1085102592571150095 ≤ x2 + x2 / 16 := Nat.and_le_left
  obtain ⟨x3, e3⟩ : ∃ q : Nat, q = (x2 + x2 / 16) &&& 1085102592571150095 := ⟨_, rfl⟩
  rw [← e3]
  have b3 : x3 < 4398046511104 := by omega
  refine jt_lstore_n (L' := [(0, .long (jL (x3 : Int)))]) d_Lo_bitCount_33 (Nat.le_of_ble_eq_true rfl) rfl ?_
  refine jt_lload_n d_Lo_bitCount_34 rfl ?_
  refine jt_lload_n d_Lo_bitCount_35 rfl ?_
  refine jt_bipush d_Lo_bitCount_36 (by omega) ?_
  refine jt_lush8 d_Lo_bitCount_38 (by omega) ?_
  refine jt_laddN d_Lo_bitCount_39 ?_
  refine jt_lstore_n (L' := [(0, .long (jL ((x3 + x3 / 256 : Nat) : Int)))]) d_Lo_bitCount_40 (Nat.le_of_ble_eq_true rfl) rfl ?_
  refine jt_lload_n d_Lo_bitCount_41 rfl ?_
  refine jt_lload_n d_Lo_bitCount_42 rfl ?_
  refine jt_bipush d_Lo_bitCount_43 (by omega) ?_
  refine jt_lush16 d_Lo_bitCount_45 (by omega) ?_
  refine jt_laddN d_Lo_bitCount_46 ?_
  refine jt_lstore_n (L' := [(0, .long (jL ((x3 + x3 / 256 + (x3 + x3 / 256) / 65536 : Nat) : Int)))]) d_Lo_bitCount_47 (Nat.le_of_ble_eq_true rfl) rfl ?_
  refine jt_lload_n d_Lo_bitCount_48 rfl ?_
  refine jt_lload_n d_Lo_bitCount_49 rfl ?_
  refine jt_bipush d_Lo_bitCount_50 (by omega) ?_
  refine jt_lush32 d_Lo_bitCount_52 (by omega) ?_
  refine jt_laddN d_Lo_bitCount_53 ?_
  refine jt_lstore_n (L' := [(0, .long (jL ((x3 + x3 / 256 + (x3 + x3 / 256) / 65536 + (x3 + x3 / 256 + (x3 + x3 / 256) / 65536) / 4294967296 : Nat) : Int)))]) d_Lo_bitCount_54 (Nat.le_of_ble_eq_true rfl) rfl ?_
  refine jt_lload_n d_Lo_bitCount_55 rfl ?_
  refine jt_l2i d_Lo_bitCount_56 ?_
  refine jt_bipush d_Lo_bitCount_57 (by omega) ?_
  refine jt_iand127 d_Lo_bitCount_59 ?_
  have ef : (((x3 + x3 / 256 + (x3 + x3 / 256) / 65536 + (x3 + x3 / 256 + (x3 + x3 / 256) / 65536) / 4294967296 : Nat) : Int)) % 128 = ((bcN X : Nat) : Int) := by
    have e4 : x3 = bW 6148914691236517205 3689348814741910323 1085102592571150095 X := by rw [e3, e2, e1]; rfl
    unfold bcN
    simp only [← e4]
    omega
  rw [ef]
  exact cm_ret d_Lo_bitCount_60 rfl rfl ⟨rfl, rfl, rfl⟩

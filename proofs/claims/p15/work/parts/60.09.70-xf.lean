/-! FORMS, exactly: masks and shifts, what a Form's methods leave -/
theorem jL_and4 (a : Int) : jL a &&& jL 15 = jL (a % 16) := by
  apply Int64.toBitVec.inj
  rw [Int64.toBitVec_and]
  show BitVec.ofInt 64 a &&& BitVec.ofInt 64 15 = BitVec.ofInt 64 (a % 16)
  apply BitVec.eq_of_toNat_eq
  rw [BitVec.toNat_and, BitVec.toNat_ofInt, BitVec.toNat_ofInt, BitVec.toNat_ofInt]
  rw [show ((15 : Int) % ((2 ^ 64 : Nat) : Int)).toNat = 2 ^ 4 - 1 by decide, Nat.and_two_pow_sub_one_eq_mod]
  omega
theorem jL_and20 (a : Int) : jL a &&& jL 1048575 = jL (a % 1048576) := by
  apply Int64.toBitVec.inj
  rw [Int64.toBitVec_and]
  show BitVec.ofInt 64 a &&& BitVec.ofInt 64 1048575 = BitVec.ofInt 64 (a % 1048576)
  apply BitVec.eq_of_toNat_eq
  rw [BitVec.toNat_and, BitVec.toNat_ofInt, BitVec.toNat_ofInt, BitVec.toNat_ofInt]
  rw [show ((1048575 : Int) % ((2 ^ 64 : Nat) : Int)).toNat = 2 ^ 20 - 1 by decide, Nat.and_two_pow_sub_one_eq_mod]
  omega
theorem jL_shr4 (a : Int) (h : jRl a) : jL a >>> ((jI 4).toInt64 &&& 63) = jL (a / 16) := by
  have h1 := h.1
  have h2 := h.2
  apply Int64.toInt_inj.mp
  rw [jL_toInt (show jRl (a / 16) from ⟨by omega, by omega⟩)]
  show (jL a >>> ((jI 4).toInt64 &&& 63)).toBitVec.toInt = _
  rw [Int64.toBitVec_shiftRight, BitVec.toInt_sshiftRight']
  rw [show ((((jI 4).toInt64 &&& 63).toBitVec).smod 64).toNat = 4 by decide]
  rw [show (jL a).toBitVec.toInt = a from jL_toInt h, Int.shiftRight_eq_div_pow]
  rfl
theorem jL_shr20 (a : Int) (h : jRl a) : jL a >>> ((jI 20).toInt64 &&& 63) = jL (a / 1048576) := by
  have h1 := h.1
  have h2 := h.2
  apply Int64.toInt_inj.mp
  rw [jL_toInt (show jRl (a / 1048576) from ⟨by omega, by omega⟩)]
  show (jL a >>> ((jI 20).toInt64 &&& 63)).toBitVec.toInt = _
  rw [Int64.toBitVec_shiftRight, BitVec.toInt_sshiftRight']
  rw [show ((((jI 20).toInt64 &&& 63).toBitVec).smod 64).toNat = 20 by decide]
  rw [show (jL a).toBitVec.toInt = a from jL_toInt h, Int.shiftRight_eq_div_pow]
  rfl
theorem jL_shl4 (a : Int) : jL a <<< ((jI 4).toInt64 &&& 63) = jL (a * 16) := by
  apply Int64.toBitVec.inj
  rw [Int64.toBitVec_shiftLeft]
  rw [show (((jI 4).toInt64 &&& 63).toBitVec).smod 64 = (4 : BitVec 64) by decide]
  show BitVec.ofInt 64 a <<< (4 : BitVec 64) = BitVec.ofInt 64 (a * 16)
  apply BitVec.eq_of_toNat_eq
  rw [show BitVec.ofInt 64 a <<< (4 : BitVec 64) = BitVec.ofInt 64 a <<< (4 : Nat) from rfl]
  rw [BitVec.toNat_shiftLeft, BitVec.toNat_ofInt, BitVec.toNat_ofInt, Nat.shiftLeft_eq]
  omega
section JX
variable {K : jK} {pc : Nat} {L L' : jLs} {r st : List Value} {f : jF} {sz ce sl : Nat} {a b : Int}
theorem jt_land4 (hd : decode (yc (kY K)) pc = .ok (.land, 1)) (k : jt K (pc + 1) L (.long (jL (a % 16)) :: st) f sz ce sl) : jt K pc L (.long (jL 15) :: .long (jL a) :: st) f sz ce sl :=
  jt_pu (fun _ _ _ _ _ _ _ _ _ _ _ _ _ _ C _ w => lv_land C.1 C.2.1 hd (by rw [jL_and4]; exact w)) k
theorem jt_land20 (hd : decode (yc (kY K)) pc = .ok (.land, 1)) (k : jt K (pc + 1) L (.long (jL (a % 1048576)) :: st) f sz ce sl) : jt K pc L (.long (jL 1048575) :: .long (jL a) :: st) f sz ce sl :=
  jt_pu (fun _ _ _ _ _ _ _ _ _ _ _ _ _ _ C _ w => lv_land C.1 C.2.1 hd (by rw [jL_and20]; exact w)) k
theorem jt_lshr4 (hd : decode (yc (kY K)) pc = .ok (.lshr, 1)) (h : jRl a) (k : jt K (pc + 1) L (.long (jL (a / 16)) :: st) f sz ce sl) : jt K pc L (.int (jI 4) :: .long (jL a) :: st) f sz ce sl :=
  jt_pu (fun _ _ _ _ _ _ _ _ _ _ _ _ _ _ C _ w => lv_lshr C.1 C.2.1 hd (jL_shr4 a h) w) k
theorem jt_lshr20 (hd : decode (yc (kY K)) pc = .ok (.lshr, 1)) (h : jRl a) (k : jt K (pc + 1) L (.long (jL (a / 1048576)) :: st) f sz ce sl) : jt K pc L (.int (jI 20) :: .long (jL a) :: st) f sz ce sl :=
  jt_pu (fun _ _ _ _ _ _ _ _ _ _ _ _ _ _ C _ w => lv_lshr C.1 C.2.1 hd (jL_shr20 a h) w) k
theorem jt_lshl4 (hd : decode (yc (kY K)) pc = .ok (.lshl, 1)) (k : jt K (pc + 1) L (.long (jL (a * 16)) :: st) f sz ce sl) : jt K pc L (.int (jI 4) :: .long (jL a) :: st) f sz ce sl :=
  jt_pu (fun _ _ _ _ _ _ _ _ _ _ _ _ _ _ C _ w => lv_lshl C.1 C.2.1 hd (jL_shl4 a) w) k
end JX
/-- a form has numbers; a form times so many 16ths has numbers; a form between two others has -/
def inr (F : Int → Int) : Prop := ∀ i, 0 ≤ i → i < 13 → gin (F i)
def fM (F : Int → Int) (c : Int) : Prop := ∀ i, 0 ≤ i → i < 13 → (F i * c) % 16 = 0 ∧ gin (F i * c / 16)
def fB (c : Int) (U F : Int → Int) : Prop := ∀ i, 0 ≤ i → i < 13 → ((F i - U i) * c) % 16 = 0 ∧ gin (U i + (F i - U i) * c / 16)
def fZ (F : Int → Int) : Prop := ∀ i, 0 ≤ i → i < 12 → F i = 0
theorem fo_st {B B2 : Nat → Int → Int} {k : Nat} {p v : Int} (e : B2 = va_up B k (ju (B k) p v)) : B2 k p = v ∧ ∀ z, z ≠ p → B2 k z = B k z := by
  subst e
  rw [va_up_self]
  exact ⟨ju_self _ _ _, fun z h => ju_ne _ _ h⟩
theorem ctn1 {a b : Nat} (h : a ≠ b) : [b].contains a = false := by simp [h]
theorem ctn1s {a : Nat} : [a].contains a = true := by simp
theorem mulb {s x C : Int} (h0 : -16000 ≤ s) (h1 : s ≤ 16000) (h2 : -C ≤ x) (h3 : x ≤ C) : -(16000 * C) ≤ s * x ∧ s * x ≤ 16000 * C := by
  have e : (s * x).natAbs ≤ 16000 * C.toNat := by
    rw [Int.natAbs_mul]
    exact Nat.mul_le_mul (by omega) (by omega)
  omega

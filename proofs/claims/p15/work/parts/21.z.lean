/-! masks and shifts of longs -/
theorem jL_and16 (a : Int) : jL a &&& jL 65535 = jL (a % 65536) := by
  apply Int64.toBitVec.inj
  rw [Int64.toBitVec_and]
  show BitVec.ofInt 64 a &&& BitVec.ofInt 64 65535 = BitVec.ofInt 64 (a % 65536)
  apply BitVec.eq_of_toNat_eq
  rw [BitVec.toNat_and, BitVec.toNat_ofInt, BitVec.toNat_ofInt, BitVec.toNat_ofInt]
  rw [show ((65535 : Int) % ((2 ^ 64 : Nat) : Int)).toNat = 2 ^ 16 - 1 by decide, Nat.and_two_pow_sub_one_eq_mod]
  omega
theorem jL_shr16 (a : Int) (h : jRl a) : jL a >>> ((jI 16).toInt64 &&& 63) = jL (a / 65536) := by
  have h1 := h.1
  have h2 := h.2
  apply Int64.toInt_inj.mp
  rw [jL_toInt (show jRl (a / 65536) from ⟨by omega, by omega⟩)]
  show (jL a >>> ((jI 16).toInt64 &&& 63)).toBitVec.toInt = _
  rw [Int64.toBitVec_shiftRight, BitVec.toInt_sshiftRight']
  rw [show ((((jI 16).toInt64 &&& 63).toBitVec).smod 64).toNat = 16 by decide]
  rw [show (jL a).toBitVec.toInt = a from jL_toInt h, Int.shiftRight_eq_div_pow]
  rfl
theorem gtd (p : Int) (c : Int) (hc : 0 < c) : p = p.tmod c + c * p.tdiv c ∧ -c < p.tmod c ∧ p.tmod c < c := by
  have h1 := Int.tmod_def p c
  have h2 := tmod_bounds (a := p) hc
  omega
section JZ
variable {K : jK} {pc : Nat} {L L' : jLs} {r st : List Value} {f : jF} {sz ce sl : Nat} {a b : Int}
theorem jt_land16 (hd : decode (yc (kY K)) pc = .ok (.land, 1)) (k : jt K (pc + 1) L (.long (jL (a % 65536)) :: st) f sz ce sl) : jt K pc L (.long (jL 65535) :: .long (jL a) :: st) f sz ce sl :=
  jt_pu (fun _ _ _ _ _ _ _ _ _ _ _ _ _ _ C _ w => lv_land C.1 C.2.1 hd (by rw [jL_and16]; exact w)) k
theorem jt_lshr16 (hd : decode (yc (kY K)) pc = .ok (.lshr, 1)) (h : jRl a) (k : jt K (pc + 1) L (.long (jL (a / 65536)) :: st) f sz ce sl) : jt K pc L (.int (jI 16) :: .long (jL a) :: st) f sz ce sl :=
  jt_pu (fun _ _ _ _ _ _ _ _ _ _ _ _ _ _ C _ w => lv_lshr C.1 C.2.1 hd (jL_shr16 a h) w) k
end JZ

/-! WEAK CONTRACTS: ranges and frames alone (safety and ending), over the reference's numbers and arrays -/
def jNl (z : Int) : Int := (jL z).toInt
def jNi (z : Int) : Int := (jI z).toInt
theorem jNl_r (z : Int) : -9223372036854775808 ≤ jNl z ∧ jNl z ≤ 9223372036854775807 := jRl_of _
theorem jNi_r (z : Int) : -2147483648 ≤ jNi z ∧ jNi z ≤ 2147483647 := jRi_of _
theorem jNl_e (z : Int) : jL (jNl z) = jL z := (jL_of _).symm
theorem jNi_e (z : Int) : jI (jNi z) = jI z := (jI_of _).symm
theorem jNl_i {z : Int} (h : -9223372036854775808 ≤ z) (h2 : z ≤ 9223372036854775807) : jNl z = z := jL_toInt ⟨h, h2⟩
theorem jNi_i {z : Int} (h : -2147483648 ≤ z) (h2 : z ≤ 2147483647) : jNi z = z := jI_toInt ⟨h, h2⟩
theorem jNl_m (z : Int) : (jNl z - z) % 18446744073709551616 = 0 := by
  have e : jNl z = Int.bmod z 18446744073709551616 := by
    unfold jNl jL
    rw [Int64.toInt_ofInt]
  rw [e, Int.bmod_def]
  split <;> omega
section WKN
variable {K : jK} {pc : Nat} {L L' : jLs} {r st : List Value} {f : jF} {sz ce sl : Nat} {a b : Int}
theorem jt_topln (k : ∀ y : Int, (-9223372036854775808 ≤ y ∧ y ≤ 9223372036854775807) → (y - a) % 18446744073709551616 = 0 → jt K pc L (.long (jL y) :: st) f sz ce sl) : jt K pc L (.long (jL a) :: st) f sz ce sl := by
  have h := k (jNl a) (jNl_r a) (jNl_m a)
  rw [jNl_e] at h
  exact h
theorem jt_topin (k : ∀ y : Int, (-2147483648 ≤ y ∧ y ≤ 2147483647) → (-2147483648 ≤ a → a ≤ 2147483647 → y = a) → jt K pc L (.int (jI y) :: st) f sz ce sl) : jt K pc L (.int (jI a) :: st) f sz ce sl := by
  have h := k (jNi a) (jNi_r a) (fun p q => jNi_i p q)
  rw [jNi_e] at h
  exact h
theorem jt_toplw (k : ∀ y : Int, (-9223372036854775808 ≤ y ∧ y ≤ 9223372036854775807) → jt K pc L (.long (jL y) :: st) f sz ce sl) : jt K pc L (.long (jL a) :: st) f sz ce sl := jt_topln (fun y h _ => k y h)
theorem jt_topiw (k : ∀ y : Int, (-2147483648 ≤ y ∧ y ≤ 2147483647) → jt K pc L (.int (jI y) :: st) f sz ce sl) : jt K pc L (.int (jI a) :: st) f sz ce sl := jt_topin (fun y h _ => k y h)
theorem jt_landW (hd : decode (yc (kY K)) pc = .ok (.land, 1)) (k : ∀ y : Int, (-9223372036854775808 ≤ y ∧ y ≤ 9223372036854775807) → jt K (pc + 1) L (.long (jL y) :: st) f sz ce sl) : jt K pc L (.long (jL b) :: .long (jL a) :: st) f sz ce sl :=
  jt_pu (st' := .long (jL (jL a &&& jL b).toInt) :: st) (fun _ _ _ _ _ _ _ _ _ _ _ _ _ _ C _ w => lv_land C.1 C.2.1 hd (by rw [← jL_of] at w; exact w)) (k _ (jRl_of _))
end WKN
/-- bounds of the numbers and of the arrays' elements -/
def gLo (k : Nat) : Int := ([0, -2147483648, -2147483648, -2147483648, 0, -13, -2147483648, -2147483648, -2147483648, 0, 0, 0, 0, 0, 0, 0] : List Int).getD k (-2147483648)
def gHi (k : Nat) : Int := ([120, 2147483647, 2147483647, 2147483647, 300, 0, 2147483647, 2147483647, 2147483647, 100, 110, 76, 300, 320, 8, 1] : List Int).getD k 2147483647
def aLo (k : Nat) : Int := if k = 44 then 0 else if k = 45 then 0 else if k = 36 then 0 else if k = 38 then -65536000 else if gmk k = 1 then -9223372036854775808 else -2147483648
def aHi (k : Nat) : Int := if k = 44 then 1 else if k = 45 then 1 else if k = 36 then 6 else if k = 38 then 65536000 else if gmk k = 1 then 9223372036854775807 else 2147483647
def gSI (I : Nat → Int) : Prop := ∀ k, gLo k ≤ I k ∧ I k ≤ gHi k
def gSA (A : Nat → Int → Int) : Prop := ∀ k z, aLo k ≤ A k z ∧ A k z ≤ aHi k
def gPo (S T : List Nat) (I : Nat → Int) (A : Nat → Int → Int) (J : Nat → Int) (B : Nat → Int → Int) : Prop := gSI J ∧ gSA B ∧ (∀ k, S.contains k = false → J k = I k) ∧ (∀ k, T.contains k = false → B k = A k)
/-- the row: its length, its tokens -/
def gT (I : Nat → Int) (A : Nat → Int → Int) : Prop := 0 ≤ I 1 ∧ I 1 ≤ 300 ∧ ∀ k, 0 ≤ k → k < I 1 → gtok (A 22 k) (A 23 k)
theorem gPo.refl {S T : List Nat} {I : Nat → Int} {A : Nat → Int → Int} (h : gSI I) (h2 : gSA A) : gPo S T I A I A := ⟨h, h2, fun _ _ => rfl, fun _ _ => rfl⟩
theorem gPo.I {S T : List Nat} {I J : Nat → Int} {A B : Nat → Int → Int} (k : Nat) (v : Int) (h : gPo S T I A J B) (hk : S.contains k = true) (hv : gLo k ≤ v ∧ v ≤ gHi k) : gPo S T I A (va_up J k v) B := by
  refine ⟨fun q => ?_, h.2.1, fun q hq => ?_, h.2.2.2⟩
  · by_cases e : q = k
    · subst e; rw [va_up_self]; exact hv
    · rw [va_up_ne _ _ e]; exact h.1 q
  · rw [va_up_ne _ _ (fun e => by subst e; rw [hk] at hq; cases hq)]
    exact h.2.2.1 q hq
theorem gPo.A {S T : List Nat} {I J : Nat → Int} {A B : Nat → Int → Int} (k : Nat) (g : Int → Int) (h : gPo S T I A J B) (hk : T.contains k = true) (hg : ∀ z, aLo k ≤ g z ∧ g z ≤ aHi k) : gPo S T I A J (va_up B k g) := by
  refine ⟨h.1, fun q z => ?_, h.2.2.1, fun q hq => ?_⟩
  · by_cases e : q = k
    · subst e; rw [va_up_self]; exact hg z
    · rw [va_up_ne _ _ e]; exact h.2.1 q z
  · rw [va_up_ne _ _ (fun e => by subst e; rw [hk] at hq; cases hq)]
    exact h.2.2.2 q hq
theorem gju {g : Int → Int} {lo hi : Int} (h : ∀ z, lo ≤ g z ∧ g z ≤ hi) {i v : Int} (hv : lo ≤ v ∧ v ≤ hi) : ∀ z, lo ≤ ju g i v z ∧ ju g i v z ≤ hi := by
  intro z
  unfold ju
  by_cases e : z = i
  · rw [if_pos e]; exact hv
  · rw [if_neg e]; exact h z
theorem gPo.trans {S T S' T' : List Nat} {I J I2 : Nat → Int} {A B A2 : Nat → Int → Int} (h : gPo S T I A J B) (h2 : gPo S' T' J B I2 A2) (hS : S'.all (fun x => S.contains x) = true) (hT : T'.all (fun x => T.contains x) = true) : gPo S T I A I2 A2 := by
  have sub : ∀ (U V : List Nat), U.all (fun x => V.contains x) = true → ∀ k, V.contains k = false → U.contains k = false := by
    intro U V hUV k hk
    cases hc : U.contains k with
    | false => rfl
    | true =>
      have h1 := List.all_eq_true.mp hUV k (List.contains_iff_mem.mp hc)
      rw [hk] at h1; cases h1
  exact ⟨h2.1, h2.2.1, fun k hk => (h2.2.2.1 k (sub _ _ hS k hk)).trans (h.2.2.1 k hk), fun k hk => (h2.2.2.2 k (sub _ _ hT k hk)).trans (h.2.2.2 k hk)⟩
theorem gT_of {S T : List Nat} {I J : Nat → Int} {A B : Nat → Int → Int} (h : gPo S T I A J B) (hT : gT I A) (h1 : S.contains 1 = false) (h2 : T.contains 22 = false) (h3 : T.contains 23 = false) : gT J B := by
  unfold gT
  rw [h.2.2.1 1 h1, h.2.2.2 22 h2, h.2.2.2 23 h3]
  exact hT
theorem gP_of {J : Nat → Int} {B : Nat → Int → Int} (hJ : gSI J) (hT : gT J B) : gP J B := by
  have h4 : (0 : Int) ≤ J 4 ∧ J 4 ≤ 300 := hJ 4
  exact ⟨⟨hT.1, by have := hT.2.1; omega, hT.2.2⟩, by omega, by omega⟩
theorem jct_mono {G : jG} {Y : jY} {R : Room} {av : List Value} {f : jF} {sz : Nat} {Qp Rp : Option Value → jF → Nat → Prop} (h : jct G Y R av f sz Qp) (hq : ∀ rv f' s', Qp rv f' s' → Rp rv f' s') : jct G Y R av f sz Rp := by
  intro p e a1 a2 a3 s m args below b1 b2 b3 b4
  obtain ⟨n, o, h1, h2, h3, ⟨rv, f', s', e1, q, e2, e3, e4⟩, h5⟩ := h p e a1 a2 a3 s m args below b1 b2 b3 b4
  exact ⟨n, o, h1, h2, h3, ⟨rv, f', s', e1, hq _ _ _ q, e2, e3, e4⟩, h5⟩
/-- contracts: other ends, other contents that stand for the same cells -/
def gNm (A : Nat → Int → Int) : Nat → Int → Int := fun k => if gmk k = 1 then fun z => jNl (A k z) else if gmk k = 0 then fun z => jNi (A k z) else A k
theorem jAL_n (n : Nat) (g : Int → Int) : jAL n (fun z => jNl (g z)) = jAL n g := by
  unfold jAL
  simp only [jNl_e]
theorem jAI_n (n : Nat) (g : Int → Int) : jAI n (fun z => jNi (g z)) = jAI n g := by
  unfold jAI
  simp only [jNi_e]
theorem gmc_n (k : Nat) (A : Nat → Int → Int) : gmc k (gNm A k) = gmc k (A k) := by
  unfold gNm
  by_cases h : gmk k = 1
  · rw [if_pos h, gmc_1 _ h rfl, gmc_1 _ h rfl, jAL_n]
  · by_cases h0 : gmk k = 0
    · rw [if_neg h, if_pos h0, gmc_0 _ h0 rfl, gmc_0 _ h0 rfl, jAI_n]
    · rw [if_neg h, if_neg h0]
theorem gmf_n (m : Nat) (f0 : jF) (I : Nat → Int) (A : Nat → Int → Int) : gmf m f0 I (gNm A) = gmf m f0 I A := by
  funext q
  unfold gmf
  rw [gmc_n]
theorem gct_mono {G : jG} {Y : jY} {d m : Nat} {av : List Value} {I : Nat → Int} {A : Nat → Int → Int} {Q R : Option Value → (Nat → Int) → (Nat → Int → Int) → Prop} (h : gct G Y d m av I A Q) (hq : ∀ rv J B, Q rv J B → R rv J B ∨ R rv J (gNm B)) : gct G Y d m av I A R := by
  intro f0 sz
  refine jct_mono (h f0 sz) (fun rv f' sz' hh => ?_)
  obtain ⟨J, B, e1, e2, q⟩ := hh
  rcases hq rv J B q with r | r
  · exact ⟨J, B, e1, e2, r⟩
  · exact ⟨J, gNm B, e1.trans (gmf_n m f0 J B).symm, e2, r⟩

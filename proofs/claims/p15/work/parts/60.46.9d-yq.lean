/-! THE REFERENCE's equations: bits, quotients, sums -/
theorem jL_andP {a b : Int} (ha : 0 ≤ a ∧ a ≤ 9223372036854775807) (hb : 0 ≤ b ∧ b ≤ 9223372036854775807) : jL a &&& jL b = jL ((a.toNat &&& b.toNat : Nat) : Int) := by
  have h := jL_andN (a := a.toNat) (c := b.toNat) (by omega)
  rw [show ((a.toNat : Nat) : Int) = a by omega, show ((b.toNat : Nat) : Int) = b by omega, Nat.mod_eq_of_lt (show b.toNat < 18446744073709551616 by omega)] at h
  exact h
theorem jt_landP {K : jK} {pc : Nat} {L : jLs} {st : List Value} {f : jF} {sz ce sl : Nat} {a b : Int} (hd : decode (yc (kY K)) pc = .ok (.land, 1)) (ha : 0 ≤ a ∧ a ≤ 9223372036854775807) (hb : 0 ≤ b ∧ b ≤ 9223372036854775807) (k : ∀ y : Int, (0 ≤ y ∧ y ≤ 9223372036854775807) → y = ((a.toNat &&& b.toNat : Nat) : Int) → jt K (pc + 1) L (.long (jL y) :: st) f sz ce sl) : jt K pc L (.long (jL b) :: .long (jL a) :: st) f sz ce sl :=
  jt_pu (fun _ _ _ _ _ _ _ _ _ _ _ _ _ _ C _ w => lv_land C.1 C.2.1 hd (by rw [jL_andP ha hb]; exact w)) (k _ (by have h1 : a.toNat &&& b.toNat ≤ a.toNat := Nat.and_le_left; omega) rfl)
theorem p2_iff {t : Int} (h : 0 < t) : (((t.toNat &&& (t - 1).toNat : Nat) : Int) = 0) ↔ ∃ k : Nat, t.natAbs = 2 ^ k := by
  have e1 : (t - 1).toNat = t.toNat - 1 := by omega
  have e2 : t.natAbs = t.toNat := by omega
  rw [e1, e2]
  constructor
  · intro z
    exact p2_and (t.toNat + 1) t.toNat (by omega) (by omega) (by omega)
  · rintro ⟨k, hk⟩
    rw [hk, p2_and0]
    rfl
theorem ov_s {f : Int} (h : pw f) : (f.natAbs ≤ 65536 → ∃ b m : Int, 0 < b ∧ b ≤ 65536 ∧ 0 < m ∧ m ≤ 68719476736 ∧ (f.natAbs : Int) * b = 65536 ∧ m * b = 68719476736 ∧ Int.tdiv 65536 (f.natAbs : Int) = b ∧ Int.tdiv 68719476736 b = m ∧ Int.tdiv (-68719476736) b = -m) ∧ (65536 < f.natAbs → ∃ b : Int, 0 < b ∧ b ≤ 1048576 ∧ (f.natAbs : Int) = b * 65536 ∧ Int.tdiv (f.natAbs : Int) 65536 = b) := by
  obtain ⟨h1, h2, k, hk⟩ := h
  have hk36 : k ≤ 36 := by
    by_cases c : k ≤ 36
    · exact c
    · exfalso
      have h3 : 2 ^ 37 ≤ 2 ^ k := Nat.pow_le_pow_right (by decide) (by omega)
      have h4 : (2 : Nat) ^ 37 = 137438953472 := by decide
      omega
  rcases (show k = 0 ∨ k = 1 ∨ k = 2 ∨ k = 3 ∨ k = 4 ∨ k = 5 ∨ k = 6 ∨ k = 7 ∨ k = 8 ∨ k = 9 ∨ k = 10 ∨ k = 11 ∨ k = 12 ∨ k = 13 ∨ k = 14 ∨ k = 15 ∨ k = 16 ∨ k = 17 ∨ k = 18 ∨ k = 19 ∨ k = 20 ∨ k = 21 ∨ k = 22 ∨ k = 23 ∨ k = 24 ∨ k = 25 ∨ k = 26 ∨ k = 27 ∨ k = 28 ∨ k = 29 ∨ k = 30 ∨ k = 31 ∨ k = 32 ∨ k = 33 ∨ k = 34 ∨ k = 35 ∨ k = 36 by omega) with rfl | rfl | rfl | rfl | rfl | rfl | rfl | rfl | rfl | rfl | rfl | rfl | rfl | rfl | rfl | rfl | rfl | rfl | rfl | rfl | rfl | rfl | rfl | rfl | rfl | rfl | rfl | rfl | rfl | rfl | rfl | rfl | rfl | rfl | rfl | rfl | rfl
  · rw [show f.natAbs = 1 from hk]; exact ⟨fun _ => ⟨65536, 1048576, by decide, by decide, by decide, by decide, by decide, by decide, by decide, by decide, by decide⟩, fun z => absurd z (by decide)⟩
  · rw [show f.natAbs = 2 from hk]; exact ⟨fun _ => ⟨32768, 2097152, by decide, by decide, by decide, by decide, by decide, by decide, by decide, by decide, by decide⟩, fun z => absurd z (by decide)⟩
  · rw [show f.natAbs = 4 from hk]; exact ⟨fun _ => ⟨16384, 4194304, by decide, by decide, by decide, by decide, by decide, by decide, by decide, by decide, by decide⟩, fun z => absurd z (by decide)⟩
  · rw [show f.natAbs = 8 from hk]; exact ⟨fun _ => ⟨8192, 8388608, by decide, by decide, by decide, by decide, by decide, by decide, by decide, by decide, by decide⟩, fun z => absurd z (by decide)⟩
  · rw [show f.natAbs = 16 from hk]; exact ⟨fun _ => ⟨4096, 16777216, by decide, by decide, by decide, by decide, by decide, by decide, by decide, by decide, by decide⟩, fun z => absurd z (by decide)⟩
  · rw [show f.natAbs = 32 from hk]; exact ⟨fun _ => ⟨2048, 33554432, by decide, by decide, by decide, by decide, by decide, by decide, by decide, by decide, by decide⟩, fun z => absurd z (by decide)⟩
  · rw [show f.natAbs = 64 from hk]; exact ⟨fun _ => ⟨1024, 67108864, by decide, by decide, by decide, by decide, by decide, by decide, by decide, by decide, by decide⟩, fun z => absurd z (by decide)⟩
  · rw [show f.natAbs = 128 from hk]; exact ⟨fun _ => ⟨512, 134217728, by decide, by decide, by decide, by decide, by decide, by decide, by decide, by decide, by decide⟩, fun z => absurd z (by decide)⟩
  · rw [show f.natAbs = 256 from hk]; exact ⟨fun _ => ⟨256, 268435456, by decide, by decide, by decide, by decide, by decide, by decide, by decide, by decide, by decide⟩, fun z => absurd z (by decide)⟩
  · rw [show f.natAbs = 512 from hk]; exact ⟨fun _ => ⟨128, 536870912, by decide, by decide, by decide, by decide, by decide, by decide, by decide, by decide, by decide⟩, fun z => absurd z (by decide)⟩
  · rw [show f.natAbs = 1024 from hk]; exact ⟨fun _ => ⟨64, 1073741824, by decide, by decide, by decide, by decide, by decide, by decide, by decide, by decide, by decide⟩, fun z => absurd z (by decide)⟩
  · rw [show f.natAbs = 2048 from hk]; exact ⟨fun _ => ⟨32, 2147483648, by decide, by decide, by decide, by decide, by decide, by decide, by decide, by decide, by decide⟩, fun z => absurd z (by decide)⟩
  · rw [show f.natAbs = 4096 from hk]; exact ⟨fun _ => ⟨16, 4294967296, by decide, by decide, by decide, by decide, by decide, by decide, by decide, by decide, by decide⟩, fun z => absurd z (by decide)⟩
  · rw [show f.natAbs = 8192 from hk]; exact ⟨fun _ => ⟨8, 8589934592, by decide, by decide, by decide, by decide, by decide, by decide, by decide, by decide, by decide⟩, fun z => absurd z (by decide)⟩
  · rw [show f.natAbs = 16384 from hk]; exact ⟨fun _ => ⟨4, 17179869184, by decide, by decide, by decide, by decide, by decide, by decide, by decide, by decide, by decide⟩, fun z => absurd z (by decide)⟩
  · rw [show f.natAbs = 32768 from hk]; exact ⟨fun _ => ⟨2, 34359738368, by decide, by decide, by decide, by decide, by decide, by decide, by decide, by decide, by decide⟩, fun z => absurd z (by decide)⟩
  · rw [show f.natAbs = 65536 from hk]; exact ⟨fun _ => ⟨1, 68719476736, by decide, by decide, by decide, by decide, by decide, by decide, by decide, by decide, by decide⟩, fun z => absurd z (by decide)⟩
  · rw [show f.natAbs = 131072 from hk]; exact ⟨fun z => absurd z (by decide), fun _ => ⟨2, by decide, by decide, by decide, by decide⟩⟩
  · rw [show f.natAbs = 262144 from hk]; exact ⟨fun z => absurd z (by decide), fun _ => ⟨4, by decide, by decide, by decide, by decide⟩⟩
  · rw [show f.natAbs = 524288 from hk]; exact ⟨fun z => absurd z (by decide), fun _ => ⟨8, by decide, by decide, by decide, by decide⟩⟩
  · rw [show f.natAbs = 1048576 from hk]; exact ⟨fun z => absurd z (by decide), fun _ => ⟨16, by decide, by decide, by decide, by decide⟩⟩
  · rw [show f.natAbs = 2097152 from hk]; exact ⟨fun z => absurd z (by decide), fun _ => ⟨32, by decide, by decide, by decide, by decide⟩⟩
  · rw [show f.natAbs = 4194304 from hk]; exact ⟨fun z => absurd z (by decide), fun _ => ⟨64, by decide, by decide, by decide, by decide⟩⟩
  · rw [show f.natAbs = 8388608 from hk]; exact ⟨fun z => absurd z (by decide), fun _ => ⟨128, by decide, by decide, by decide, by decide⟩⟩
  · rw [show f.natAbs = 16777216 from hk]; exact ⟨fun z => absurd z (by decide), fun _ => ⟨256, by decide, by decide, by decide, by decide⟩⟩
  · rw [show f.natAbs = 33554432 from hk]; exact ⟨fun z => absurd z (by decide), fun _ => ⟨512, by decide, by decide, by decide, by decide⟩⟩
  · rw [show f.natAbs = 67108864 from hk]; exact ⟨fun z => absurd z (by decide), fun _ => ⟨1024, by decide, by decide, by decide, by decide⟩⟩
  · rw [show f.natAbs = 134217728 from hk]; exact ⟨fun z => absurd z (by decide), fun _ => ⟨2048, by decide, by decide, by decide, by decide⟩⟩
  · rw [show f.natAbs = 268435456 from hk]; exact ⟨fun z => absurd z (by decide), fun _ => ⟨4096, by decide, by decide, by decide, by decide⟩⟩
  · rw [show f.natAbs = 536870912 from hk]; exact ⟨fun z => absurd z (by decide), fun _ => ⟨8192, by decide, by decide, by decide, by decide⟩⟩
  · rw [show f.natAbs = 1073741824 from hk]; exact ⟨fun z => absurd z (by decide), fun _ => ⟨16384, by decide, by decide, by decide, by decide⟩⟩
  · rw [show f.natAbs = 2147483648 from hk]; exact ⟨fun z => absurd z (by decide), fun _ => ⟨32768, by decide, by decide, by decide, by decide⟩⟩
  · rw [show f.natAbs = 4294967296 from hk]; exact ⟨fun z => absurd z (by decide), fun _ => ⟨65536, by decide, by decide, by decide, by decide⟩⟩
  · rw [show f.natAbs = 8589934592 from hk]; exact ⟨fun z => absurd z (by decide), fun _ => ⟨131072, by decide, by decide, by decide, by decide⟩⟩
  · rw [show f.natAbs = 17179869184 from hk]; exact ⟨fun z => absurd z (by decide), fun _ => ⟨262144, by decide, by decide, by decide, by decide⟩⟩
  · rw [show f.natAbs = 34359738368 from hk]; exact ⟨fun z => absurd z (by decide), fun _ => ⟨524288, by decide, by decide, by decide, by decide⟩⟩
  · rw [show f.natAbs = 68719476736 from hk]; exact ⟨fun z => absurd z (by decide), fun _ => ⟨1048576, by decide, by decide, by decide, by decide⟩⟩
theorem ov_rs {x f s v r : Int} (hs : (f < 0 ∧ s = -f ∧ v = -x) ∨ (0 ≤ f ∧ s = f ∧ v = x)) (h : r * f = x * 65536) : r * s = v * 65536 := by
  rcases hs with ⟨_, h1, h2⟩ | ⟨_, h1, h2⟩
  · rw [h1, h2, Int.mul_neg, h]; omega
  · rw [h1, h2, h]
theorem ov_sr {x f s v r : Int} (hs : (f < 0 ∧ s = -f ∧ v = -x) ∨ (0 ≤ f ∧ s = f ∧ v = x)) (h : r * s = v * 65536) : r * f = x * 65536 := by
  rcases hs with ⟨_, h1, h2⟩ | ⟨_, h1, h2⟩
  · rw [show f = -s by omega, Int.mul_neg, h, h2]; omega
  · rw [← h1, h, h2]
theorem ov_in {x f s v b m : Int} (hs : (f < 0 ∧ s = -f ∧ v = -x) ∨ (0 ≤ f ∧ s = f ∧ v = x)) (b0 : 0 < b) (hb : s * b = 65536) (hm : m * b = 68719476736) : (-m ≤ v ∧ v ≤ m → v * b * f = x * 65536 ∧ gin (v * b)) ∧ (¬ (-m ≤ v ∧ v ≤ m) → ¬ ∃ r : Int, gin r ∧ r * f = x * 65536) := by
  have e1 : v * b * s = v * 65536 := by rw [Int.mul_assoc, Int.mul_comm b s, hb]
  have s0 : s ≠ 0 := by
    intro z
    rw [z, Int.zero_mul] at hb
    exact absurd hb (by decide)
  constructor
  · rintro ⟨l, u⟩
    have p1 : v * b ≤ m * b := Int.mul_le_mul_of_nonneg_right u (by omega)
    have p2 : -m * b ≤ v * b := Int.mul_le_mul_of_nonneg_right l (by omega)
    rw [Int.neg_mul, hm] at p2
    rw [hm] at p1
    exact ⟨ov_sr hs e1, by show -68719476736 ≤ v * b ∧ v * b ≤ 68719476736; exact ⟨p2, p1⟩⟩
  · rintro hn ⟨r, hr, h⟩
    have h2 := ov_rs hs h
    have h3 : r = v * b := Int.eq_of_mul_eq_mul_right s0 (h2.trans e1.symm)
    rw [h3] at hr
    have hr1 : -68719476736 ≤ v * b := hr.1
    have hr2 : v * b ≤ 68719476736 := hr.2
    apply hn
    constructor
    · by_cases c : -m ≤ v
      · exact c
      · exfalso
        have p : v * b ≤ (-m - 1) * b := Int.mul_le_mul_of_nonneg_right (by omega) (by omega)
        rw [Int.sub_mul, Int.neg_mul, hm, Int.one_mul] at p
        omega
    · by_cases c : v ≤ m
      · exact c
      · exfalso
        have p : (m + 1) * b ≤ v * b := Int.mul_le_mul_of_nonneg_right (by omega) (by omega)
        rw [Int.add_mul, hm, Int.one_mul] at p
        omega
theorem ov_big {x f s v b : Int} (hs : (f < 0 ∧ s = -f ∧ v = -x) ∨ (0 ≤ f ∧ s = f ∧ v = x)) (b0 : 0 < b) (hb : s = b * 65536) : (v.tmod b = 0 → v.tdiv b * f = x * 65536) ∧ (∀ r : Int, r * f = x * 65536 → v.tmod b = 0 ∧ v.tdiv b = r) := by
  constructor
  · intro z
    refine ov_sr hs ?_
    rw [hb, ← Int.mul_assoc, ss_q z]
  · intro r h
    have h2 := ov_rs hs h
    rw [hb, ← Int.mul_assoc] at h2
    have h3 : r * b = v := Int.eq_of_mul_eq_mul_right (by decide) h2
    exact ss_r (by omega) h3
theorem dm_split (f x : Int) : f / 65536 * x * 65536 + f % 65536 * x = f * x := by
  have e : f = f / 65536 * 65536 + f % 65536 := by omega
  generalize f / 65536 = q at e ⊢
  generalize f % 65536 = r at e ⊢
  rw [e, Int.add_mul, Int.mul_right_comm]
theorem sm_b {f : Int → Int} {C : Int} : ∀ n : Nat, (∀ u : Int, 0 ≤ u → u < n → -C ≤ f u ∧ f u ≤ C) → -(C * (n : Int)) ≤ sm f n ∧ sm f n ≤ C * (n : Int)
  | 0, _ => by
    show -(C * ((0 : Nat) : Int)) ≤ 0 ∧ 0 ≤ C * ((0 : Nat) : Int)
    omega
  | n + 1, h => by
    have ih := sm_b n (fun u a c => h u a (by omega))
    have h1 := h n (by omega) (by omega)
    show -(C * ((n + 1 : Nat) : Int)) ≤ sm f n + f n ∧ sm f n + f n ≤ C * ((n + 1 : Nat) : Int)
    rw [show ((n + 1 : Nat) : Int) = (n : Int) + 1 by omega, Int.mul_add, Int.mul_one]
    omega
def rW (s F : Int → Int) (V : Int → Int → Int) (j v : Int) : Int := sm (fun u => if s u = 0 then 0 else F u / 65536 * V u j) v.toNat
def rP (s F : Int → Int) (V : Int → Int → Int) (j v : Int) : Int := sm (fun u => if s u = 0 then 0 else F u % 65536 * V u j) v.toNat
def fr (s F : Int → Int) (v i : Int) : Int := if i < v ∧ s i ≠ 0 then 0 else F i
section RFS
variable {s F : Int → Int} {V : Int → Int → Int} {j v i : Int}
theorem rW_s (h : 0 ≤ v) : rW s F V j (v + 1) = rW s F V j v + if s v = 0 then 0 else F v / 65536 * V v j := by
  unfold rW
  obtain ⟨n, rfl⟩ := Int.eq_ofNat_of_zero_le h
  rw [show ((n : Int) + 1).toNat = n + 1 by omega, show ((n : Int)).toNat = n by omega]
  rfl
theorem rP_s (h : 0 ≤ v) : rP s F V j (v + 1) = rP s F V j v + if s v = 0 then 0 else F v % 65536 * V v j := by
  unfold rP
  obtain ⟨n, rfl⟩ := Int.eq_ofNat_of_zero_le h
  rw [show ((n : Int) + 1).toNat = n + 1 by omega, show ((n : Int)).toNat = n by omega]
  rfl
theorem rW_b (hF : inr F) (hV : ∀ v, 0 ≤ v → v < 12 → inr (V v)) (h0 : 0 ≤ v) (h1 : v ≤ 12) (j0 : 0 ≤ j) (j1 : j < 13) : -864691128455135232 ≤ rW s F V j v ∧ rW s F V j v ≤ 864691128455135232 := by
  unfold rW
  have h := sm_b (f := fun u => if s u = 0 then 0 else F u / 65536 * V u j) (C := 72057594037927936) v.toNat (fun u u0 u1 => by
    by_cases c : s u = 0
    · rw [if_pos c]; omega
    · rw [if_neg c]
      have a := hF u u0 (by omega)
      have b := hV u u0 (by omega) j j0 j1
      exact mulB (s := F u / 65536) (x := V u j) 1048576 68719476736 (by omega) (by omega) (by omega) (by omega))
  omega
theorem rP_b (hF : inr F) (hV : ∀ v, 0 ≤ v → v < 12 → inr (V v)) (h0 : 0 ≤ v) (h1 : v ≤ 12) (j0 : 0 ≤ j) (j1 : j < 13) : -864691128455135232 ≤ rP s F V j v ∧ rP s F V j v ≤ 864691128455135232 := by
  unfold rP
  have h := sm_b (f := fun u => if s u = 0 then 0 else F u % 65536 * V u j) (C := 4503599627370496) v.toNat (fun u u0 u1 => by
    by_cases c : s u = 0
    · rw [if_pos c]; omega
    · rw [if_neg c]
      have b := hV u u0 (by omega) j j0 j1
      exact mulB (s := F u % 65536) (x := V u j) 65536 68719476736 (by omega) (by omega) (by omega) (by omega))
  omega
theorem fr_s (h : s v = 0 ∨ F v = 0) : fr s F (v + 1) i = fr s F v i := by
  unfold fr
  by_cases e : i = v
  · subst e
    rw [if_neg (show ¬ (i < i ∧ s i ≠ 0) by omega)]
    by_cases c : s i = 0
    · rw [if_neg (fun z => z.2 c)]
    · rw [if_pos ⟨by omega, c⟩]
      rcases h with z | z
      · exact absurd z c
      · exact z.symm
  · by_cases c : i < v ∧ s i ≠ 0
    · rw [if_pos c, if_pos ⟨by omega, c.2⟩]
    · rw [if_neg c, if_neg (fun z => c ⟨by omega, z.2⟩)]
theorem fr_z (h : s v ≠ 0) : fr s F (v + 1) i = if i = v then 0 else fr s F v i := by
  unfold fr
  by_cases e : i = v
  · subst e
    rw [if_pos rfl, if_pos ⟨by omega, h⟩]
  · rw [if_neg e]
    by_cases c : i < v ∧ s i ≠ 0
    · rw [if_pos c, if_pos ⟨by omega, c.2⟩]
    · rw [if_neg c, if_neg (fun z => c ⟨by omega, z.2⟩)]
theorem fr_0 (i0 : 0 ≤ i) : fr s F 0 i = F i := if_neg (fun z => by omega)
theorem fr_v : fr s F v v = F v := if_neg (fun z => by omega)
/-- what refresh has summed up is F with all replaced -/
theorem rf_tot (hI : VI s V) (i0 : 0 ≤ i) (i1 : i < 13) : sbT V F i = fr s F 12 i * 65536 + rW s F V i 12 * 65536 + rP s F V i 12 := by
  unfold sbT rW rP fr
  have e : sm (fun u => F u * V u i) 12 = sm (fun u => (if s u = 0 then F u * un u i else 0) + ((if s u = 0 then 0 else F u / 65536 * V u i) * 65536 + (if s u = 0 then 0 else F u % 65536 * V u i))) 12 := by
    apply sm_c
    intro u u0 u1
    by_cases c : s u = 0
    · rw [if_pos c, if_pos c, if_pos c, (hI u u0 (by omega)).2.2.1 c i i0 i1]; omega
    · rw [if_neg c, if_neg c, if_neg c, dm_split]; omega
  rw [e, sm_a, sm_a, sm_m]
  show _ = _ + sm _ 12 * 65536 + sm _ 12
  by_cases e12 : i = 12
  · rw [if_pos e12, if_neg (fun z => by omega), sm_z 12 (fun u u0 u1 => ?_), e12]
    · omega
    · by_cases c : s u = 0
      · rw [if_pos c]
        unfold un
        rw [if_neg (by omega)]
        omega
      · rw [if_neg c]
  · rw [if_neg e12, sm_one (i := i) 12 i0 (by omega) (fun u u0 u1 ne => ?_)]
    · by_cases c : s i = 0
      · rw [if_pos c, if_neg (fun z => z.2 c)]
        unfold un
        rw [if_pos rfl]
        omega
      · rw [if_neg c, if_pos ⟨by omega, c⟩]
        omega
    · by_cases c : s u = 0
      · rw [if_pos c]
        unfold un
        rw [if_neg (fun z => ne z.symm)]
        omega
      · rw [if_neg c]
end RFS
theorem as_iff {w h p T : Int} (hT : T = w * 65536 + h * 65536 + p) : ((p.tmod 65536 = 0 ∧ gin (w + h + p.tdiv 65536)) ↔ (T % 65536 = 0 ∧ gin (T / 65536))) ∧ (T % 65536 = 0 → w + h + p.tdiv 65536 = T / 65536) := by
  have g := gtd p 65536 (by decide)
  constructor
  · constructor
    · rintro ⟨a, b⟩
      have e : w + h + p.tdiv 65536 = T / 65536 := by omega
      exact ⟨by omega, by rw [← e]; exact b⟩
    · rintro ⟨a, b⟩
      have e : w + h + p.tdiv 65536 = T / 65536 := by omega
      exact ⟨by omega, by rw [e]; exact b⟩
  · intro a
    omega
theorem rp_tot (F S : Int → Int) (v i : Int) : rpT F v S i = (if i = v then 0 else F i) * 65536 + F v / 65536 * S i * 65536 + F v % 65536 * S i := by
  unfold rpT
  rw [← dm_split (F v) (S i)]
  by_cases e : i = v
  · rw [if_pos e, if_pos e]; omega
  · rw [if_neg e, if_neg e]; omega
theorem y_GM_beginSums (G : jG) (d m : Nat) (I : Nat → Int) (A : Nat → Int → Int) (hI : gSI I) (hA : gSA A) : gct G Y_GM_beginSums d m [] I A (fun rv I2 A2 => rv = none ∧ gPo [] [33, 34] I A I2 A2 ∧ ∀ j, 0 ≤ j → j < 13 → A2 33 j = 0 ∧ A2 34 j = 0) := by
  refine gct_mono (c_GM_beginSums G d m I A) (fun rv J B h => Or.inl ?_)
  obtain ⟨h1, rfl, X, Y, rfl, hX, hY⟩ := h
  refine ⟨h1, gPo.A 34 Y (gPo.A 33 X (gPo.refl hI hA) rfl (fun z => ?_)) rfl (fun z => ?_), fun j a c => ⟨?_, ?_⟩⟩
  · show -9223372036854775808 ≤ X z ∧ X z ≤ 9223372036854775807
    rw [hX]
    split
    · omega
    · exact hA 33 z
  · show -9223372036854775808 ≤ Y z ∧ Y z ≤ 9223372036854775807
    rw [hY]
    split
    · omega
    · exact hA 34 z
  · show X j = 0
    rw [hX, if_pos ⟨a, c⟩]
  · show Y j = 0
    rw [hY, if_pos ⟨a, c⟩]
theorem y_GM_replaceIn (G : jG) (d m : Nat) (f v g : Int) (I : Nat → Int) (A : Nat → Int → Int) (hI : gSI I) (hA : gSA A) (h0 : 0 ≤ f) (h1 : f < 400) (w0 : 0 ≤ v) (w1 : v < 12) (g0 : 0 ≤ g) (g1 : g < 400) (hne : f ≠ g) (hb : ∀ j, 0 ≤ j → j < 13 → (-9223372036854775808 ≤ A 33 j + A 35 (f * 13 + v) / 65536 * A 35 (g * 13 + j) ∧ A 33 j + A 35 (f * 13 + v) / 65536 * A 35 (g * 13 + j) ≤ 9223372036854775807) ∧ -9223372036854775808 ≤ A 34 j + A 35 (f * 13 + v) % 65536 * A 35 (g * 13 + j) ∧ A 34 j + A 35 (f * 13 + v) % 65536 * A 35 (g * 13 + j) ≤ 9223372036854775807) :
    gct G Y_GM_replaceIn d m [.int (jI f), .int (jI v), .int (jI g)] I A (fun rv I2 A2 => rv = none ∧ gPo [] [33, 34, 35] I A I2 A2 ∧ A2 35 = ju (A 35) (f * 13 + v) 0 ∧ ∀ j, 0 ≤ j → j < 13 → A2 33 j = A 33 j + A 35 (f * 13 + v) / 65536 * A 35 (g * 13 + j) ∧ A2 34 j = A 34 j + A 35 (f * 13 + v) % 65536 * A 35 (g * 13 + j)) := by
  refine gct_mono (c_GM_replaceIn G d m f v g I A h0 h1 w0 w1 g0 g1 hne (hA 35 _)) (fun rv J B h => Or.inl ?_)
  obtain ⟨h1, rfl, X, Y, rfl, hX, hY⟩ := h
  refine ⟨h1, gPo.A 34 Y (gPo.A 33 X (gPo.A 35 _ (gPo.refl hI hA) rfl (gju (hA 35) (show (-9223372036854775808 : Int) ≤ 0 ∧ (0 : Int) ≤ 9223372036854775807 by omega))) rfl (fun z => ?_)) rfl (fun z => ?_), rfl, fun j a c => ⟨?_, ?_⟩⟩
  · show -9223372036854775808 ≤ X z ∧ X z ≤ 9223372036854775807
    rw [hX]
    split
    · next q => exact (hb z q.1 q.2).1
    · exact hA 33 z
  · show -9223372036854775808 ≤ Y z ∧ Y z ≤ 9223372036854775807
    rw [hY]
    split
    · next q => exact (hb z q.1 q.2).2
    · exact hA 34 z
  · show X j = _
    rw [hX, if_pos ⟨a, c⟩]
  · show Y j = _
    rw [hY, if_pos ⟨a, c⟩]
theorem y_GM_addSums (G : jG) (d m : Nat) (f : Int) (I : Nat → Int) (A : Nat → Int → Int) (hI : gSI I) (hA : gSA A) (h0 : 0 ≤ f) (h1 : f < 400) (hb : ∀ j, 0 ≤ j → j < 13 → -2305843009213693952 ≤ A 35 (f * 13 + j) ∧ A 35 (f * 13 + j) ≤ 2305843009213693952 ∧ -2305843009213693952 ≤ A 33 j ∧ A 33 j ≤ 2305843009213693952) :
    gct G Y_GM_addSums (d + 1) m [.int (jI f)] I A (fun rv I2 A2 => rv = none ∧ gPo [15] [35] I A I2 A2 ∧ (∀ z, ¬ (f * 13 ≤ z ∧ z < f * 13 + 13) → A2 35 z = A 35 z) ∧ (∀ j, 0 ≤ j → j < 13 → A2 35 (f * 13 + j) = gkp (A 35 (f * 13 + j) + A 33 j + (A 34 j).tdiv 65536)) ∧ (I2 15 = 0 ↔ (I 15 = 0 ∧ ∀ j, 0 ≤ j → j < 13 → ((A 34 j).tmod 65536 = 0 ∧ gin (A 35 (f * 13 + j) + A 33 j + (A 34 j).tdiv 65536))))) := by
  refine gct_mono (c_GM_addSums G d m f I A h0 h1 (fun j a c => ⟨(hb j a c).1, (hb j a c).2.1, (hb j a c).2.2.1, (hb j a c).2.2.2, hA 34 j⟩)) (fun rv J B h => Or.inl ?_)
  obtain ⟨h1, r, W, rfl, rfl, hW, ha, hb2⟩ := h
  have b : (0 : Int) ≤ I 15 ∧ I 15 ≤ 1 := hI 15
  have hr : 0 ≤ r ∧ r ≤ 1 := by
    by_cases hc : ∀ j, 0 ≤ j → j < 13 → ((A 34 j).tmod 65536 = 0 ∧ gin (A 35 (f * 13 + j) + A 33 j + (A 34 j).tdiv 65536))
    · rw [ha hc]; exact b
    · rw [hb2 hc]; omega
  refine ⟨h1, gPo.A 35 W (gPo.I 15 r (gPo.refl hI hA) rfl hr) rfl (fun z => ?_), fun z hz => ?_, fun j a c => ?_, ?_⟩
  · show -9223372036854775808 ≤ W z ∧ W z ≤ 9223372036854775807
    rw [hW]
    split
    · have := gkp_gin (A 35 z + A 33 (z - f * 13) + (A 34 (z - f * 13)).tdiv 65536)
      omega
    · exact hA 35 z
  · show W z = _
    rw [hW, if_neg hz]
  · show W (f * 13 + j) = _
    rw [hW, if_pos (by omega), show f * 13 + j - f * 13 = j by omega]
  · show r = 0 ↔ _
    by_cases hc : ∀ j, 0 ≤ j → j < 13 → ((A 34 j).tmod 65536 = 0 ∧ gin (A 35 (f * 13 + j) + A 33 j + (A 34 j).tdiv 65536))
    · rw [ha hc]
      exact ⟨fun z => ⟨z, hc⟩, fun z => z.1⟩
    · rw [hb2 hc]
      exact ⟨fun z => absurd z (by decide), fun z => absurd z.2 hc⟩
/-- what refresh leaves of form f -/
def rfQ (f : Int) (F : Int → Int) (V : Int → Int → Int) (I : Nat → Int) (A : Nat → Int → Int) (J : Nat → Int) (B : Nat → Int → Int) : Prop :=
  (J 15 = 0 ↔ (I 15 = 0 ∧ sbK V F)) ∧ (sbK V F → ∀ i, 0 ≤ i → i < 13 → B 35 (f * 13 + i) = sbT V F i / 65536) ∧ (∀ i, 0 ≤ i → i < 13 → gin (B 35 (f * 13 + i))) ∧ (∀ z, ¬ (f * 13 ≤ z ∧ z < f * 13 + 13) → ¬ (5174 ≤ z ∧ z < 5187) → B 35 z = A 35 z)
theorem rf_end {f : Int} {F s : Int → Int} {V : Int → Int → Int} {I0 I J : Nat → Int} {A0 A B : Nat → Int → Int} (hI9 : VI s V) (h15 : I 15 = I0 15) (h33 : ∀ j, 0 ≤ j → j < 13 → A 33 j = rW s F V j 12) (h34 : ∀ j, 0 ≤ j → j < 13 → A 34 j = rP s F V j 12) (hf : ∀ i, 0 ≤ i → i < 13 → A 35 (f * 13 + i) = fr s F 12 i) (ho : ∀ z, ¬ (f * 13 ≤ z ∧ z < f * 13 + 13) → ¬ (5174 ≤ z ∧ z < 5187) → A 35 z = A0 35 z)
    (hx : (∀ z, ¬ (f * 13 ≤ z ∧ z < f * 13 + 13) → B 35 z = A 35 z) ∧ (∀ j, 0 ≤ j → j < 13 → B 35 (f * 13 + j) = gkp (A 35 (f * 13 + j) + A 33 j + (A 34 j).tdiv 65536)) ∧ (J 15 = 0 ↔ (I 15 = 0 ∧ ∀ j, 0 ≤ j → j < 13 → ((A 34 j).tmod 65536 = 0 ∧ gin (A 35 (f * 13 + j) + A 33 j + (A 34 j).tdiv 65536))))) : rfQ f F V I0 A0 J B := by
  obtain ⟨x1, x2, x3⟩ := hx
  have key : ∀ j, 0 ≤ j → j < 13 → (((A 34 j).tmod 65536 = 0 ∧ gin (A 35 (f * 13 + j) + A 33 j + (A 34 j).tdiv 65536)) ↔ (sbT V F j % 65536 = 0 ∧ gin (sbT V F j / 65536))) ∧ (sbT V F j % 65536 = 0 → A 35 (f * 13 + j) + A 33 j + (A 34 j).tdiv 65536 = sbT V F j / 65536) := by
    intro j a c
    apply as_iff
    rw [hf j a c, h33 j a c, h34 j a c]
    exact rf_tot hI9 a c
  refine ⟨?_, fun k i a c => ?_, fun i a c => ?_, fun z z1 z2 => (x1 z z1).trans (ho z z1 z2)⟩
  · rw [x3, h15]
    constructor
    · rintro ⟨a, b⟩
      exact ⟨a, fun j j0 j1 => (key j j0 j1).1.mp (b j j0 j1)⟩
    · rintro ⟨a, b⟩
      exact ⟨a, fun j j0 j1 => (key j j0 j1).1.mpr (b j j0 j1)⟩
  · rw [x2 i a c, (key i a c).2 (k i a c).1]
    unfold gkp
    rw [if_pos (k i a c).2]
  · rw [x2 i a c]
    exact gkp_gin _

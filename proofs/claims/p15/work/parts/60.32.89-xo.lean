/-! what finishTerm does to a derivation -/
def tdQ (n : Int) (X Y : Int → Int) (V : Int → Int → Int) (r : ER) (p : Int) (J : Nat → Int) (B : Nat → Int → Int) : Prop := ∃ (F : Int → Int) (S : List Fr) (g : Prop), RE n X Y V (.td p F S g) r ∧ mT F S g J B
def sdQ (n : Int) (X Y : Int → Int) (V : Int → Int → Int) (r : ER) (p : Int) (J : Nat → Int) (B : Nat → Int → Int) : Prop := ∃ (F : Int → Int) (S : List Fr) (g : Prop), nb S ∧ RE n X Y V (.sd p F S g) r ∧ mD F S g J B
def opQ (n : Int) (X Y : Int → Int) (V : Int → Int → Int) (r : ER) (p : Int) (J : Nat → Int) (B : Nat → Int → Int) : Prop := ∃ (S : List Fr) (g : Prop), RE n X Y V (.op p S g) r ∧ mO S g J B
theorem gtm_gin (x t : Int) : gin (gtm x t) := by
  unfold gtm
  by_cases h : gtP x t
  · rw [if_pos h]; exact h.2
  · rw [if_neg h]; show gin 0; omega
theorem sc_n (x : Int) (h : gin x) : gtP x (-65536) ∧ gtm x (-65536) = -1 * x := by
  have hp : gtP x (-65536) := ⟨by omega, by show gin (x * -65536 / 65536); omega⟩
  refine ⟨hp, ?_⟩
  unfold gtm
  rw [if_pos hp]
  omega
theorem sc_c (x c : Int) : (gtP x (c * 4096) ↔ ((x * c) % 16 = 0 ∧ gin (x * c / 16))) ∧ (gtP x (c * 4096) → gtm x (c * 4096) = x * c / 16) := by
  have e : x * (c * 4096) = x * c * 4096 := by rw [Int.mul_assoc]
  have hd : x * (c * 4096) / 65536 = x * c / 16 := by rw [e]; generalize x * c = t; omega
  have hi : gtP x (c * 4096) ↔ ((x * c) % 16 = 0 ∧ gin (x * c / 16)) := by
    show ((x * (c * 4096)) % 65536 = 0 ∧ gin (x * (c * 4096) / 65536)) ↔ _
    rw [hd, e]
    generalize x * c = t
    constructor
    · rintro ⟨a, b⟩; exact ⟨by omega, b⟩
    · rintro ⟨a, b⟩; exact ⟨by omega, b⟩
  refine ⟨hi, fun h => ?_⟩
  unfold gtm
  rw [if_pos h, hd]
theorem mT_pop {F F2 : Int → Int} {S : List Fr} {f : Fr} {g g2 : Prop} {I J : Nat → Int} {A B : Nat → Int → Int} {t : Int} (h : mT F (f :: S) g I A) (hv : vc (f :: S) = vc S) (hd : dep (f :: S) = dep S) (j13 : J 13 = I 13 - 1) (j9 : J 9 = I 9) (j14 : J 14 = I 14) (h36 : B 36 = A 36) (h38 : B 38 = A 38)
    (hW : ∀ z, B 35 z = if (299 + I 9) * 13 ≤ z ∧ z < (299 + I 9) * 13 + 13 then gtm (A 35 z) t else A 35 z) (hf : J 15 = 0 ↔ (I 15 = 0 ∧ ∀ j, 0 ≤ j → j < 13 → gtP (A 35 ((299 + I 9) * 13 + j)) t)) (hg : g2 ↔ (g ∧ ∀ j, 0 ≤ j → j < 13 → gtP (F j) t)) (hF : g2 → ∀ i, 0 ≤ i → i < 13 → F2 i = gtm (F i) t) : mT F2 S g2 J B := by
  obtain ⟨m13, m9, m14, m15, mm, mb, mv⟩ := h
  rw [hv] at m9 mb mv
  rw [hd] at m14
  have ee : ∀ i : Int, (299 + I 9) * 13 + i = ((300 + vc S : Nat) : Int) * 13 + i := fun i => by omega
  refine ⟨by rw [j13, m13]; simp, by rw [j9, m9], by rw [j14, m14], ?_, mt_fr (fun z => (hg.mp z).1) S mm.2.2 (fun t _ => ⟨by rw [h36], by rw [h38]⟩) (fun z _ hz => by rw [hW, if_neg (by omega)]), fun i a c => ?_, fun z i a c => ?_⟩
  · rw [hf, hg, m15]
    constructor
    · rintro ⟨a, b⟩
      exact ⟨a, fun j j0 j1 => by rw [← mv a j j0 j1, ← ee]; exact b j j0 j1⟩
    · rintro ⟨a, b⟩
      exact ⟨a, fun j j0 j1 => by rw [ee, mv a j j0 j1]; exact b j j0 j1⟩
  · rw [hW, if_pos (by omega)]
    exact gtm_gin _ _
  · rw [hW, if_pos (by omega), mv (hg.mp z).1 i a c, hF z i a c]
section TDQ
variable {n : Int} {X Y : Int → Int} {V : Int → Int → Int} {r : ER} {p : Int} {I J : Nat → Int} {A B : Nat → Int → Int}
theorem tdQ_b (h : tdQ n X Y V r p I A) : ∀ j, 0 ≤ j → j < 13 → gin (A 35 ((299 + I 9) * 13 + j)) := by
  obtain ⟨F, S, g, _, m13, m9, m14, m15, mm, mb, mv⟩ := h
  intro j j0 j1
  rw [show (299 + I 9) * 13 + j = ((300 + vc S : Nat) : Int) * 13 + j by omega]
  exact mb j j0 j1
theorem tdQ_hd {S : List Fr} {F : Int → Int} {g : Prop} (h : mT F S g I A) (h0 : 0 < I 13) : ∃ (f : Fr) (S2 : List Fr), S = f :: S2 ∧ A 36 (I 13 - 1) = cd f ∧ (S2.length : Int) = I 13 - 1 := by
  cases S with
  | nil => have := h.1; simp at this; omega
  | cons f S2 =>
    have h1 := h.1
    simp at h1
    refine ⟨f, S2, rfl, ?_, by omega⟩
    rw [show I 13 - 1 = (S2.length : Int) by omega]
    exact h.2.2.2.2.1.1
theorem tdQ_3 (h : tdQ n X Y V r p I A) (h0 : 0 < I 13) (hw : A 36 (I 13 - 1) = 3) (j13 : J 13 = I 13 - 1) (j9 : J 9 = I 9) (j14 : J 14 = I 14) (h36 : B 36 = A 36) (h38 : B 38 = A 38)
    (hW : ∀ z, B 35 z = if (299 + I 9) * 13 ≤ z ∧ z < (299 + I 9) * 13 + 13 then gtm (A 35 z) (-65536) else A 35 z) (hf : J 15 = 0 ↔ (I 15 = 0 ∧ ∀ j, 0 ≤ j → j < 13 → gtP (A 35 ((299 + I 9) * 13 + j)) (-65536))) : tdQ n X Y V r p J B := by
  obtain ⟨F, S, g, hR, hm⟩ := h
  obtain ⟨f, S2, rfl, hc, hl⟩ := tdQ_hd hm h0
  rw [hw] at hc
  rcases f with _ | _ | _ | _ | _ | _ | ⟨_, _⟩
  · obtain ⟨F2, h1, h2, h3⟩ := td_neg hR
    have hin : g → ∀ j, 0 ≤ j → j < 13 → gin (F j) := fun z j j0 j1 => by rw [← hm.2.2.2.2.2.2 z j j0 j1]; exact hm.2.2.2.2.2.1 j j0 j1
    exact ⟨F2, S2, g, h3, mT_pop hm rfl rfl j13 j9 j14 h36 h38 hW hf ⟨fun z => ⟨z, fun j j0 j1 => (sc_n (F j) (hin z j j0 j1)).1⟩, fun z => z.1⟩ (fun z i a c => by rw [h1 z i a c, (sc_n (F i) (hin z i a c)).2])⟩
  · (simp [cd] at hc)
  · (simp [cd] at hc)
  · (simp [cd] at hc)
  · (simp [cd] at hc)
  · (simp [cd] at hc)
  · (simp [cd] at hc)
theorem tdQ_4 (h : tdQ n X Y V r p I A) (h0 : 0 < I 13) (hw : A 36 (I 13 - 1) = 4) (j13 : J 13 = I 13 - 1) (j9 : J 9 = I 9) (j14 : J 14 = I 14) (h36 : B 36 = A 36) (h38 : B 38 = A 38)
    (hW : ∀ z, B 35 z = if (299 + I 9) * 13 ≤ z ∧ z < (299 + I 9) * 13 + 13 then gtm (A 35 z) (A 38 (I 13 - 1)) else A 35 z) (hf : J 15 = 0 ↔ (I 15 = 0 ∧ ∀ j, 0 ≤ j → j < 13 → gtP (A 35 ((299 + I 9) * 13 + j)) (A 38 (I 13 - 1)))) : tdQ n X Y V r p J B := by
  obtain ⟨F, S, g, hR, hm⟩ := h
  obtain ⟨f, S2, rfl, hc, hl⟩ := tdQ_hd hm h0
  rw [hw] at hc
  rcases f with _ | c | _ | _ | _ | _ | ⟨_, _⟩
  · (simp [cd] at hc)
  · obtain ⟨F2, g2, h1, h2, h3⟩ := td_scale hR
    have e38 : A 38 (I 13 - 1) = c * 4096 := by rw [← hl]; exact hm.2.2.2.2.1.2.1.1
    rw [e38] at hW hf
    refine ⟨F2, S2, g2, h3, mT_pop hm rfl rfl j13 j9 j14 h36 h38 hW hf ?_ (fun z i a d => ?_)⟩
    · rw [h1]
      constructor
      · rintro ⟨a, b⟩
        exact ⟨a, fun j j0 j1 => (sc_c (F j) c).1.mpr (b j j0 j1)⟩
      · rintro ⟨a, b⟩
        exact ⟨a, fun j j0 j1 => (sc_c (F j) c).1.mp (b j j0 j1)⟩
    · have q := (h1.mp z).2 i a d
      rw [h2 z i a d, (sc_c (F i) c).2 ((sc_c (F i) c).1.mpr q)]
  · (simp [cd] at hc)
  · (simp [cd] at hc)
  · (simp [cd] at hc)
  · (simp [cd] at hc)
  · (simp [cd] at hc)
theorem sdQ_add {s : Int} (h : tdQ n X Y V r p I A) (h0 : 0 < I 13) (hw : (A 36 (I 13 - 1) = 1 ∧ s = 1) ∨ (A 36 (I 13 - 1) = 2 ∧ s = -1)) (j13 : J 13 = I 13 - 1) (j9 : J 9 = I 9 - 1) (j14 : J 14 = I 14) (j15 : J 15 = I 15) (h36 : B 36 = A 36) (h38 : B 38 = A 38)
    (ho : ∀ z, ¬ ((298 + I 9) * 13 ≤ z ∧ z < (298 + I 9) * 13 + 13) → B 35 z = A 35 z) (hi : ∀ z, (298 + I 9) * 13 ≤ z → z < (298 + I 9) * 13 + 13 → jRl (A 35 z + s * A 35 (z - (298 + I 9) * 13 + (299 + I 9) * 13)) → B 35 z = A 35 z + s * A 35 (z - (298 + I 9) * 13 + (299 + I 9) * 13))
    (hn : ∀ (f : Fr) (S2 : List Fr), (S2.length : Int) = I 13 - 1 → (∀ g F, mT F (f :: S2) g I A → cd f = 1 ∨ cd f = 2 → nb S2)) : sdQ n X Y V r p J B := by
  obtain ⟨F, S, g, hR, hm⟩ := h
  obtain ⟨f, S2, rfl, hc, hl⟩ := tdQ_hd hm h0
  have hnb := hn f S2 hl g F hm (by rw [← hc]; rcases hw with w | w <;> omega)
  obtain ⟨m13, m9, m14, m15, mm, mb, mv⟩ := id hm
  have hin : g → ∀ j, 0 ≤ j → j < 13 → gin (F j) := fun z j j0 j1 => by rw [← mv z j j0 j1]; exact mb j j0 j1
  have fin : ∀ (U F2 : Int → Int), vc (f :: S2) = vc S2 + 1 → dep (f :: S2) = dep S2 → (g → rV A (300 + vc S2) U ∧ far U) → (g → ∀ i, 0 ≤ i → i < 13 → F2 i = U i + s * F i) → (g → far F2) → (s = 1 ∨ s = -1) → mD F2 S2 g J B := by
    intro U F2 hv hd hU hF2 hfar hs
    rw [hv] at m9 mv mb
    refine ⟨by rw [j13, m13]; simp, by omega, by rw [j14, m14, hd], by rw [j15]; exact m15, mt_fr id S2 mm.2.2 (fun t _ => ⟨by rw [h36], by rw [h38]⟩) (fun z _ hz => ho z (by omega)), fun z => ⟨fun i a c => ?_, hfar z⟩⟩
    have e1 : A 35 (((300 + vc S2 : Nat) : Int) * 13 + i) = U i := (hU z).1 i a c
    have e2 : A 35 (((300 + (vc S2 + 1) : Nat) : Int) * 13 + i) = F i := mv z i a c
    have b1 := (hU z).2 i a c
    have b2 := hin z i a c
    have q := hi (((300 + vc S2 : Nat) : Int) * 13 + i) (by omega) (by omega)
    rw [e1, show ((300 + vc S2 : Nat) : Int) * 13 + i - (298 + I 9) * 13 + (299 + I 9) * 13 = ((300 + (vc S2 + 1) : Nat) : Int) * 13 + i by omega, e2] at q
    rw [q (by unfold jRl; rcases hs with rfl | rfl <;> omega), hF2 z i a c]
  rcases f with _ | _ | U | U | _ | _ | ⟨_, _⟩
  · (rcases hw with w | w <;> (rw [w.1] at hc; simp [cd] at hc))
  · (rcases hw with w | w <;> (rw [w.1] at hc; simp [cd] at hc))
  · rcases hw with w | w
    · obtain ⟨F2, h1, h2, h3⟩ := td_plus hR
      exact ⟨F2, S2, g, hnb, h3, fin U F2 rfl rfl mm.2.1 (fun z i a c => by rw [h1 z i a c, w.2]; omega) h2 (Or.inl w.2)⟩
    · rw [w.1] at hc; simp [cd] at hc
  · rcases hw with w | w
    · rw [w.1] at hc; simp [cd] at hc
    · obtain ⟨F2, h1, h2, h3⟩ := td_mins hR
      exact ⟨F2, S2, g, hnb, h3, fin U F2 rfl rfl mm.2.1 (fun z i a c => by rw [h1 z i a c, w.2]; omega) h2 (Or.inr w.2)⟩
  · (rcases hw with w | w <;> (rw [w.1] at hc; simp [cd] at hc))
  · (rcases hw with w | w <;> (rw [w.1] at hc; simp [cd] at hc))
  · (rcases hw with w | w <;> (rw [w.1] at hc; simp [cd] at hc))
theorem sdQ_bare (h : tdQ n X Y V r p I A) (hw : I 13 = 0 ∨ (A 36 (I 13 - 1) ≠ 1 ∧ A 36 (I 13 - 1) ≠ 2 ∧ A 36 (I 13 - 1) ≠ 3 ∧ A 36 (I 13 - 1) ≠ 4)) : sdQ n X Y V r p I A := by
  obtain ⟨F, S, g, hR, hm⟩ := h
  have hnb : nb S := by
    cases S with
    | nil => trivial
    | cons f S2 =>
      have h1 := hm.1
      simp at h1
      have hc := hm.2.2.2.2.1.1
      rw [show (S2.length : Int) = I 13 - 1 by omega] at hc
      rcases hw with w | w
      · omega
      · rcases f with _ | c | U | U | _ | c | ⟨c, U⟩
        · (simp [cd] at hc; omega)
        · (simp [cd] at hc; omega)
        · (simp [cd] at hc; omega)
        · (simp [cd] at hc; omega)
        · (trivial)
        · (trivial)
        · (trivial)
  obtain ⟨F2, h1, h2⟩ := td_bare hnb hR
  obtain ⟨m13, m9, m14, m15, mm, mb, mv⟩ := hm
  refine ⟨F2, S, g, hnb, h2, m13, m9, m14, m15, mm, fun z => ⟨fun i a c => ?_, fun i a c => ?_⟩⟩
  · rw [mv z i a c, h1 z i a c]
  · rw [h1 z i a c, ← mv z i a c]
    have := mb i a c
    omega
end TDQ
theorem nb_of {A : Nat → Int → Int} {g : Prop} {S : List Fr} (hm : mt A g S) (h : (S.length : Int) = 0 ∨ A 36 ((S.length : Int) - 1) = 0 ∨ A 36 ((S.length : Int) - 1) = 5 ∨ A 36 ((S.length : Int) - 1) = 6) : nb S := by
  cases S with
  | nil => trivial
  | cons f S2 =>
    have hc := hm.1
    simp only [List.length_cons] at h
    rw [show ((S2.length + 1 : Nat) : Int) - 1 = (S2.length : Int) by omega, hc] at h
    rcases f with _ | c | U | U | _ | c | ⟨c, U⟩
    · (simp [cd] at h; omega)
    · (simp [cd] at h; omega)
    · (simp [cd] at h; omega)
    · (simp [cd] at h; omega)
    · (trivial)
    · (trivial)
    · (trivial)
theorem nb_st {I : Nat → Int} {A : Nat → Int → Int} (hs : gSt (A 36) (I 13)) (h0 : 0 < I 13) (f : Fr) (S2 : List Fr) (hl : (S2.length : Int) = I 13 - 1) (g : Prop) (F : Int → Int) (hm : mT F (f :: S2) g I A) (hc : cd f = 1 ∨ cd f = 2) : nb S2 := by
  have h1 := hm.2.2.2.2.1
  have h2 := hs (I 13 - 1) (by omega) (by omega) (by rw [← hl, h1.1]; exact hc)
  refine nb_of h1.2.2 ?_
  rw [hl]
  rcases h2 with h | h | h | h
  · exact Or.inl h
  · exact Or.inr (Or.inl h)
  · exact Or.inr (Or.inr (Or.inl h))
  · exact Or.inr (Or.inr (Or.inr h))
/-! finishBetween -/
def bwv (A : Nat → Int → Int) (t k j : Int) : Int := A 35 (k + j) + (A 35 (k + 13 + j) - A 35 (k + j)) * t / 16
def bwc (A : Nat → Int → Int) (t k j : Int) : Prop := ((A 35 (k + 13 + j) - A 35 (k + j)) * t) % 16 = 0 ∧ gin (bwv A t k j)
def bwQ (t k : Int) (I : Nat → Int) (A : Nat → Int → Int) (J : Nat → Int) (B : Nat → Int → Int) (i : Int) : Prop := (J 15 = 0 ↔ (I 15 = 0 ∧ ∀ j, 0 ≤ j → j < i → bwc A t k j)) ∧ (J 15 = 0 → ∀ j, 0 ≤ j → j < i → B 35 (k + j) = bwv A t k j) ∧ (∀ j, 0 ≤ j → j < i → gin (B 35 (k + j))) ∧ (∀ z, ¬ (k ≤ z ∧ z < k + i) → B 35 z = A 35 z)
theorem gkp_gin (v : Int) : gin (gkp v) := by
  unfold gkp
  by_cases h : gin v
  · rw [if_pos h]; exact h
  · rw [if_neg h]; show gin 0; omega
theorem bw_0 (t k : Int) (I : Nat → Int) (A : Nat → Int → Int) (J : Nat → Int) (hJ : J 15 = I 15) : bwQ t k I A J A 0 := ⟨by rw [hJ]; exact ⟨fun z => ⟨z, fun j a c => by omega⟩, fun z => z.1⟩, fun _ j a c => by omega, fun j a c => by omega, fun _ _ => rfl⟩
theorem bw_s {t k i r x : Int} {I J J2 : Nat → Int} {A B B2 : Nat → Int → Int} (h : bwQ t k I A J B i) (i0 : 0 ≤ i) (hm0 : ((A 35 (k + 13 + i) - A 35 (k + i)) * t) % 16 = 0 → r = J 15 ∧ x = bwv A t k i) (hm1 : ((A 35 (k + 13 + i) - A 35 (k + i)) * t) % 16 ≠ 0 → r = 1) (h15 : J2 15 = gkr x r) (h35 : B2 35 = ju (B 35) (k + i) (gkp x)) : bwQ t k I A J2 B2 (i + 1) := by
  obtain ⟨h1, h2, h3, h4⟩ := h
  have hz : J2 15 = 0 ↔ (J 15 = 0 ∧ bwc A t k i) := by
    rw [h15]
    unfold gkr
    by_cases hm : ((A 35 (k + 13 + i) - A 35 (k + i)) * t) % 16 = 0
    · obtain ⟨e1, e2⟩ := hm0 hm
      rw [e1, e2]
      by_cases hg : gin (bwv A t k i)
      · rw [if_pos hg]
        exact ⟨fun z => ⟨z, hm, hg⟩, fun z => z.1⟩
      · rw [if_neg hg]
        exact ⟨fun z => absurd z (by decide), fun z => absurd z.2.2 hg⟩
    · rw [hm1 hm]
      refine ⟨fun z => ?_, fun z => absurd z.2.1 hm⟩
      by_cases hg : gin x
      · rw [if_pos hg] at z; exact absurd z (by decide)
      · rw [if_neg hg] at z; exact absurd z (by decide)
  refine ⟨?_, fun z j a c => ?_, fun j a c => ?_, fun z hzz => ?_⟩
  · rw [hz, h1]
    constructor
    · rintro ⟨⟨a, b⟩, c⟩
      refine ⟨a, fun j j0 j1 => ?_⟩
      by_cases e : j = i
      · rw [e]; exact c
      · exact b j j0 (by omega)
    · rintro ⟨a, b⟩
      exact ⟨⟨a, fun j j0 j1 => b j j0 (by omega)⟩, b i i0 (by omega)⟩
  · have q := hz.mp z
    rw [h35]
    by_cases e : j = i
    · subst e
      rw [ju_self]
      obtain ⟨e1, e2⟩ := hm0 q.2.1
      unfold gkp
      rw [e2, if_pos q.2.2]
    · rw [ju_ne _ _ (by omega)]
      exact h2 q.1 j a (by omega)
  · rw [h35]
    by_cases e : j = i
    · subst e
      rw [ju_self]
      exact gkp_gin x
    · rw [ju_ne _ _ (by omega)]
      exact h3 j a (by omega)
  · rw [h35, ju_ne _ _ (by omega)]
    exact h4 z (by omega)
theorem bw_x {a b t w m d x : Int} (ha : gin a) (hb : gin b) (ht : -16000 ≤ t ∧ t ≤ 16000) (hm : -9223372036854775808 ≤ m ∧ m ≤ 9223372036854775807) (hw : -9223372036854775808 ≤ w ∧ w ≤ 9223372036854775807) (e1 : (w - (b - a)) % 18446744073709551616 = 0) (e2 : (m - w * t) % 18446744073709551616 = 0) (hx : -9223372036854775808 ≤ x ∧ x ≤ 9223372036854775807) (hd : -9223372036854775808 ≤ d ∧ d ≤ 9223372036854775807) (e4 : (d - m.tdiv 16) % 18446744073709551616 = 0) (e3 : (x - (a + d)) % 18446744073709551616 = 0) : m = (b - a) * t ∧ x = a + m.tdiv 16 := by
  have ew : w = b - a := by omega
  subst ew
  have hb2 := mulb (s := t) (x := b - a) (C := 137438953472) ht.1 ht.2 (by omega) (by omega)
  rw [Int.mul_comm t (b - a)] at hb2
  have em : m = (b - a) * t := by
    generalize (b - a) * t = q at hb2 e2 ⊢
    omega
  refine ⟨em, ?_⟩
  have h3 := gtd m 16 (by omega)
  have h4 : -2199023255552000 ≤ m ∧ m ≤ 2199023255552000 := by rw [em]; omega
  clear e2 em hb2
  omega
theorem bw_v {A : Nat → Int → Int} {t k i m x : Int} (hm : m = (A 35 (k + 13 + i) - A 35 (k + i)) * t) (hx : x = A 35 (k + i) + m.tdiv 16) : (m.tmod 16 = 0 ↔ ((A 35 (k + 13 + i) - A 35 (k + i)) * t) % 16 = 0) ∧ (m.tmod 16 = 0 → x = bwv A t k i) := by
  have h3 := gtd m 16 (by omega)
  unfold bwv
  rw [← hm]
  refine ⟨by omega, fun z => ?_⟩
  omega

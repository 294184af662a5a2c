/-! THE REFERENCE follows a derivation of READING: its stack holds the frames that wait -/
def cd : Fr → Int
  | (.inl _) => 3
  | (.inr (.inl _)) => 4
  | (.inr (.inr (.inl _))) => 1
  | (.inr (.inr (.inr (.inl _)))) => 2
  | (.inr (.inr (.inr (.inr (.inl _))))) => 0
  | (.inr (.inr (.inr (.inr (.inr (.inl _)))))) => 5
  | (.inr (.inr (.inr (.inr (.inr (.inr ((_, _)))))))) => 6
def vc : List Fr → Nat
  | [] => 0
  | (.inr (.inr (.inl _))) :: S => vc S + 1
  | (.inr (.inr (.inr (.inl _)))) :: S => vc S + 1
  | (.inr (.inr (.inr (.inr (.inr (.inr ((_, _)))))))) :: S => vc S + 1
  | (.inl _) :: S => vc S
  | (.inr (.inl _)) :: S => vc S
  | (.inr (.inr (.inr (.inr (.inl _))))) :: S => vc S
  | (.inr (.inr (.inr (.inr (.inr (.inl _)))))) :: S => vc S
/-- form k of the work bears the value U -/
def rV (A : Nat → Int → Int) (k : Nat) (U : Int → Int) : Prop := ∀ i, 0 ≤ i → i < 13 → A 35 ((k : Int) * 13 + i) = U i
/-- .. bears numbers, whatever has been flagged -/
def rB (A : Nat → Int → Int) (k : Nat) : Prop := ∀ i, 0 ≤ i → i < 13 → gin (A 35 ((k : Int) * 13 + i))
theorem rB_fr {A B : Nat → Int → Int} {k : Nat} (h : rB A k) (e : ∀ z, (k : Int) * 13 ≤ z → z < (k : Int) * 13 + 13 → B 35 z = A 35 z) : rB B k := fun i a c => by
  rw [e _ (by omega) (by omega)]
  exact h i a c
def mF (A : Nat → Int → Int) (g : Prop) (t v : Nat) : Fr → Prop
  | (.inl _) => True
  | (.inr (.inr (.inr (.inr (.inl _))))) => True
  | (.inr (.inl c)) => A 38 (t : Int) = c * 4096 ∧ -16000 ≤ c ∧ c ≤ 16000
  | (.inr (.inr (.inr (.inr (.inr (.inl c)))))) => A 38 (t : Int) = c * 4096 ∧ -16000 ≤ c ∧ c ≤ 16000
  | (.inr (.inr (.inl U))) => g → rV A (300 + v) U ∧ far U
  | (.inr (.inr (.inr (.inl U)))) => g → rV A (300 + v) U ∧ far U
  | (.inr (.inr (.inr (.inr (.inr (.inr ((c, U)))))))) => (A 38 (t : Int) = c * 4096 ∧ -16000 ≤ c ∧ c ≤ 16000) ∧ rB A (300 + v) ∧ (g → rV A (300 + v) U ∧ inr U)
def mt (A : Nat → Int → Int) (g : Prop) : List Fr → Prop
  | [] => True
  | f :: S => A 36 (S.length : Int) = cd f ∧ mF A g S.length (vc S) f ∧ mt A g S
theorem rV_fr {A B : Nat → Int → Int} {k : Nat} {U : Int → Int} (h : rV A k U) (e : ∀ z, (k : Int) * 13 ≤ z → z < (k : Int) * 13 + 13 → B 35 z = A 35 z) : rV B k U := fun i a c => by
  rw [e _ (by omega) (by omega)]
  exact h i a c
theorem mF_fr {A B : Nat → Int → Int} {g g2 : Prop} {t v : Nat} {f : Fr} (h : mF A g t v f) (hg : g2 → g) (e38 : B 38 (t : Int) = A 38 (t : Int)) (e35 : ∀ z, ((300 + v : Nat) : Int) * 13 ≤ z → z < ((300 + v : Nat) : Int) * 13 + 13 → B 35 z = A 35 z) : mF B g2 t v f := by
  rcases f with _ | c | U | U | _ | c | ⟨c, U⟩
  · (trivial)
  · (exact ⟨e38.trans h.1, h.2⟩)
  · (exact fun z => ⟨rV_fr (h (hg z)).1 e35, (h (hg z)).2⟩)
  · (exact fun z => ⟨rV_fr (h (hg z)).1 e35, (h (hg z)).2⟩)
  · (trivial)
  · (exact ⟨e38.trans h.1, h.2⟩)
  · (exact ⟨⟨e38.trans h.1.1, h.1.2⟩, rB_fr h.2.1 e35, fun z => ⟨rV_fr (h.2.2 (hg z)).1 e35, (h.2.2 (hg z)).2⟩⟩)
theorem vc_le (f : Fr) (S : List Fr) : vc S ≤ vc (f :: S) ∧ vc (f :: S) ≤ vc S + 1 := by rcases f with _ | _ | _ | _ | _ | _ | ⟨_, _⟩ <;> simp [vc]
/-- what waits below stays -/
theorem mt_fr {A B : Nat → Int → Int} {g g2 : Prop} (hg : g2 → g) : ∀ (S : List Fr), mt A g S → (∀ t : Nat, t < S.length → B 36 (t : Int) = A 36 (t : Int) ∧ B 38 (t : Int) = A 38 (t : Int)) → (∀ z, 3900 ≤ z → z < ((300 + vc S : Nat) : Int) * 13 → B 35 z = A 35 z) → mt B g2 S
  | [], _, _, _ => trivial
  | f :: S, h, h36, h35 => by
    have hv := vc_le f S
    refine ⟨?_, ?_, mt_fr hg S h.2.2 (fun t ht => h36 t (by simp; omega)) (fun z z0 z1 => h35 z z0 (by omega))⟩
    · rw [(h36 S.length (by simp)).1]; exact h.1
    · refine mF_full (S := S) h.2.1 hg (h36 S.length (by simp)).2 ?_
      intro hf z z0 z1
      exact h35 z (by omega) (by omega)
where
  mF_full {A B : Nat → Int → Int} {g g2 : Prop} {t v : Nat} {f : Fr} {S : List Fr} (h : mF A g t v f) (hg : g2 → g) (e38 : B 38 (t : Int) = A 38 (t : Int)) (e35 : vc (f :: S) = vc S + 1 → ∀ z, ((300 + v : Nat) : Int) * 13 ≤ z → z < ((300 + v : Nat) : Int) * 13 + 13 → B 35 z = A 35 z) : mF B g2 t v f := by
    rcases f with _ | c | U | U | _ | c | ⟨c, U⟩
    · (trivial)
    · (exact ⟨e38.trans h.1, h.2⟩)
    · (exact fun z => ⟨rV_fr (h (hg z)).1 (e35 rfl), (h (hg z)).2⟩)
    · (exact fun z => ⟨rV_fr (h (hg z)).1 (e35 rfl), (h (hg z)).2⟩)
    · (trivial)
    · (exact ⟨e38.trans h.1, h.2⟩)
    · (exact ⟨⟨e38.trans h.1.1, h.1.2⟩, rB_fr h.2.1 (e35 rfl), fun z => ⟨rV_fr (h.2.2 (hg z)).1 (e35 rfl), (h.2.2 (hg z)).2⟩⟩)
def mO (S : List Fr) (g : Prop) (I : Nat → Int) (A : Nat → Int → Int) : Prop := I 13 = (S.length : Int) ∧ I 9 = (vc S : Int) ∧ I 14 = dep S ∧ (I 15 = 0 ↔ g) ∧ mt A g S
def mT (F : Int → Int) (S : List Fr) (g : Prop) (I : Nat → Int) (A : Nat → Int → Int) : Prop := I 13 = (S.length : Int) ∧ I 9 = (vc S : Int) + 1 ∧ I 14 = dep S ∧ (I 15 = 0 ↔ g) ∧ mt A g S ∧ rB A (300 + vc S) ∧ (g → rV A (300 + vc S) F)
/-- .. of a sum that is not checked yet -/
def mD (F : Int → Int) (S : List Fr) (g : Prop) (I : Nat → Int) (A : Nat → Int → Int) : Prop := I 13 = (S.length : Int) ∧ I 9 = (vc S : Int) + 1 ∧ I 14 = dep S ∧ (I 15 = 0 ↔ g) ∧ mt A g S ∧ (g → rV A (300 + vc S) F ∧ far F)
section INV
variable {n : Int} {X Y : Int → Int} {V : Int → Int → Int} {p : Int} {F : Int → Int} {S : List Fr} {g : Prop} {r : ER}
theorem td_neg (h : RE n X Y V (.td p F (.neg :: S) g) r) : ∃ F2 : Int → Int, (g → ∀ i, 0 ≤ i → i < 13 → F2 i = -1 * F i) ∧ (g → inr F2) ∧ RE n X Y V (.td p F2 S g) r := by
  obtain ⟨k9, h⟩ := h
  induction k9 generalizing F with
  | zero => exact h.elim
  | succ k9 ih =>
    rcases h with ⟨_, _, _, e09, _, _⟩ | ⟨_, _, _, e09, _, _, _, _, _⟩ | ⟨_, _, _, e09, e19, _, _, _⟩ | ⟨_, _, _, e09, e19, _, _, _, _⟩ | ⟨_, _, _, e09, _, _, _, _⟩ | ⟨_, _, _, _, e09, _, _, _, _, _⟩ | ⟨_, _, _, _, e09, _, _, _⟩ | ⟨_, _, _, e09, _, _, _⟩ | ⟨_, _, _, e09, e19, _, _⟩ | ⟨_, _, _, e09, e19, _, _, _, _⟩ | ⟨_, _, _, _, _, e09, hF, hb, k⟩ | ⟨_, _, _, _, _, _, _, e09, _, _, _⟩ | ⟨_, _, _, _, _, e09, hF, k⟩ | ⟨_, _, _, _, _, _, e09, _, _, _⟩ | ⟨_, _, _, _, _, _, e09, _, _, _⟩ | ⟨_, _, _, _, e09, hn, k⟩ | ⟨_, _, _, _, e09, _, _⟩ | ⟨_, _, _, _, e09, _, _⟩ | ⟨_, _, _, _, _, e09, _, _, _, _⟩ | ⟨_, _, _, _, e09, _, _⟩ | ⟨_, _, _, _, e09, e19, _⟩ | ⟨_, _, _, _, _, _, e09, _, _, _⟩ | ⟨_, _, _, _, _, e09, e19, _⟩ | ⟨_, _, _, _, _, _, _, _, e09, _, _, _, _⟩ | ⟨_, _, _, _, _, _, e09, e19, _⟩ | ⟨_, _, _, e09, e19⟩
    · cases e09
    · cases e09
    · cases e09 <;> cases e19
    · cases e09 <;> cases e19
    · cases e09
    · cases e09
    · cases e09
    · cases e09
    · cases e09 <;> cases e19
    · cases e09 <;> cases e19
    · cases e09 <;> (exact ⟨_, hF, hb, ⟨k9, k⟩⟩)
    · cases e09
    · cases e09 <;>
      (
        obtain ⟨F2, h1, h2, h3⟩ := ih k
        exact ⟨F2, fun z i a c => by rw [h1 z i a c, hF z i a c], h2, h3⟩)
    · cases e09
    · cases e09
    · cases e09 <;> (exact hn.elim)
    · cases e09
    · cases e09
    · cases e09
    · cases e09
    · cases e09 <;> cases e19
    · cases e09
    · cases e09 <;> cases e19
    · cases e09
    · cases e09 <;> cases e19
    · cases e09 <;> cases e19
theorem td_scale {c : Int} (h : RE n X Y V (.td p F (.scale c :: S) g) r) : ∃ (F2 : Int → Int) (g2 : Prop), (g2 ↔ (g ∧ fM F c)) ∧ (g2 → ∀ i, 0 ≤ i → i < 13 → F2 i = F i * c / 16) ∧ RE n X Y V (.td p F2 S g2) r := by
  obtain ⟨k9, h⟩ := h
  induction k9 generalizing F with
  | zero => exact h.elim
  | succ k9 ih =>
    rcases h with ⟨_, _, _, e09, _, _⟩ | ⟨_, _, _, e09, _, _, _, _, _⟩ | ⟨_, _, _, e09, e19, _, _, _⟩ | ⟨_, _, _, e09, e19, _, _, _, _⟩ | ⟨_, _, _, e09, _, _, _, _⟩ | ⟨_, _, _, _, e09, _, _, _, _, _⟩ | ⟨_, _, _, _, e09, _, _, _⟩ | ⟨_, _, _, e09, _, _, _⟩ | ⟨_, _, _, e09, e19, _, _⟩ | ⟨_, _, _, e09, e19, _, _, _, _⟩ | ⟨_, _, _, _, _, e09, _, _, _⟩ | ⟨_, _, _, _, _, _, _, e09, hg, hF, k⟩ | ⟨_, _, _, _, _, e09, hF, k⟩ | ⟨_, _, _, _, _, _, e09, _, _, _⟩ | ⟨_, _, _, _, _, _, e09, _, _, _⟩ | ⟨_, _, _, _, e09, hn, k⟩ | ⟨_, _, _, _, e09, _, _⟩ | ⟨_, _, _, _, e09, _, _⟩ | ⟨_, _, _, _, _, e09, _, _, _, _⟩ | ⟨_, _, _, _, e09, _, _⟩ | ⟨_, _, _, _, e09, e19, _⟩ | ⟨_, _, _, _, _, _, e09, _, _, _⟩ | ⟨_, _, _, _, _, e09, e19, _⟩ | ⟨_, _, _, _, _, _, _, _, e09, _, _, _, _⟩ | ⟨_, _, _, _, _, _, e09, e19, _⟩ | ⟨_, _, _, e09, e19⟩
    · cases e09
    · cases e09
    · cases e09 <;> cases e19
    · cases e09 <;> cases e19
    · cases e09
    · cases e09
    · cases e09
    · cases e09
    · cases e09 <;> cases e19
    · cases e09 <;> cases e19
    · cases e09
    · cases e09 <;> (exact ⟨_, _, hg, hF, ⟨k9, k⟩⟩)
    · cases e09 <;>
      (
        obtain ⟨F2, g2, h1, h2, h3⟩ := ih k
        refine ⟨F2, g2, ⟨fun z => ?_, fun z => ?_⟩, fun z i a d => by rw [h2 z i a d, hF (h1.mp z).1 i a d], h3⟩
        · have q := h1.mp z
          exact ⟨q.1, fun i a d => by rw [← hF q.1 i a d]; exact q.2 i a d⟩
        · exact h1.mpr ⟨z.1, fun i a d => by rw [hF z.1 i a d]; exact z.2 i a d⟩)
    · cases e09
    · cases e09
    · cases e09 <;> (exact hn.elim)
    · cases e09
    · cases e09
    · cases e09
    · cases e09
    · cases e09 <;> cases e19
    · cases e09
    · cases e09 <;> cases e19
    · cases e09
    · cases e09 <;> cases e19
    · cases e09 <;> cases e19
theorem td_plus {U : Int → Int} (h : RE n X Y V (.td p F (.plus U :: S) g) r) : ∃ F2 : Int → Int, (g → ∀ i, 0 ≤ i → i < 13 → F2 i = U i + F i) ∧ (g → far F2) ∧ RE n X Y V (.sd p F2 S g) r := by
  obtain ⟨k9, h⟩ := h
  induction k9 generalizing F with
  | zero => exact h.elim
  | succ k9 ih =>
    rcases h with ⟨_, _, _, e09, _, _⟩ | ⟨_, _, _, e09, _, _, _, _, _⟩ | ⟨_, _, _, e09, e19, _, _, _⟩ | ⟨_, _, _, e09, e19, _, _, _, _⟩ | ⟨_, _, _, e09, _, _, _, _⟩ | ⟨_, _, _, _, e09, _, _, _, _, _⟩ | ⟨_, _, _, _, e09, _, _, _⟩ | ⟨_, _, _, e09, _, _, _⟩ | ⟨_, _, _, e09, e19, _, _⟩ | ⟨_, _, _, e09, e19, _, _, _, _⟩ | ⟨_, _, _, _, _, e09, _, _, _⟩ | ⟨_, _, _, _, _, _, _, e09, _, _, _⟩ | ⟨_, _, _, _, _, e09, hF, k⟩ | ⟨_, _, _, _, _, _, e09, hF, hb, k⟩ | ⟨_, _, _, _, _, _, e09, _, _, _⟩ | ⟨_, _, _, _, e09, hn, k⟩ | ⟨_, _, _, _, e09, _, _⟩ | ⟨_, _, _, _, e09, _, _⟩ | ⟨_, _, _, _, _, e09, _, _, _, _⟩ | ⟨_, _, _, _, e09, _, _⟩ | ⟨_, _, _, _, e09, e19, _⟩ | ⟨_, _, _, _, _, _, e09, _, _, _⟩ | ⟨_, _, _, _, _, e09, e19, _⟩ | ⟨_, _, _, _, _, _, _, _, e09, _, _, _, _⟩ | ⟨_, _, _, _, _, _, e09, e19, _⟩ | ⟨_, _, _, e09, e19⟩
    · cases e09
    · cases e09
    · cases e09 <;> cases e19
    · cases e09 <;> cases e19
    · cases e09
    · cases e09
    · cases e09
    · cases e09
    · cases e09 <;> cases e19
    · cases e09 <;> cases e19
    · cases e09
    · cases e09
    · cases e09 <;>
      (
        obtain ⟨F2, h1, h2, h3⟩ := ih k
        exact ⟨F2, fun z i a c => by rw [h1 z i a c, hF z i a c], h2, h3⟩)
    · cases e09 <;> (exact ⟨_, hF, hb, ⟨k9, k⟩⟩)
    · cases e09
    · cases e09 <;> (exact hn.elim)
    · cases e09
    · cases e09
    · cases e09
    · cases e09
    · cases e09 <;> cases e19
    · cases e09
    · cases e09 <;> cases e19
    · cases e09
    · cases e09 <;> cases e19
    · cases e09 <;> cases e19
theorem td_mins {U : Int → Int} (h : RE n X Y V (.td p F (.mins U :: S) g) r) : ∃ F2 : Int → Int, (g → ∀ i, 0 ≤ i → i < 13 → F2 i = U i - F i) ∧ (g → far F2) ∧ RE n X Y V (.sd p F2 S g) r := by
  obtain ⟨k9, h⟩ := h
  induction k9 generalizing F with
  | zero => exact h.elim
  | succ k9 ih =>
    rcases h with ⟨_, _, _, e09, _, _⟩ | ⟨_, _, _, e09, _, _, _, _, _⟩ | ⟨_, _, _, e09, e19, _, _, _⟩ | ⟨_, _, _, e09, e19, _, _, _, _⟩ | ⟨_, _, _, e09, _, _, _, _⟩ | ⟨_, _, _, _, e09, _, _, _, _, _⟩ | ⟨_, _, _, _, e09, _, _, _⟩ | ⟨_, _, _, e09, _, _, _⟩ | ⟨_, _, _, e09, e19, _, _⟩ | ⟨_, _, _, e09, e19, _, _, _, _⟩ | ⟨_, _, _, _, _, e09, _, _, _⟩ | ⟨_, _, _, _, _, _, _, e09, _, _, _⟩ | ⟨_, _, _, _, _, e09, hF, k⟩ | ⟨_, _, _, _, _, _, e09, _, _, _⟩ | ⟨_, _, _, _, _, _, e09, hF, hb, k⟩ | ⟨_, _, _, _, e09, hn, k⟩ | ⟨_, _, _, _, e09, _, _⟩ | ⟨_, _, _, _, e09, _, _⟩ | ⟨_, _, _, _, _, e09, _, _, _, _⟩ | ⟨_, _, _, _, e09, _, _⟩ | ⟨_, _, _, _, e09, e19, _⟩ | ⟨_, _, _, _, _, _, e09, _, _, _⟩ | ⟨_, _, _, _, _, e09, e19, _⟩ | ⟨_, _, _, _, _, _, _, _, e09, _, _, _, _⟩ | ⟨_, _, _, _, _, _, e09, e19, _⟩ | ⟨_, _, _, e09, e19⟩
    · cases e09
    · cases e09
    · cases e09 <;> cases e19
    · cases e09 <;> cases e19
    · cases e09
    · cases e09
    · cases e09
    · cases e09
    · cases e09 <;> cases e19
    · cases e09 <;> cases e19
    · cases e09
    · cases e09
    · cases e09 <;>
      (
        obtain ⟨F2, h1, h2, h3⟩ := ih k
        exact ⟨F2, fun z i a c => by rw [h1 z i a c, hF z i a c], h2, h3⟩)
    · cases e09
    · cases e09 <;> (exact ⟨_, hF, hb, ⟨k9, k⟩⟩)
    · cases e09 <;> (exact hn.elim)
    · cases e09
    · cases e09
    · cases e09
    · cases e09
    · cases e09 <;> cases e19
    · cases e09
    · cases e09 <;> cases e19
    · cases e09
    · cases e09 <;> cases e19
    · cases e09 <;> cases e19
theorem td_bare (hn : nb S) (h : RE n X Y V (.td p F S g) r) : ∃ F2 : Int → Int, (g → vis F2 F) ∧ RE n X Y V (.sd p F2 S g) r := by
  obtain ⟨k9, h⟩ := h
  induction k9 generalizing F with
  | zero => exact h.elim
  | succ k9 ih =>
    rcases h with ⟨_, _, _, e09, _, _⟩ | ⟨_, _, _, e09, _, _, _, _, _⟩ | ⟨_, _, _, e09, e19, _, _, _⟩ | ⟨_, _, _, e09, e19, _, _, _, _⟩ | ⟨_, _, _, e09, _, _, _, _⟩ | ⟨_, _, _, _, e09, _, _, _, _, _⟩ | ⟨_, _, _, _, e09, _, _, _⟩ | ⟨_, _, _, e09, _, _, _⟩ | ⟨_, _, _, e09, e19, _, _⟩ | ⟨_, _, _, e09, e19, _, _, _, _⟩ | ⟨_, _, _, _, _, e09, _, _, _⟩ | ⟨_, _, _, _, _, _, _, e09, _, _, _⟩ | ⟨_, _, _, _, _, e09, hF, k⟩ | ⟨_, _, _, _, _, _, e09, _, _, _⟩ | ⟨_, _, _, _, _, _, e09, _, _, _⟩ | ⟨_, _, _, _, e09, _, k⟩ | ⟨_, _, _, _, e09, _, _⟩ | ⟨_, _, _, _, e09, _, _⟩ | ⟨_, _, _, _, _, e09, _, _, _, _⟩ | ⟨_, _, _, _, e09, _, _⟩ | ⟨_, _, _, _, e09, e19, _⟩ | ⟨_, _, _, _, _, _, e09, _, _, _⟩ | ⟨_, _, _, _, _, e09, e19, _⟩ | ⟨_, _, _, _, _, _, _, _, e09, _, _, _, _⟩ | ⟨_, _, _, _, _, _, e09, e19, _⟩ | ⟨_, _, _, e09, e19⟩
    · cases e09
    · cases e09
    · cases e09 <;> cases e19
    · cases e09 <;> cases e19
    · cases e09
    · cases e09
    · cases e09
    · cases e09
    · cases e09 <;> cases e19
    · cases e09 <;> cases e19
    · cases e09 <;> (exact hn.elim)
    · cases e09 <;> (exact hn.elim)
    · cases e09 <;>
      (
        obtain ⟨F2, h1, h2⟩ := ih k
        exact ⟨F2, fun z i a c => by rw [h1 z i a c, hF z i a c], h2⟩)
    · cases e09 <;> (exact hn.elim)
    · cases e09 <;> (exact hn.elim)
    · cases e09 <;> (exact ⟨_, fun _ _ _ _ => rfl, ⟨k9, k⟩⟩)
    · cases e09
    · cases e09
    · cases e09
    · cases e09
    · cases e09 <;> cases e19
    · cases e09
    · cases e09 <;> cases e19
    · cases e09
    · cases e09 <;> cases e19
    · cases e09 <;> cases e19
theorem sd_add (h : RE n X Y V (.sd p F S g) r) (h0 : xW n X Y p 0) : RE n X Y V (.op (p + 1) (.plus F :: S) g) r := by
  have hh9 := RE.inv h
  clear h
  rcases hh9 with ⟨_, _, _, e09, _, _⟩ | ⟨_, _, _, e09, _, _, _, _, _⟩ | ⟨_, _, _, e09, e19, _, _, _⟩ | ⟨_, _, _, e09, e19, _, _, _, _⟩ | ⟨_, _, _, e09, _, _, _, _⟩ | ⟨_, _, _, _, e09, _, _, _, _, _⟩ | ⟨_, _, _, _, e09, _, _, _⟩ | ⟨_, _, _, e09, _, _, _⟩ | ⟨_, _, _, e09, e19, _, _⟩ | ⟨_, _, _, e09, e19, _, _, _, _⟩ | ⟨_, _, _, _, _, e09, _, _, _⟩ | ⟨_, _, _, _, _, _, _, e09, _, _, _⟩ | ⟨_, _, _, _, _, e09, _, _⟩ | ⟨_, _, _, _, _, _, e09, _, _, _⟩ | ⟨_, _, _, _, _, _, e09, _, _, _⟩ | ⟨_, _, _, _, e09, _, _⟩ | ⟨_, _, _, _, e09, _, k⟩ | ⟨_, _, _, _, e09, h1, _⟩ | ⟨_, _, _, _, _, e09, h1, _, _, _⟩ | ⟨_, _, _, _, e09, _, _⟩ | ⟨_, _, _, _, e09, e19, _⟩ | ⟨_, _, _, _, _, _, e09, _, _, _⟩ | ⟨_, _, _, _, _, e09, e19, _⟩ | ⟨_, _, _, _, _, _, _, _, e09, _, _, _, _⟩ | ⟨_, _, _, _, _, _, e09, e19, _⟩ | ⟨_, _, _, e09, e19⟩
  · cases e09
  · cases e09
  · cases e09 <;> cases e19
  · cases e09 <;> cases e19
  · cases e09
  · cases e09
  · cases e09
  · cases e09
  · cases e09 <;> cases e19
  · cases e09 <;> cases e19
  · cases e09
  · cases e09
  · cases e09
  · cases e09
  · cases e09
  · cases e09
  · cases e09 <;> (exact k)
  · cases e09 <;> (exact absurd (h1.2.2.symm.trans h0.2.2) (by decide))
  · cases e09 <;> (exact absurd h0 h1)
  · cases e09
  · cases e09 <;> cases e19
  · cases e09
  · cases e09 <;> cases e19
  · cases e09
  · cases e09 <;> cases e19
  · cases e09 <;> cases e19
theorem sd_sub (h : RE n X Y V (.sd p F S g) r) (h0 : xW n X Y p 1) : RE n X Y V (.op (p + 1) (.mins F :: S) g) r := by
  have hh9 := RE.inv h
  clear h
  rcases hh9 with ⟨_, _, _, e09, _, _⟩ | ⟨_, _, _, e09, _, _, _, _, _⟩ | ⟨_, _, _, e09, e19, _, _, _⟩ | ⟨_, _, _, e09, e19, _, _, _, _⟩ | ⟨_, _, _, e09, _, _, _, _⟩ | ⟨_, _, _, _, e09, _, _, _, _, _⟩ | ⟨_, _, _, _, e09, _, _, _⟩ | ⟨_, _, _, e09, _, _, _⟩ | ⟨_, _, _, e09, e19, _, _⟩ | ⟨_, _, _, e09, e19, _, _, _, _⟩ | ⟨_, _, _, _, _, e09, _, _, _⟩ | ⟨_, _, _, _, _, _, _, e09, _, _, _⟩ | ⟨_, _, _, _, _, e09, _, _⟩ | ⟨_, _, _, _, _, _, e09, _, _, _⟩ | ⟨_, _, _, _, _, _, e09, _, _, _⟩ | ⟨_, _, _, _, e09, _, _⟩ | ⟨_, _, _, _, e09, h1, _⟩ | ⟨_, _, _, _, e09, _, k⟩ | ⟨_, _, _, _, _, e09, _, h1, _, _⟩ | ⟨_, _, _, _, e09, _, _⟩ | ⟨_, _, _, _, e09, e19, _⟩ | ⟨_, _, _, _, _, _, e09, _, _, _⟩ | ⟨_, _, _, _, _, e09, e19, _⟩ | ⟨_, _, _, _, _, _, _, _, e09, _, _, _, _⟩ | ⟨_, _, _, _, _, _, e09, e19, _⟩ | ⟨_, _, _, e09, e19⟩
  · cases e09
  · cases e09
  · cases e09 <;> cases e19
  · cases e09 <;> cases e19
  · cases e09
  · cases e09
  · cases e09
  · cases e09
  · cases e09 <;> cases e19
  · cases e09 <;> cases e19
  · cases e09
  · cases e09
  · cases e09
  · cases e09
  · cases e09
  · cases e09
  · cases e09 <;> (exact absurd (h1.2.2.symm.trans h0.2.2) (by decide))
  · cases e09 <;> (exact k)
  · cases e09 <;> (exact absurd h0 h1)
  · cases e09
  · cases e09 <;> cases e19
  · cases e09
  · cases e09 <;> cases e19
  · cases e09
  · cases e09 <;> cases e19
  · cases e09 <;> cases e19
theorem sd_chk (h : RE n X Y V (.sd p F S g) r) (h0 : ¬ xW n X Y p 0) (h1 : ¬ xW n X Y p 1) : ∃ g2 : Prop, (g2 ↔ (g ∧ inr F)) ∧ RE n X Y V (.ed p F S g2) r := by
  have hh9 := RE.inv h
  clear h
  rcases hh9 with ⟨_, _, _, e09, _, _⟩ | ⟨_, _, _, e09, _, _, _, _, _⟩ | ⟨_, _, _, e09, e19, _, _, _⟩ | ⟨_, _, _, e09, e19, _, _, _, _⟩ | ⟨_, _, _, e09, _, _, _, _⟩ | ⟨_, _, _, _, e09, _, _, _, _, _⟩ | ⟨_, _, _, _, e09, _, _, _⟩ | ⟨_, _, _, e09, _, _, _⟩ | ⟨_, _, _, e09, e19, _, _⟩ | ⟨_, _, _, e09, e19, _, _, _, _⟩ | ⟨_, _, _, _, _, e09, _, _, _⟩ | ⟨_, _, _, _, _, _, _, e09, _, _, _⟩ | ⟨_, _, _, _, _, e09, _, _⟩ | ⟨_, _, _, _, _, _, e09, _, _, _⟩ | ⟨_, _, _, _, _, _, e09, _, _, _⟩ | ⟨_, _, _, _, e09, _, _⟩ | ⟨_, _, _, _, e09, h2, _⟩ | ⟨_, _, _, _, e09, h2, _⟩ | ⟨_, _, _, _, _, e09, _, _, hg, k⟩ | ⟨_, _, _, _, e09, _, _⟩ | ⟨_, _, _, _, e09, e19, _⟩ | ⟨_, _, _, _, _, _, e09, _, _, _⟩ | ⟨_, _, _, _, _, e09, e19, _⟩ | ⟨_, _, _, _, _, _, _, _, e09, _, _, _, _⟩ | ⟨_, _, _, _, _, _, e09, e19, _⟩ | ⟨_, _, _, e09, e19⟩
  · cases e09
  · cases e09
  · cases e09 <;> cases e19
  · cases e09 <;> cases e19
  · cases e09
  · cases e09
  · cases e09
  · cases e09
  · cases e09 <;> cases e19
  · cases e09 <;> cases e19
  · cases e09
  · cases e09
  · cases e09
  · cases e09
  · cases e09
  · cases e09
  · cases e09 <;> (exact absurd h2 h0)
  · cases e09 <;> (exact absurd h2 h1)
  · cases e09 <;> (exact ⟨_, hg, k⟩)
  · cases e09
  · cases e09 <;> cases e19
  · cases e09
  · cases e09 <;> cases e19
  · cases e09
  · cases e09 <;> cases e19
  · cases e09 <;> cases e19
theorem ed_br (h : RE n X Y V (.ed p F (.br :: S) g) r) : (xW n X Y p 4 → RE n X Y V (.td (p + 1) F S g) r) ∧ (¬ xW n X Y p 4 → r = .err (-8) p) := by
  have hh9 := RE.inv h
  clear h
  rcases hh9 with ⟨_, _, _, e09, _, _⟩ | ⟨_, _, _, e09, _, _, _, _, _⟩ | ⟨_, _, _, e09, e19, _, _, _⟩ | ⟨_, _, _, e09, e19, _, _, _, _⟩ | ⟨_, _, _, e09, _, _, _, _⟩ | ⟨_, _, _, _, e09, _, _, _, _, _⟩ | ⟨_, _, _, _, e09, _, _, _⟩ | ⟨_, _, _, e09, _, _, _⟩ | ⟨_, _, _, e09, e19, _, _⟩ | ⟨_, _, _, e09, e19, _, _, _, _⟩ | ⟨_, _, _, _, _, e09, _, _, _⟩ | ⟨_, _, _, _, _, _, _, e09, _, _, _⟩ | ⟨_, _, _, _, _, e09, _, _⟩ | ⟨_, _, _, _, _, _, e09, _, _, _⟩ | ⟨_, _, _, _, _, _, e09, _, _, _⟩ | ⟨_, _, _, _, e09, _, _⟩ | ⟨_, _, _, _, e09, _, _⟩ | ⟨_, _, _, _, e09, _, _⟩ | ⟨_, _, _, _, _, e09, _, _, _, _⟩ | ⟨_, _, _, _, e09, h4, k⟩ | ⟨_, _, _, _, e09, e19, h4⟩ | ⟨_, _, _, _, _, _, e09, _, _, _⟩ | ⟨_, _, _, _, _, e09, e19, _⟩ | ⟨_, _, _, _, _, _, _, _, e09, _, _, _, _⟩ | ⟨_, _, _, _, _, _, e09, e19, _⟩ | ⟨_, _, _, e09, e19⟩
  · cases e09
  · cases e09
  · cases e09 <;> cases e19
  · cases e09 <;> cases e19
  · cases e09
  · cases e09
  · cases e09
  · cases e09
  · cases e09 <;> cases e19
  · cases e09 <;> cases e19
  · cases e09
  · cases e09
  · cases e09
  · cases e09
  · cases e09
  · cases e09
  · cases e09
  · cases e09
  · cases e09
  · cases e09 <;> (exact ⟨fun _ => k, fun z => absurd h4 z⟩)
  · cases e09 <;> cases e19 <;> (exact ⟨fun z => absurd z h4, fun _ => rfl⟩)
  · cases e09
  · cases e09 <;> cases e19
  · cases e09
  · cases e09 <;> cases e19
  · cases e09 <;> cases e19
theorem ed_bt1 {c : Int} (h : RE n X Y V (.ed p F (.bt1 c :: S) g) r) : (xW n X Y p 5 → ∃ U : Int → Int, (g → vis U F) ∧ RE n X Y V (.op (p + 1) (.bt2 c U :: S) g) r) ∧ (¬ xW n X Y p 5 → r = .err (-8) p) := by
  have hh9 := RE.inv h
  clear h
  rcases hh9 with ⟨_, _, _, e09, _, _⟩ | ⟨_, _, _, e09, _, _, _, _, _⟩ | ⟨_, _, _, e09, e19, _, _, _⟩ | ⟨_, _, _, e09, e19, _, _, _, _⟩ | ⟨_, _, _, e09, _, _, _, _⟩ | ⟨_, _, _, _, e09, _, _, _, _, _⟩ | ⟨_, _, _, _, e09, _, _, _⟩ | ⟨_, _, _, e09, _, _, _⟩ | ⟨_, _, _, e09, e19, _, _⟩ | ⟨_, _, _, e09, e19, _, _, _, _⟩ | ⟨_, _, _, _, _, e09, _, _, _⟩ | ⟨_, _, _, _, _, _, _, e09, _, _, _⟩ | ⟨_, _, _, _, _, e09, _, _⟩ | ⟨_, _, _, _, _, _, e09, _, _, _⟩ | ⟨_, _, _, _, _, _, e09, _, _, _⟩ | ⟨_, _, _, _, e09, _, _⟩ | ⟨_, _, _, _, e09, _, _⟩ | ⟨_, _, _, _, e09, _, _⟩ | ⟨_, _, _, _, _, e09, _, _, _, _⟩ | ⟨_, _, _, _, e09, _, _⟩ | ⟨_, _, _, _, e09, e19, _⟩ | ⟨_, _, _, _, _, _, e09, h5, hU, k⟩ | ⟨_, _, _, _, _, e09, e19, h5⟩ | ⟨_, _, _, _, _, _, _, _, e09, _, _, _, _⟩ | ⟨_, _, _, _, _, _, e09, e19, _⟩ | ⟨_, _, _, e09, e19⟩
  · cases e09
  · cases e09
  · cases e09 <;> cases e19
  · cases e09 <;> cases e19
  · cases e09
  · cases e09
  · cases e09
  · cases e09
  · cases e09 <;> cases e19
  · cases e09 <;> cases e19
  · cases e09
  · cases e09
  · cases e09
  · cases e09
  · cases e09
  · cases e09
  · cases e09
  · cases e09
  · cases e09
  · cases e09
  · cases e09 <;> cases e19
  · cases e09 <;> (exact ⟨fun _ => ⟨_, hU, k⟩, fun z => absurd h5 z⟩)
  · cases e09 <;> cases e19 <;> (exact ⟨fun z => absurd z h5, fun _ => rfl⟩)
  · cases e09
  · cases e09 <;> cases e19
  · cases e09 <;> cases e19
theorem ed_bt2 {c : Int} {U : Int → Int} (h : RE n X Y V (.ed p F (.bt2 c U :: S) g) r) : (xW n X Y p 4 → ∃ (F2 : Int → Int) (g2 : Prop), (g2 ↔ (g ∧ fB c U F)) ∧ (g2 → ∀ i, 0 ≤ i → i < 13 → F2 i = U i + (F i - U i) * c / 16) ∧ RE n X Y V (.td (p + 1) F2 S g2) r) ∧ (¬ xW n X Y p 4 → r = .err (-8) p) := by
  have hh9 := RE.inv h
  clear h
  rcases hh9 with ⟨_, _, _, e09, _, _⟩ | ⟨_, _, _, e09, _, _, _, _, _⟩ | ⟨_, _, _, e09, e19, _, _, _⟩ | ⟨_, _, _, e09, e19, _, _, _, _⟩ | ⟨_, _, _, e09, _, _, _, _⟩ | ⟨_, _, _, _, e09, _, _, _, _, _⟩ | ⟨_, _, _, _, e09, _, _, _⟩ | ⟨_, _, _, e09, _, _, _⟩ | ⟨_, _, _, e09, e19, _, _⟩ | ⟨_, _, _, e09, e19, _, _, _, _⟩ | ⟨_, _, _, _, _, e09, _, _, _⟩ | ⟨_, _, _, _, _, _, _, e09, _, _, _⟩ | ⟨_, _, _, _, _, e09, _, _⟩ | ⟨_, _, _, _, _, _, e09, _, _, _⟩ | ⟨_, _, _, _, _, _, e09, _, _, _⟩ | ⟨_, _, _, _, e09, _, _⟩ | ⟨_, _, _, _, e09, _, _⟩ | ⟨_, _, _, _, e09, _, _⟩ | ⟨_, _, _, _, _, e09, _, _, _, _⟩ | ⟨_, _, _, _, e09, _, _⟩ | ⟨_, _, _, _, e09, e19, _⟩ | ⟨_, _, _, _, _, _, e09, _, _, _⟩ | ⟨_, _, _, _, _, e09, e19, _⟩ | ⟨_, _, _, _, _, _, _, _, e09, h4, hg, hF, k⟩ | ⟨_, _, _, _, _, _, e09, e19, h4⟩ | ⟨_, _, _, e09, e19⟩
  · cases e09
  · cases e09
  · cases e09 <;> cases e19
  · cases e09 <;> cases e19
  · cases e09
  · cases e09
  · cases e09
  · cases e09
  · cases e09 <;> cases e19
  · cases e09 <;> cases e19
  · cases e09
  · cases e09
  · cases e09
  · cases e09
  · cases e09
  · cases e09
  · cases e09
  · cases e09
  · cases e09
  · cases e09
  · cases e09 <;> cases e19
  · cases e09
  · cases e09 <;> cases e19
  · cases e09 <;> (exact ⟨fun _ => ⟨_, _, hg, hF, k⟩, fun z => absurd h4 z⟩)
  · cases e09 <;> cases e19 <;> (exact ⟨fun z => absurd z h4, fun _ => rfl⟩)
  · cases e09 <;> cases e19
theorem ed_fin (h : RE n X Y V (.ed p F [] g) r) : r = .ok p F g := by
  have hh9 := RE.inv h
  clear h
  rcases hh9 with ⟨_, _, _, e09, _, _⟩ | ⟨_, _, _, e09, _, _, _, _, _⟩ | ⟨_, _, _, e09, e19, _, _, _⟩ | ⟨_, _, _, e09, e19, _, _, _, _⟩ | ⟨_, _, _, e09, _, _, _, _⟩ | ⟨_, _, _, _, e09, _, _, _, _, _⟩ | ⟨_, _, _, _, e09, _, _, _⟩ | ⟨_, _, _, e09, _, _, _⟩ | ⟨_, _, _, e09, e19, _, _⟩ | ⟨_, _, _, e09, e19, _, _, _, _⟩ | ⟨_, _, _, _, _, e09, _, _, _⟩ | ⟨_, _, _, _, _, _, _, e09, _, _, _⟩ | ⟨_, _, _, _, _, e09, _, _⟩ | ⟨_, _, _, _, _, _, e09, _, _, _⟩ | ⟨_, _, _, _, _, _, e09, _, _, _⟩ | ⟨_, _, _, _, e09, _, _⟩ | ⟨_, _, _, _, e09, _, _⟩ | ⟨_, _, _, _, e09, _, _⟩ | ⟨_, _, _, _, _, e09, _, _, _, _⟩ | ⟨_, _, _, _, e09, _, _⟩ | ⟨_, _, _, _, e09, e19, _⟩ | ⟨_, _, _, _, _, _, e09, _, _, _⟩ | ⟨_, _, _, _, _, e09, e19, _⟩ | ⟨_, _, _, _, _, _, _, _, e09, _, _, _, _⟩ | ⟨_, _, _, _, _, _, e09, e19, _⟩ | ⟨_, _, _, e09, e19⟩
  · cases e09
  · cases e09
  · cases e09 <;> cases e19
  · cases e09 <;> cases e19
  · cases e09
  · cases e09
  · cases e09
  · cases e09
  · cases e09 <;> cases e19
  · cases e09 <;> cases e19
  · cases e09
  · cases e09
  · cases e09
  · cases e09
  · cases e09
  · cases e09
  · cases e09
  · cases e09
  · cases e09
  · cases e09
  · cases e09 <;> cases e19
  · cases e09
  · cases e09 <;> cases e19
  · cases e09
  · cases e09 <;> cases e19
  · cases e09 <;> cases e19 <;> (rfl)
theorem xW_ne {n : Int} {X Y : Int → Int} {p a b : Int} (h : xW n X Y p a) (hab : a ≠ b) : ¬ xW n X Y p b := fun z => hab (h.2.2.symm.trans z.2.2)
theorem xW_k {n : Int} {X Y : Int → Int} {p a k : Int} (h : xW n X Y p a) (hk : k ≠ 4) : ¬ (p < n ∧ X p = k) := fun z => hk (z.2.symm.trans h.2.1)
theorem op_minus (h : RE n X Y V (.op p S g) r) (h1 : xW n X Y p 1) : RE n X Y V (.op (p + 1) (.neg :: S) g) r := by
  have hh9 := RE.inv h
  clear h
  rcases hh9 with ⟨_, _, _, e09, _, k⟩ | ⟨_, _, _, e09, h, _, _, _, _⟩ | ⟨_, _, _, e09, e19, h, _, _⟩ | ⟨_, _, _, e09, e19, h, _, _, _⟩ | ⟨_, _, _, e09, h, _, _, _⟩ | ⟨_, _, _, _, e09, h, _, _, _, _⟩ | ⟨_, _, _, _, e09, h, _, _⟩ | ⟨_, _, _, e09, h, _, _⟩ | ⟨_, _, _, e09, e19, h, _⟩ | ⟨_, _, _, e09, e19, h, _, _, _⟩ | ⟨_, _, _, _, _, e09, _, _, _⟩ | ⟨_, _, _, _, _, _, _, e09, _, _, _⟩ | ⟨_, _, _, _, _, e09, _, _⟩ | ⟨_, _, _, _, _, _, e09, _, _, _⟩ | ⟨_, _, _, _, _, _, e09, _, _, _⟩ | ⟨_, _, _, _, e09, _, _⟩ | ⟨_, _, _, _, e09, _, _⟩ | ⟨_, _, _, _, e09, _, _⟩ | ⟨_, _, _, _, _, e09, _, _, _, _⟩ | ⟨_, _, _, _, e09, _, _⟩ | ⟨_, _, _, _, e09, e19, _⟩ | ⟨_, _, _, _, _, _, e09, _, _, _⟩ | ⟨_, _, _, _, _, e09, e19, _⟩ | ⟨_, _, _, _, _, _, _, _, e09, _, _, _, _⟩ | ⟨_, _, _, _, _, _, e09, e19, _⟩ | ⟨_, _, _, e09, e19⟩
  · cases e09 <;> (exact k)
  · cases e09 <;> (exact absurd h (xW_k h1 (by decide)))
  · cases e09 <;> cases e19 <;> (exact absurd h (xW_k h1 (by decide)))
  · cases e09 <;> cases e19 <;> (exact absurd h (xW_k h1 (by decide)))
  · cases e09 <;> (exact absurd h (xW_k h1 (by decide)))
  · cases e09 <;> (exact absurd h (xW_k h1 (by decide)))
  · cases e09 <;> (exact absurd h (xW_k h1 (by decide)))
  · cases e09 <;> (exact absurd h (xW_ne h1 (by decide)))
  · cases e09 <;> cases e19 <;> (exact absurd h (xW_ne h1 (by decide)))
  · cases e09 <;> cases e19 <;> (exact absurd h1 h)
  · cases e09
  · cases e09
  · cases e09
  · cases e09
  · cases e09
  · cases e09
  · cases e09
  · cases e09
  · cases e09
  · cases e09
  · cases e09 <;> cases e19
  · cases e09
  · cases e09 <;> cases e19
  · cases e09
  · cases e09 <;> cases e19
  · cases e09 <;> cases e19
/-- a constant -/
theorem op_con (h : RE n X Y V (.op p S g) r) (h0 : p < n ∧ X p = 0) : (xW n X Y (p + 1) 13 → (¬ xW n X Y (p + 2) 3 → r = .err (-8) (p + 2)) ∧ (xW n X Y (p + 2) 3 → dep S = 8 → r = .err (-5) (p + 2)) ∧ (xW n X Y (p + 2) 3 → dep S ≠ 8 → RE n X Y V (.op (p + 2 + 1) (.bt1 (Y p) :: S) g) r)) ∧
    (¬ xW n X Y (p + 1) 13 → ((p + 1 < n ∧ X (p + 1) = 1) ∨ xW n X Y (p + 1) 3) → RE n X Y V (.op (p + 1) (.scale (Y p) :: S) g) r) ∧
    (¬ xW n X Y (p + 1) 13 → ¬ ((p + 1 < n ∧ X (p + 1) = 1) ∨ xW n X Y (p + 1) 3) → ∃ F : Int → Int, (∀ i, 0 ≤ i → i < 13 → F i = if i = 12 then Y p * 4096 else 0) ∧ RE n X Y V (.td (p + 1) F S g) r) := by
  have n4 : ∀ a, ¬ xW n X Y p a := fun a z => xW_k z (by decide) h0
  have hh9 := RE.inv h
  clear h
  rcases hh9 with ⟨_, _, _, e09, h, _⟩ | ⟨_, _, _, e09, _, h2, h3, hd, k⟩ | ⟨_, _, _, e09, e19, _, h2, h3⟩ | ⟨_, _, _, e09, e19, _, h2, h3, hd⟩ | ⟨_, _, _, e09, _, h2, h3, k⟩ | ⟨_, _, _, _, e09, _, h2, h3, hF, k⟩ | ⟨_, _, _, _, e09, h, _, _⟩ | ⟨_, _, _, e09, h, _, _⟩ | ⟨_, _, _, e09, e19, h, _⟩ | ⟨_, _, _, e09, e19, _, h, _, _⟩ | ⟨_, _, _, _, _, e09, _, _, _⟩ | ⟨_, _, _, _, _, _, _, e09, _, _, _⟩ | ⟨_, _, _, _, _, e09, _, _⟩ | ⟨_, _, _, _, _, _, e09, _, _, _⟩ | ⟨_, _, _, _, _, _, e09, _, _, _⟩ | ⟨_, _, _, _, e09, _, _⟩ | ⟨_, _, _, _, e09, _, _⟩ | ⟨_, _, _, _, e09, _, _⟩ | ⟨_, _, _, _, _, e09, _, _, _, _⟩ | ⟨_, _, _, _, e09, _, _⟩ | ⟨_, _, _, _, e09, e19, _⟩ | ⟨_, _, _, _, _, _, e09, _, _, _⟩ | ⟨_, _, _, _, _, e09, e19, _⟩ | ⟨_, _, _, _, _, _, _, _, e09, _, _, _, _⟩ | ⟨_, _, _, _, _, _, e09, e19, _⟩ | ⟨_, _, _, e09, e19⟩
  · cases e09 <;> (exact absurd h (n4 _))
  · cases e09 <;> (exact ⟨fun _ => ⟨fun z => absurd h3 z, fun _ z => absurd z (by omega), fun _ _ => k⟩, fun z => absurd h2 z, fun z => absurd h2 z⟩)
  · cases e09 <;> cases e19 <;> (exact ⟨fun _ => ⟨fun _ => rfl, fun z => absurd z h3, fun z => absurd z h3⟩, fun z => absurd h2 z, fun z => absurd h2 z⟩)
  · cases e09 <;> cases e19 <;> (exact ⟨fun _ => ⟨fun z => absurd h3 z, fun _ _ => rfl, fun _ z => absurd hd z⟩, fun z => absurd h2 z, fun z => absurd h2 z⟩)
  · cases e09 <;> (exact ⟨fun z => absurd z h2, fun _ _ => k, fun _ z => absurd h3 z⟩)
  · cases e09 <;> (exact ⟨fun z => absurd z h2, fun _ z => absurd z h3, fun _ _ => ⟨_, hF, k⟩⟩)
  · cases e09 <;> (exact absurd (h.2.symm.trans h0.2) (by decide))
  · cases e09 <;> (exact absurd h (n4 _))
  · cases e09 <;> cases e19 <;> (exact absurd h (n4 _))
  · cases e09 <;> cases e19 <;> (exact absurd h0 h)
  · cases e09
  · cases e09
  · cases e09
  · cases e09
  · cases e09
  · cases e09
  · cases e09
  · cases e09
  · cases e09
  · cases e09
  · cases e09 <;> cases e19
  · cases e09
  · cases e09 <;> cases e19
  · cases e09
  · cases e09 <;> cases e19
  · cases e09 <;> cases e19
theorem op_var (h : RE n X Y V (.op p S g) r) (h0 : p < n ∧ X p = 1) : ∃ F : Int → Int, vis F (V (Y p)) ∧ RE n X Y V (.td (p + 1) F S g) r := by
  have n4 : ∀ a, ¬ xW n X Y p a := fun a z => xW_k z (by decide) h0
  have n0 : ¬ (p < n ∧ X p = 0) := fun z => absurd (z.2.symm.trans h0.2) (by decide)
  have hh9 := RE.inv h
  clear h
  rcases hh9 with ⟨_, _, _, e09, h, _⟩ | ⟨_, _, _, e09, h, _, _, _, _⟩ | ⟨_, _, _, e09, e19, h, _, _⟩ | ⟨_, _, _, e09, e19, h, _, _, _⟩ | ⟨_, _, _, e09, h, _, _, _⟩ | ⟨_, _, _, _, e09, h, _, _, _, _⟩ | ⟨_, _, _, _, e09, _, hF, k⟩ | ⟨_, _, _, e09, h, _, _⟩ | ⟨_, _, _, e09, e19, h, _⟩ | ⟨_, _, _, e09, e19, _, _, h, _⟩ | ⟨_, _, _, _, _, e09, _, _, _⟩ | ⟨_, _, _, _, _, _, _, e09, _, _, _⟩ | ⟨_, _, _, _, _, e09, _, _⟩ | ⟨_, _, _, _, _, _, e09, _, _, _⟩ | ⟨_, _, _, _, _, _, e09, _, _, _⟩ | ⟨_, _, _, _, e09, _, _⟩ | ⟨_, _, _, _, e09, _, _⟩ | ⟨_, _, _, _, e09, _, _⟩ | ⟨_, _, _, _, _, e09, _, _, _, _⟩ | ⟨_, _, _, _, e09, _, _⟩ | ⟨_, _, _, _, e09, e19, _⟩ | ⟨_, _, _, _, _, _, e09, _, _, _⟩ | ⟨_, _, _, _, _, e09, e19, _⟩ | ⟨_, _, _, _, _, _, _, _, e09, _, _, _, _⟩ | ⟨_, _, _, _, _, _, e09, e19, _⟩ | ⟨_, _, _, e09, e19⟩
  · cases e09 <;> (exact absurd h (n4 _))
  · cases e09 <;> (exact absurd h n0)
  · cases e09 <;> cases e19 <;> (exact absurd h n0)
  · cases e09 <;> cases e19 <;> (exact absurd h n0)
  · cases e09 <;> (exact absurd h n0)
  · cases e09 <;> (exact absurd h n0)
  · cases e09 <;> (exact ⟨_, hF, k⟩)
  · cases e09 <;> (exact absurd h (n4 _))
  · cases e09 <;> cases e19 <;> (exact absurd h (n4 _))
  · cases e09 <;> cases e19 <;> (exact absurd h0 h)
  · cases e09
  · cases e09
  · cases e09
  · cases e09
  · cases e09
  · cases e09
  · cases e09
  · cases e09
  · cases e09
  · cases e09
  · cases e09 <;> cases e19
  · cases e09
  · cases e09 <;> cases e19
  · cases e09
  · cases e09 <;> cases e19
  · cases e09 <;> cases e19
theorem op_opn (h : RE n X Y V (.op p S g) r) (h3 : xW n X Y p 3) : (dep S = 8 → r = .err (-5) p) ∧ (dep S ≠ 8 → RE n X Y V (.op (p + 1) (.br :: S) g) r) := by
  have hh9 := RE.inv h
  clear h
  rcases hh9 with ⟨_, _, _, e09, h, _⟩ | ⟨_, _, _, e09, h, _, _, _, _⟩ | ⟨_, _, _, e09, e19, h, _, _⟩ | ⟨_, _, _, e09, e19, h, _, _, _⟩ | ⟨_, _, _, e09, h, _, _, _⟩ | ⟨_, _, _, _, e09, h, _, _, _, _⟩ | ⟨_, _, _, _, e09, h, _, _⟩ | ⟨_, _, _, e09, _, hd, k⟩ | ⟨_, _, _, e09, e19, _, hd⟩ | ⟨_, _, _, e09, e19, _, _, _, h⟩ | ⟨_, _, _, _, _, e09, _, _, _⟩ | ⟨_, _, _, _, _, _, _, e09, _, _, _⟩ | ⟨_, _, _, _, _, e09, _, _⟩ | ⟨_, _, _, _, _, _, e09, _, _, _⟩ | ⟨_, _, _, _, _, _, e09, _, _, _⟩ | ⟨_, _, _, _, e09, _, _⟩ | ⟨_, _, _, _, e09, _, _⟩ | ⟨_, _, _, _, e09, _, _⟩ | ⟨_, _, _, _, _, e09, _, _, _, _⟩ | ⟨_, _, _, _, e09, _, _⟩ | ⟨_, _, _, _, e09, e19, _⟩ | ⟨_, _, _, _, _, _, e09, _, _, _⟩ | ⟨_, _, _, _, _, e09, e19, _⟩ | ⟨_, _, _, _, _, _, _, _, e09, _, _, _, _⟩ | ⟨_, _, _, _, _, _, e09, e19, _⟩ | ⟨_, _, _, e09, e19⟩
  · cases e09 <;> (exact absurd h (xW_ne h3 (by decide)))
  · cases e09 <;> (exact absurd h (xW_k h3 (by decide)))
  · cases e09 <;> cases e19 <;> (exact absurd h (xW_k h3 (by decide)))
  · cases e09 <;> cases e19 <;> (exact absurd h (xW_k h3 (by decide)))
  · cases e09 <;> (exact absurd h (xW_k h3 (by decide)))
  · cases e09 <;> (exact absurd h (xW_k h3 (by decide)))
  · cases e09 <;> (exact absurd h (xW_k h3 (by decide)))
  · cases e09 <;> (exact ⟨fun z => absurd z (by omega), fun _ => k⟩)
  · cases e09 <;> cases e19 <;> (exact ⟨fun _ => rfl, fun z => absurd hd z⟩)
  · cases e09 <;> cases e19 <;> (exact absurd h3 h)
  · cases e09
  · cases e09
  · cases e09
  · cases e09
  · cases e09
  · cases e09
  · cases e09
  · cases e09
  · cases e09
  · cases e09
  · cases e09 <;> cases e19
  · cases e09
  · cases e09 <;> cases e19
  · cases e09
  · cases e09 <;> cases e19
  · cases e09 <;> cases e19
theorem op_bad (h : RE n X Y V (.op p S g) r) (h1 : ¬ xW n X Y p 1) (h2 : ¬ (p < n ∧ X p = 0)) (h3 : ¬ (p < n ∧ X p = 1)) (h4 : ¬ xW n X Y p 3) : r = .err (-8) p := by
  have hh9 := RE.inv h
  clear h
  rcases hh9 with ⟨_, _, _, e09, h, _⟩ | ⟨_, _, _, e09, h, _, _, _, _⟩ | ⟨_, _, _, e09, e19, h, _, _⟩ | ⟨_, _, _, e09, e19, h, _, _, _⟩ | ⟨_, _, _, e09, h, _, _, _⟩ | ⟨_, _, _, _, e09, h, _, _, _, _⟩ | ⟨_, _, _, _, e09, h, _, _⟩ | ⟨_, _, _, e09, h, _, _⟩ | ⟨_, _, _, e09, e19, h, _⟩ | ⟨_, _, _, e09, e19, _, _, _, _⟩ | ⟨_, _, _, _, _, e09, _, _, _⟩ | ⟨_, _, _, _, _, _, _, e09, _, _, _⟩ | ⟨_, _, _, _, _, e09, _, _⟩ | ⟨_, _, _, _, _, _, e09, _, _, _⟩ | ⟨_, _, _, _, _, _, e09, _, _, _⟩ | ⟨_, _, _, _, e09, _, _⟩ | ⟨_, _, _, _, e09, _, _⟩ | ⟨_, _, _, _, e09, _, _⟩ | ⟨_, _, _, _, _, e09, _, _, _, _⟩ | ⟨_, _, _, _, e09, _, _⟩ | ⟨_, _, _, _, e09, e19, _⟩ | ⟨_, _, _, _, _, _, e09, _, _, _⟩ | ⟨_, _, _, _, _, e09, e19, _⟩ | ⟨_, _, _, _, _, _, _, _, e09, _, _, _, _⟩ | ⟨_, _, _, _, _, _, e09, e19, _⟩ | ⟨_, _, _, e09, e19⟩
  · cases e09 <;> (exact absurd h h1)
  · cases e09 <;> (exact absurd h h2)
  · cases e09 <;> cases e19 <;> (exact absurd h h2)
  · cases e09 <;> cases e19 <;> (exact absurd h h2)
  · cases e09 <;> (exact absurd h h2)
  · cases e09 <;> (exact absurd h h2)
  · cases e09 <;> (exact absurd h h3)
  · cases e09 <;> (exact absurd h h4)
  · cases e09 <;> cases e19 <;> (exact absurd h h4)
  · cases e09 <;> cases e19 <;> (rfl)
  · cases e09
  · cases e09
  · cases e09
  · cases e09
  · cases e09
  · cases e09
  · cases e09
  · cases e09
  · cases e09
  · cases e09
  · cases e09 <;> cases e19
  · cases e09
  · cases e09 <;> cases e19
  · cases e09
  · cases e09 <;> cases e19
  · cases e09 <;> cases e19
end INV

/-! the reference's variables; what begin leaves -/
def gVr (V : Int → Int → Int) (A : Nat → Int → Int) : Prop := ∀ v, 0 ≤ v → v < 12 → inr (V v) ∧ (A 30 v = 0 → ∀ i, 0 ≤ i → i < 13 → V v i = if i = v then 65536 else 0) ∧ (A 30 v ≠ 0 → ∀ i, 0 ≤ i → i < 13 → V v i = A 31 (v * 13 + i))
def bgQ (n : Int) (X Y : Int → Int) (V : Int → Int → Int) (g : Prop) (r : ER) (y : Int) (J : Nat → Int) (B : Nat → Int → Int) : Prop :=
  (J 5 = 0 → (y = 1 → ∃ (F : Int → Int) (S : List Fr), RE n X Y V (.td (J 4) F S g) r ∧ mT F S g J B) ∧ (y = 0 → ∃ S : List Fr, RE n X Y V (.op (J 4) S g) r ∧ mO S g J B)) ∧ (J 5 ≠ 0 → r = .err (J 5) (J 6))
theorem mO_push {S : List Fr} {f : Fr} {g : Prop} {I J : Nat → Int} {A B : Nat → Int → Int} (h : mO S g I A) (h13 : J 13 = I 13 + 1) (h9 : J 9 = I 9) (h14 : J 14 = dep (f :: S)) (h15 : J 15 = I 15) (h36 : B 36 = ju (A 36) (I 13) (cd f)) (h38 : ∀ t, 0 ≤ t → t < I 13 → B 38 t = A 38 t) (h35 : B 35 = A 35) (hv : vc (f :: S) = vc S) (hF : mF B g S.length (vc S) f) : mO (f :: S) g J B := by
  obtain ⟨m13, m9, m14, m15, mm⟩ := h
  refine ⟨by rw [h13, m13]; simp, by rw [h9, m9, hv], h14, by rw [h15]; exact m15, ?_, hF, mt_fr id S mm (fun t ht => ⟨?_, h38 _ (by omega) (by omega)⟩) (fun z _ _ => by rw [h35])⟩
  · rw [h36, ← m13, ju_self]
  · rw [h36, ju_ne _ _ (by omega)]
theorem mT_val {S : List Fr} {g : Prop} {I J : Nat → Int} {A B : Nat → Int → Int} {F : Int → Int} (h : mO S g I A) (h13 : J 13 = I 13) (h9 : J 9 = I 9 + 1) (h14 : J 14 = I 14) (h15 : J 15 = I 15) (h36 : B 36 = A 36) (h38 : B 38 = A 38) (h35 : ∀ z, z < (300 + I 9) * 13 → B 35 z = A 35 z) (hv : rV B (300 + vc S) F) (hb : inr F) : mT F S g J B := by
  obtain ⟨m13, m9, m14, m15, mm⟩ := h
  refine ⟨by rw [h13, m13], by rw [h9, m9], by rw [h14, m14], by rw [h15]; exact m15, mt_fr id S mm (fun t _ => ⟨by rw [h36], by rw [h38]⟩) (fun z _ hz => h35 z (by omega)), fun i a c => ?_, fun _ => hv⟩
  rw [hv i a c]
  exact hb i a c

/-- hidden from omega -/
def Hd (p : Prop) : Prop := p
/-! the ways of expr's loop, against a derivation -/
section EXP
variable {n : Int} {X Y : Int → Int} {V : Int → Int → Int} {r : ER} {p : Int} {I J : Nat → Int} {A B : Nat → Int → Int}
theorem opQ_add (h : sdQ n X Y V r p I A) (w : xW n X Y p 0) (j13 : J 13 = I 13 + 1) (j9 : J 9 = I 9) (j14 : J 14 = I 14) (j15 : J 15 = I 15) (h36 : B 36 = ju (A 36) (I 13) 1) (h38 : B 38 = A 38) (h35 : B 35 = A 35) : opQ n X Y V r (p + 1) J B := by
  obtain ⟨F, S, g, hn, hR, m13, m9, m14, m15, mm, mv⟩ := h
  refine ⟨.plus F :: S, g, sd_add hR w, by rw [j13, m13]; simp, by rw [j9, m9]; simp [vc], by rw [j14, m14]; rfl, by rw [j15]; exact m15, ?_, fun z => ⟨fun i a c => ?_, (mv z).2⟩, mt_fr id S mm (fun t _ => ⟨?_, by rw [h38]⟩) (fun z _ _ => by rw [h35])⟩
  · rw [h36, ← m13, ju_self]; rfl
  · rw [h35]; exact (mv z).1 i a c
  · rw [h36, ju_ne _ _ (by omega)]
theorem opQ_sub (h : sdQ n X Y V r p I A) (w : xW n X Y p 1) (j13 : J 13 = I 13 + 1) (j9 : J 9 = I 9) (j14 : J 14 = I 14) (j15 : J 15 = I 15) (h36 : B 36 = ju (A 36) (I 13) 2) (h38 : B 38 = A 38) (h35 : B 35 = A 35) : opQ n X Y V r (p + 1) J B := by
  obtain ⟨F, S, g, hn, hR, m13, m9, m14, m15, mm, mv⟩ := h
  refine ⟨.mins F :: S, g, sd_sub hR w, by rw [j13, m13]; simp, by rw [j9, m9]; simp [vc], by rw [j14, m14]; rfl, by rw [j15]; exact m15, ?_, fun z => ⟨fun i a c => ?_, (mv z).2⟩, mt_fr id S mm (fun t _ => ⟨?_, by rw [h38]⟩) (fun z _ _ => by rw [h35])⟩
  · rw [h36, ← m13, ju_self]; rfl
  · rw [h35]; exact (mv z).1 i a c
  · rw [h36, ju_ne _ _ (by omega)]
/-- a checked value -/
theorem ckT {F : Int → Int} {S : List Fr} {g g2 : Prop} (h : mD F S g I A) (hg : g2 ↔ (g ∧ inr F)) (h36 : B 36 = A 36) (h38 : B 38 = A 38) (hW : ∀ z, B 35 z = if (299 + I 9) * 13 ≤ z ∧ z < (299 + I 9) * 13 + 13 then gkp (A 35 z) else A 35 z) (hf : J 15 = 0 ↔ (I 15 = 0 ∧ ∀ j, 0 ≤ j → j < 13 → gin (A 35 ((299 + I 9) * 13 + j)))) : (J 15 = 0 ↔ g2) ∧ mt B g2 S ∧ rB B (300 + vc S) ∧ (g2 → rV B (300 + vc S) F) := by
  obtain ⟨m13, m9, m14, m15, mm, mv⟩ := h
  have ee : ∀ i : Int, (299 + I 9) * 13 + i = ((300 + vc S : Nat) : Int) * 13 + i := fun i => by omega
  refine ⟨?_, mt_fr (fun z => (hg.mp z).1) S mm (fun t _ => ⟨by rw [h36], by rw [h38]⟩) (fun z _ hz => by rw [hW, if_neg (by omega)]), fun i a c => ?_, fun z i a c => ?_⟩
  · rw [hf, hg, m15]
    constructor
    · rintro ⟨a, b⟩
      exact ⟨a, fun j j0 j1 => by rw [← (mv a).1 j j0 j1, ← ee]; exact b j j0 j1⟩
    · rintro ⟨a, b⟩
      exact ⟨a, fun j j0 j1 => by rw [ee, (mv a).1 j j0 j1]; exact b j j0 j1⟩
  · rw [hW, if_pos (by omega)]
    exact gkp_gin _
  · have q := hg.mp z
    rw [hW, if_pos (by omega), (mv q.1).1 i a c]
    unfold gkp
    rw [if_pos (q.2 i a c)]
theorem sd_top {F : Int → Int} {S : List Fr} {g : Prop} (h : mD F S g I A) (h0 : 0 < I 13) : ∃ (f : Fr) (S2 : List Fr), S = f :: S2 ∧ A 36 (I 13 - 1) = cd f ∧ (S2.length : Int) = I 13 - 1 := by
  cases S with
  | nil => have := h.1; simp at this; omega
  | cons f S2 =>
    have h1 := h.1
    simp at h1
    refine ⟨f, S2, rfl, ?_, by omega⟩
    rw [show I 13 - 1 = (S2.length : Int) by omega]
    exact h.2.2.2.2.1.1
/-- the comma of a between -/
theorem opQ_com (h : sdQ n X Y V r p I A) (n0 : ¬ xW n X Y p 0) (n1 : ¬ xW n X Y p 1) (h0 : 0 < I 13) (hc : A 36 (I 13 - 1) = 5) : (¬ xW n X Y p 5 → r = .err (-8) p) ∧ (xW n X Y p 5 → ∀ (J : Nat → Int) (B : Nat → Int → Int), J 13 = I 13 → J 9 = I 9 → J 14 = I 14 → B 36 = ju (A 36) (I 13 - 1) 6 → B 38 = A 38 →
    (∀ z, B 35 z = if (299 + I 9) * 13 ≤ z ∧ z < (299 + I 9) * 13 + 13 then gkp (A 35 z) else A 35 z) → (J 15 = 0 ↔ (I 15 = 0 ∧ ∀ j, 0 ≤ j → j < 13 → gin (A 35 ((299 + I 9) * 13 + j)))) → opQ n X Y V r (p + 1) J B) := by
  obtain ⟨F, S, g, hn, hR, hm⟩ := h
  obtain ⟨f, S2, rfl, hcd, hl⟩ := sd_top hm h0
  rw [hc] at hcd
  obtain ⟨g2, hg, hE⟩ := sd_chk hR n0 n1
  rcases f with _ | _ | _ | _ | _ | c | ⟨_, _⟩
  · (simp [cd] at hcd)
  · (simp [cd] at hcd)
  · (simp [cd] at hcd)
  · (simp [cd] at hcd)
  · (simp [cd] at hcd)
  · have hq := ed_bt1 hE
    refine ⟨hq.2, fun w5 J B j13 j9 j14 h36 h38 hW hf => ?_⟩
    obtain ⟨U, hU, hR2⟩ := hq.1 w5
    have hk := ckT (B := va_up B 36 (A 36)) (J := J) hm hg rfl (by show B 38 = A 38; exact h38) hW hf
    obtain ⟨m13, m9, m14, m15, mm, mv⟩ := id hm
    simp only [vc] at m9
    obtain ⟨k1, k2, k3, k4⟩ := hk
    have hin : g2 → inr F := fun z => (hg.mp z).2
    refine ⟨.bt2 c U :: S2, g2, hR2, by rw [j13, m13]; simp, by rw [j9, m9]; simp [vc], by rw [j14, m14]; rfl, k1, ?_, ⟨⟨?_, mm.2.1.2⟩, k3, fun z => ⟨fun i a d => ?_, fun i a d => ?_⟩⟩, mt_fr id S2 k2.2.2 (fun t ht => ⟨?_, rfl⟩) (fun z _ _ => rfl)⟩
    · rw [h36, hl, ju_self]; rfl
    · rw [h38]; exact mm.2.1.1
    · rw [hU z i a d]; exact k4 z i a d
    · rw [hU z i a d]; exact hin z i a d
    · rw [h36, ju_ne _ _ (by omega)]; rfl
  · (simp [cd] at hcd)
/-- a bracket's close -/
theorem tdQ_cls (h : sdQ n X Y V r p I A) (n0 : ¬ xW n X Y p 0) (n1 : ¬ xW n X Y p 1) (h0 : 0 < I 13) (hc : A 36 (I 13 - 1) = 0) : (¬ xW n X Y p 4 → r = .err (-8) p) ∧ (xW n X Y p 4 → ∀ (J : Nat → Int) (B : Nat → Int → Int), J 13 = I 13 - 1 → J 9 = I 9 → J 14 = I 14 - 1 → B 36 = A 36 → B 38 = A 38 →
    (∀ z, B 35 z = if (299 + I 9) * 13 ≤ z ∧ z < (299 + I 9) * 13 + 13 then gkp (A 35 z) else A 35 z) → (J 15 = 0 ↔ (I 15 = 0 ∧ ∀ j, 0 ≤ j → j < 13 → gin (A 35 ((299 + I 9) * 13 + j)))) → tdQ n X Y V r (p + 1) J B) := by
  obtain ⟨F, S, g, hn, hR, hm⟩ := h
  obtain ⟨f, S2, rfl, hcd, hl⟩ := sd_top hm h0
  rw [hc] at hcd
  obtain ⟨g2, hg, hE⟩ := sd_chk hR n0 n1
  rcases f with _ | _ | _ | _ | _ | _ | ⟨_, _⟩
  · (simp [cd] at hcd)
  · (simp [cd] at hcd)
  · (simp [cd] at hcd)
  · (simp [cd] at hcd)
  · have hq := ed_br hE
    refine ⟨hq.2, fun w4 J B j13 j9 j14 h36 h38 hW hf => ?_⟩
    obtain ⟨k1, k2, k3, k4⟩ := ckT (B := B) (J := J) hm hg h36 h38 hW hf
    obtain ⟨m13, m9, m14, m15, mm, mv⟩ := hm
    simp only [vc] at m9
    simp only [dep] at m14
    exact ⟨F, S2, g2, hq.1 w4, by rw [j13, m13]; simp, by rw [j9, m9], by rw [j14, m14]; omega, k1, k2.2.2, k3, k4⟩
  · (simp [cd] at hcd)
  · (simp [cd] at hcd)
/-- a between's close -/
theorem tdQ_bte (h : sdQ n X Y V r p I A) (n0 : ¬ xW n X Y p 0) (n1 : ¬ xW n X Y p 1) (h0 : 0 < I 13) (hc : A 36 (I 13 - 1) = 6) : (¬ xW n X Y p 4 → r = .err (-8) p) ∧ (xW n X Y p 4 → ∃ c : Int, (A 38 (I 13 - 1) = c * 4096 ∧ -16000 ≤ c ∧ c ≤ 16000) ∧ ∀ (I1 : Nat → Int) (A1 : Nat → Int → Int), A1 36 = A 36 → A1 38 = A 38 → I1 9 = I 9 →
    (∀ z, A1 35 z = if (299 + I 9) * 13 ≤ z ∧ z < (299 + I 9) * 13 + 13 then gkp (A 35 z) else A 35 z) → (I1 15 = 0 ↔ (I 15 = 0 ∧ ∀ j, 0 ≤ j → j < 13 → gin (A 35 ((299 + I 9) * 13 + j)))) →
    (∀ j, 0 ≤ j → j < 13 → gin (A1 35 ((298 + I 9) * 13 + j))) ∧ (∀ j, 0 ≤ j → j < 13 → gin (A1 35 ((298 + I 9) * 13 + 13 + j))) ∧
    ∀ (J : Nat → Int) (B : Nat → Int → Int), J 13 = I 13 - 1 → J 9 = I 9 - 1 → J 14 = I 14 - 1 → B 36 = A 36 → B 38 = A 38 → bwQ c ((298 + I 9) * 13) I1 A1 J B 13 → tdQ n X Y V r (p + 1) J B) := by
  obtain ⟨F, S, g, hn, hR, hm⟩ := h
  obtain ⟨f, S2, rfl, hcd, hl⟩ := sd_top hm h0
  rw [hc] at hcd
  obtain ⟨g2, hg, hE⟩ := sd_chk hR n0 n1
  rcases f with _ | _ | _ | _ | _ | _ | ⟨c, U⟩
  · (simp [cd] at hcd)
  · (simp [cd] at hcd)
  · (simp [cd] at hcd)
  · (simp [cd] at hcd)
  · (simp [cd] at hcd)
  · (simp [cd] at hcd)
  · have hq := ed_bt2 hE
    refine ⟨hq.2, fun w4 => ?_⟩
    obtain ⟨F2, g3, hg3, hF2, hR2⟩ := hq.1 w4
    have hm2 := hm
    obtain ⟨m13, m9, m14, m15, mm, mv⟩ := hm2
    simp only [vc] at m9
    simp only [dep] at m14
    refine ⟨c, ⟨by rw [← hl]; exact mm.2.1.1.1, mm.2.1.1.2⟩, fun I1 A1 h36 h38 i9 hW hf => ?_⟩
    obtain ⟨k1, k2, k3, k4⟩ := ckT (B := A1) (J := I1) hm hg h36 h38 hW hf
    simp only [vc] at k3 k4
    have e1 : ∀ j : Int, (298 + I 9) * 13 + j = ((300 + vc S2 : Nat) : Int) * 13 + j := fun j => by omega
    have e2 : ∀ j : Int, (298 + I 9) * 13 + 13 + j = ((300 + (vc S2 + 1) : Nat) : Int) * 13 + j := fun j => by omega
    have u1 : rB A1 (300 + vc S2) := k2.2.1.2.1
    have u2 : g2 → rV A1 (300 + vc S2) U := fun z => (k2.2.1.2.2 z).1
    refine ⟨fun j j0 j1 => by rw [e1]; exact u1 j j0 j1, fun j j0 j1 => by rw [e2]; exact k3 j j0 j1, fun J B j13 j9 j14 b36 b38 hb => ?_⟩
    obtain ⟨b1, b2, b3, b4⟩ := hb
    have cv : g2 → ∀ j, 0 ≤ j → j < 13 → A1 35 ((298 + I 9) * 13 + j) = U j ∧ A1 35 ((298 + I 9) * 13 + 13 + j) = F j := fun z j j0 j1 => ⟨by rw [e1]; exact u2 z j j0 j1, by rw [e2]; exact k4 z j j0 j1⟩
    have hz : J 15 = 0 ↔ g3 := by
      rw [b1, k1, hg3]
      constructor
      · rintro ⟨a, b⟩
        refine ⟨a, fun j j0 j1 => ?_⟩
        have q := b j j0 j1
        unfold bwc bwv at q
        rw [(cv a j j0 j1).1, (cv a j j0 j1).2] at q
        exact q
      · rintro ⟨a, b⟩
        refine ⟨a, fun j j0 j1 => ?_⟩
        unfold bwc bwv
        rw [(cv a j j0 j1).1, (cv a j j0 j1).2]
        exact b j j0 j1
    refine ⟨F2, S2, g3, hR2, by rw [j13, m13]; simp, by rw [j9, m9]; simp, by rw [j14, m14]; omega, hz, mt_fr (fun z => (hg3.mp z).1) S2 k2.2.2 (fun t _ => ⟨by rw [b36, h36], by rw [b38, h38]⟩) (fun z _ hz2 => b4 z (by omega)), fun i a d => ?_, fun z i a d => ?_⟩
    · rw [← e1]; exact b3 i a d
    · have gz := (hg3.mp z).1
      rw [← e1, b2 (hz.mpr z) i a d, hF2 z i a d]
      unfold bwv
      rw [(cv gz i a d).1, (cv gz i a d).2]
/-- the end of an expression -/
theorem fin_of (h : sdQ n X Y V r p I A) (n0 : ¬ xW n X Y p 0) (n1 : ¬ xW n X Y p 1) (h0 : I 13 = 0) : I 9 = 1 ∧ ∃ (F : Int → Int) (g : Prop), r = .ok p F g ∧ ∀ (J : Nat → Int) (B : Nat → Int → Int), B 36 = A 36 → B 38 = A 38 →
    (∀ z, B 35 z = if (299 + I 9) * 13 ≤ z ∧ z < (299 + I 9) * 13 + 13 then gkp (A 35 z) else A 35 z) → (J 15 = 0 ↔ (I 15 = 0 ∧ ∀ j, 0 ≤ j → j < 13 → gin (A 35 ((299 + I 9) * 13 + j)))) → (J 15 = 0 ↔ g) ∧ rB B 300 ∧ (g → rV B 300 F) := by
  obtain ⟨F, S, g, hn, hR, hm⟩ := h
  have hS : S = [] := by
    cases S with
    | nil => rfl
    | cons f S2 => have := hm.1; simp at this; omega
  subst hS
  obtain ⟨g2, hg, hE⟩ := sd_chk hR n0 n1
  refine ⟨by have := hm.2.1; simp [vc] at this; omega, F, g2, ed_fin hE, fun J B h36 h38 hW hf => ?_⟩
  obtain ⟨k1, k2, k3, k4⟩ := ckT (B := B) (J := J) hm hg h36 h38 hW hf
  exact ⟨k1, k3, k4⟩
end EXP
def eQ (n : Int) (X Y : Int → Int) (V : Int → Int → Int) (r : ER) (o : Int) (J : Nat → Int) (B : Nat → Int → Int) : Prop := (J 5 = 0 → (o = 1 → opQ n X Y V r (J 4) J B) ∧ (o = 0 → tdQ n X Y V r (J 4) J B)) ∧ (J 5 ≠ 0 → r = .err (J 5) (J 6))
/-- what expr leaves: the value in form f of the work, or the error -/
def exQ (r : ER) (f : Int) (J : Nat → Int) (B : Nat → Int → Int) : Prop := (J 5 = 0 → ∃ (q : Int) (F : Int → Int) (g : Prop), r = .ok q F g ∧ J 4 = q ∧ (J 15 = 0 ↔ g) ∧ (∀ j, 0 ≤ j → j < 13 → gin (B 35 (f * 13 + j))) ∧ (g → ∀ j, 0 ≤ j → j < 13 → B 35 (f * 13 + j) = F j)) ∧ (J 5 ≠ 0 → r = .err (J 5) (J 6))
theorem eQ_bg {n : Int} {X Y : Int → Int} {V : Int → Int → Int} {g : Prop} {r : ER} {y o : Int} {J : Nat → Int} {B : Nat → Int → Int} (h : bgQ n X Y V g r y J B) (ho : (y = 1 ∧ o = 0) ∨ (y = 0 ∧ o = 1)) : eQ n X Y V r o J B := by
  refine ⟨fun z => ⟨fun o1 => ?_, fun o0 => ?_⟩, h.2⟩
  · rcases ho with ⟨a, b⟩ | ⟨a, b⟩
    · omega
    · obtain ⟨S, h1, h2⟩ := (h.1 z).2 a
      exact ⟨S, g, h1, h2⟩
  · rcases ho with ⟨a, b⟩ | ⟨a, b⟩
    · obtain ⟨F, S, h1, h2⟩ := (h.1 z).1 a
      exact ⟨F, S, g, h1, h2⟩
    · omega

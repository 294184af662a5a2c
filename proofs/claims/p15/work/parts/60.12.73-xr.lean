/-! READING an expression: a machine of frames that wait. A value is said only where all is in range (g) -/
abbrev Fr : Type := Sum (Unit) (Sum (Int) (Sum ((Int → Int)) (Sum ((Int → Int)) (Sum (Unit) (Sum (Int) ((Int × (Int → Int))))))))
abbrev Fr.neg  : Fr := Sum.inl ()
abbrev Fr.scale (c : Int) : Fr := Sum.inr (Sum.inl c)
abbrev Fr.plus (U : Int → Int) : Fr := Sum.inr (Sum.inr (Sum.inl U))
abbrev Fr.mins (U : Int → Int) : Fr := Sum.inr (Sum.inr (Sum.inr (Sum.inl U)))
abbrev Fr.br  : Fr := Sum.inr (Sum.inr (Sum.inr (Sum.inr (Sum.inl ()))))
abbrev Fr.bt1 (c : Int) : Fr := Sum.inr (Sum.inr (Sum.inr (Sum.inr (Sum.inr (Sum.inl c)))))
abbrev Fr.bt2 (c : Int) (U : Int → Int) : Fr := Sum.inr (Sum.inr (Sum.inr (Sum.inr (Sum.inr (Sum.inr ((c, U)))))))
def dep : List Fr → Int
  | [] => 0
  | (.inl _) :: S => dep S
  | (.inr (.inl _)) :: S => dep S
  | (.inr (.inr (.inl _))) :: S => dep S
  | (.inr (.inr (.inr (.inl _)))) :: S => dep S
  | (.inr (.inr (.inr (.inr (.inl _))))) :: S => dep S + 1
  | (.inr (.inr (.inr (.inr (.inr (.inl _)))))) :: S => dep S + 1
  | (.inr (.inr (.inr (.inr (.inr (.inr ((_, _)))))))) :: S => dep S + 1
/-- no sign and no factor waits on top -/
def nb : List Fr → Prop
  | [] => True
  | (.inr (.inr (.inr (.inr (.inl _))))) :: _ => True
  | (.inr (.inr (.inr (.inr (.inr (.inl _)))))) :: _ => True
  | (.inr (.inr (.inr (.inr (.inr (.inr ((_, _)))))))) :: _ => True
  | _ => False
abbrev ES : Type := Sum (Int × (List Fr) × Prop) (Sum (Int × (Int → Int) × (List Fr) × Prop) (Sum (Int × (Int → Int) × (List Fr) × Prop) ((Int × (Int → Int) × (List Fr) × Prop))))
abbrev ES.op (p : Int) (S : List Fr) (g : Prop) : ES := Sum.inl (p, S, g)
abbrev ES.td (p : Int) (F : Int → Int) (S : List Fr) (g : Prop) : ES := Sum.inr (Sum.inl (p, F, S, g))
abbrev ES.sd (p : Int) (F : Int → Int) (S : List Fr) (g : Prop) : ES := Sum.inr (Sum.inr (Sum.inl (p, F, S, g)))
abbrev ES.ed (p : Int) (F : Int → Int) (S : List Fr) (g : Prop) : ES := Sum.inr (Sum.inr (Sum.inr ((p, F, S, g))))
abbrev ER : Type := Sum (Int × (Int → Int) × Prop) ((Int × Int))
abbrev ER.ok (p : Int) (F : Int → Int) (g : Prop) : ER := Sum.inl (p, F, g)
abbrev ER.err (c p : Int) : ER := Sum.inr ((c, p))
/-- far from the ends of a long -/
def far (F : Int → Int) : Prop := ∀ i, 0 ≤ i → i < 13 → -1125899906842624 ≤ F i ∧ F i ≤ 1125899906842624
def vis (F G : Int → Int) : Prop := ∀ i, 0 ≤ i → i < 13 → F i = G i
def RE_s9 (n : Int) (X Y : Int → Int) (V : Int → Int → Int) (R : ES → ER → Prop) (a09 : ES) (a19 : ER) : Prop :=
  (∃ p : Int, ∃ S : List Fr, ∃ g : Prop, a09 = (.op p S g) ∧ (xW n X Y p 1) ∧ R (.op (p + 1) (.neg :: S) g) a19) ∨
  (∃ p : Int, ∃ S : List Fr, ∃ g : Prop, a09 = (.op p S g) ∧ (p < n ∧ X p = 0) ∧ (xW n X Y (p + 1) 13) ∧ (xW n X Y (p + 2) 3) ∧ (dep S < 8) ∧ R (.op (p + 2 + 1) (.bt1 (Y p) :: S) g) a19) ∨
  (∃ p : Int, ∃ S : List Fr, ∃ g : Prop, a09 = (.op p S g) ∧ a19 = (.err (-8) (p + 2)) ∧ (p < n ∧ X p = 0) ∧ (xW n X Y (p + 1) 13) ∧ (¬ xW n X Y (p + 2) 3)) ∨
  (∃ p : Int, ∃ S : List Fr, ∃ g : Prop, a09 = (.op p S g) ∧ a19 = (.err (-5) (p + 2)) ∧ (p < n ∧ X p = 0) ∧ (xW n X Y (p + 1) 13) ∧ (xW n X Y (p + 2) 3) ∧ (dep S = 8)) ∨
  (∃ p : Int, ∃ S : List Fr, ∃ g : Prop, a09 = (.op p S g) ∧ (p < n ∧ X p = 0) ∧ (¬ xW n X Y (p + 1) 13) ∧ ((p + 1 < n ∧ X (p + 1) = 1) ∨ xW n X Y (p + 1) 3) ∧ R (.op (p + 1) (.scale (Y p) :: S) g) a19) ∨
  (∃ p : Int, ∃ S : List Fr, ∃ g : Prop, ∃ F : Int → Int, a09 = (.op p S g) ∧ (p < n ∧ X p = 0) ∧ (¬ xW n X Y (p + 1) 13) ∧ (¬ ((p + 1 < n ∧ X (p + 1) = 1) ∨ xW n X Y (p + 1) 3)) ∧ (∀ i, 0 ≤ i → i < 13 → F i = if i = 12 then Y p * 4096 else 0) ∧ R (.td (p + 1) F S g) a19) ∨
  (∃ p : Int, ∃ S : List Fr, ∃ g : Prop, ∃ F : Int → Int, a09 = (.op p S g) ∧ (p < n ∧ X p = 1) ∧ (vis F (V (Y p))) ∧ R (.td (p + 1) F S g) a19) ∨
  (∃ p : Int, ∃ S : List Fr, ∃ g : Prop, a09 = (.op p S g) ∧ (xW n X Y p 3) ∧ (dep S < 8) ∧ R (.op (p + 1) (.br :: S) g) a19) ∨
  (∃ p : Int, ∃ S : List Fr, ∃ g : Prop, a09 = (.op p S g) ∧ a19 = (.err (-5) p) ∧ (xW n X Y p 3) ∧ (dep S = 8)) ∨
  (∃ p : Int, ∃ S : List Fr, ∃ g : Prop, a09 = (.op p S g) ∧ a19 = (.err (-8) p) ∧ (¬ xW n X Y p 1) ∧ (¬ (p < n ∧ X p = 0)) ∧ (¬ (p < n ∧ X p = 1)) ∧ (¬ xW n X Y p 3)) ∨
  (∃ p : Int, ∃ S : List Fr, ∃ g : Prop, ∃ F : Int → Int, ∃ F2 : Int → Int, a09 = (.td p F (.neg :: S) g) ∧ (g → ∀ i, 0 ≤ i → i < 13 → F2 i = -1 * F i) ∧ (g → inr F2) ∧ R (.td p F2 S g) a19) ∨
  (∃ p : Int, ∃ c : Int, ∃ S : List Fr, ∃ g : Prop, ∃ g2 : Prop, ∃ F : Int → Int, ∃ F2 : Int → Int, a09 = (.td p F (.scale c :: S) g) ∧ (g2 ↔ (g ∧ fM F c)) ∧ (g2 → ∀ i, 0 ≤ i → i < 13 → F2 i = F i * c / 16) ∧ R (.td p F2 S g2) a19) ∨
  (∃ p : Int, ∃ S : List Fr, ∃ g : Prop, ∃ F : Int → Int, ∃ F2 : Int → Int, a09 = (.td p F S g) ∧ (g → vis F2 F) ∧ R (.td p F2 S g) a19) ∨
  (∃ p : Int, ∃ S : List Fr, ∃ g : Prop, ∃ F : Int → Int, ∃ F2 : Int → Int, ∃ U : Int → Int, a09 = (.td p F (.plus U :: S) g) ∧ (g → ∀ i, 0 ≤ i → i < 13 → F2 i = U i + F i) ∧ (g → far F2) ∧ R (.sd p F2 S g) a19) ∨
  (∃ p : Int, ∃ S : List Fr, ∃ g : Prop, ∃ F : Int → Int, ∃ F2 : Int → Int, ∃ U : Int → Int, a09 = (.td p F (.mins U :: S) g) ∧ (g → ∀ i, 0 ≤ i → i < 13 → F2 i = U i - F i) ∧ (g → far F2) ∧ R (.sd p F2 S g) a19) ∨
  (∃ p : Int, ∃ S : List Fr, ∃ g : Prop, ∃ F : Int → Int, a09 = (.td p F S g) ∧ (nb S) ∧ R (.sd p F S g) a19) ∨
  (∃ p : Int, ∃ S : List Fr, ∃ g : Prop, ∃ F : Int → Int, a09 = (.sd p F S g) ∧ (xW n X Y p 0) ∧ R (.op (p + 1) (.plus F :: S) g) a19) ∨
  (∃ p : Int, ∃ S : List Fr, ∃ g : Prop, ∃ F : Int → Int, a09 = (.sd p F S g) ∧ (xW n X Y p 1) ∧ R (.op (p + 1) (.mins F :: S) g) a19) ∨
  (∃ p : Int, ∃ S : List Fr, ∃ g : Prop, ∃ g2 : Prop, ∃ F : Int → Int, a09 = (.sd p F S g) ∧ (¬ xW n X Y p 0) ∧ (¬ xW n X Y p 1) ∧ (g2 ↔ (g ∧ inr F)) ∧ R (.ed p F S g2) a19) ∨
  (∃ p : Int, ∃ S : List Fr, ∃ g : Prop, ∃ F : Int → Int, a09 = (.ed p F (.br :: S) g) ∧ (xW n X Y p 4) ∧ R (.td (p + 1) F S g) a19) ∨
  (∃ p : Int, ∃ S : List Fr, ∃ g : Prop, ∃ F : Int → Int, a09 = (.ed p F (.br :: S) g) ∧ a19 = (.err (-8) p) ∧ (¬ xW n X Y p 4)) ∨
  (∃ p : Int, ∃ c : Int, ∃ S : List Fr, ∃ g : Prop, ∃ F : Int → Int, ∃ U : Int → Int, a09 = (.ed p F (.bt1 c :: S) g) ∧ (xW n X Y p 5) ∧ (g → vis U F) ∧ R (.op (p + 1) (.bt2 c U :: S) g) a19) ∨
  (∃ p : Int, ∃ c : Int, ∃ S : List Fr, ∃ g : Prop, ∃ F : Int → Int, a09 = (.ed p F (.bt1 c :: S) g) ∧ a19 = (.err (-8) p) ∧ (¬ xW n X Y p 5)) ∨
  (∃ p : Int, ∃ c : Int, ∃ S : List Fr, ∃ g : Prop, ∃ g2 : Prop, ∃ F : Int → Int, ∃ F2 : Int → Int, ∃ U : Int → Int, a09 = (.ed p F (.bt2 c U :: S) g) ∧ (xW n X Y p 4) ∧ (g2 ↔ (g ∧ fB c U F)) ∧ (g2 → ∀ i, 0 ≤ i → i < 13 → F2 i = U i + (F i - U i) * c / 16) ∧ R (.td (p + 1) F2 S g2) a19) ∨
  (∃ p : Int, ∃ c : Int, ∃ S : List Fr, ∃ g : Prop, ∃ F : Int → Int, ∃ U : Int → Int, a09 = (.ed p F (.bt2 c U :: S) g) ∧ a19 = (.err (-8) p) ∧ (¬ xW n X Y p 4)) ∨
  (∃ p : Int, ∃ g : Prop, ∃ F : Int → Int, a09 = (.ed p F [] g) ∧ a19 = (.ok p F g))
def RE_k9 (n : Int) (X Y : Int → Int) (V : Int → Int → Int) : Nat → ES → ER → Prop
  | 0 => fun _ _ => False
  | k + 1 => RE_s9 n X Y V (RE_k9 n X Y V k)
def RE (n : Int) (X Y : Int → Int) (V : Int → Int → Int) (a09 : ES) (a19 : ER) : Prop := ∃ k9 : Nat, RE_k9 n X Y V k9 a09 a19
theorem RE.minus {n : Int} {X Y : Int → Int} {V : Int → Int → Int} {p : Int} {S : List Fr} {g : Prop} {r : ER} (h : xW n X Y p 1) (k : RE n X Y V (.op (p + 1) (.neg :: S) g) r) : RE n X Y V (.op p S g) r := by
  obtain ⟨m9, hm9⟩ := k
  exact ⟨m9 + 1, Or.inl (⟨p, S, g, rfl, h, hm9⟩)⟩
theorem RE.btw {n : Int} {X Y : Int → Int} {V : Int → Int → Int} {p : Int} {S : List Fr} {g : Prop} {r : ER} (h : p < n ∧ X p = 0) (h2 : xW n X Y (p + 1) 13) (h3 : xW n X Y (p + 2) 3) (hd : dep S < 8) (k : RE n X Y V (.op (p + 2 + 1) (.bt1 (Y p) :: S) g) r) : RE n X Y V (.op p S g) r := by
  obtain ⟨m9, hm9⟩ := k
  exact ⟨m9 + 1, Or.inr (Or.inl (⟨p, S, g, rfl, h, h2, h3, hd, hm9⟩))⟩
theorem RE.btwX {n : Int} {X Y : Int → Int} {V : Int → Int → Int} {p : Int} {S : List Fr} {g : Prop} (h : p < n ∧ X p = 0) (h2 : xW n X Y (p + 1) 13) (h3 : ¬ xW n X Y (p + 2) 3) : RE n X Y V (.op p S g) (.err (-8) (p + 2)) := ⟨1, Or.inr (Or.inr (Or.inl (⟨p, S, g, rfl, rfl, h, h2, h3⟩)))⟩
theorem RE.btwD {n : Int} {X Y : Int → Int} {V : Int → Int → Int} {p : Int} {S : List Fr} {g : Prop} (h : p < n ∧ X p = 0) (h2 : xW n X Y (p + 1) 13) (h3 : xW n X Y (p + 2) 3) (hd : dep S = 8) : RE n X Y V (.op p S g) (.err (-5) (p + 2)) := ⟨1, Or.inr (Or.inr (Or.inr (Or.inl (⟨p, S, g, rfl, rfl, h, h2, h3, hd⟩))))⟩
theorem RE.mulp {n : Int} {X Y : Int → Int} {V : Int → Int → Int} {p : Int} {S : List Fr} {g : Prop} {r : ER} (h : p < n ∧ X p = 0) (h2 : ¬ xW n X Y (p + 1) 13) (h3 : (p + 1 < n ∧ X (p + 1) = 1) ∨ xW n X Y (p + 1) 3) (k : RE n X Y V (.op (p + 1) (.scale (Y p) :: S) g) r) : RE n X Y V (.op p S g) r := by
  obtain ⟨m9, hm9⟩ := k
  exact ⟨m9 + 1, Or.inr (Or.inr (Or.inr (Or.inr (Or.inl (⟨p, S, g, rfl, h, h2, h3, hm9⟩)))))⟩
theorem RE.con {n : Int} {X Y : Int → Int} {V : Int → Int → Int} {p : Int} {S : List Fr} {g : Prop} {r : ER} {F : Int → Int} (h : p < n ∧ X p = 0) (h2 : ¬ xW n X Y (p + 1) 13) (h3 : ¬ ((p + 1 < n ∧ X (p + 1) = 1) ∨ xW n X Y (p + 1) 3)) (hF : ∀ i, 0 ≤ i → i < 13 → F i = if i = 12 then Y p * 4096 else 0) (k : RE n X Y V (.td (p + 1) F S g) r) : RE n X Y V (.op p S g) r := by
  obtain ⟨m9, hm9⟩ := k
  exact ⟨m9 + 1, Or.inr (Or.inr (Or.inr (Or.inr (Or.inr (Or.inl (⟨p, S, g, F, rfl, h, h2, h3, hF, hm9⟩))))))⟩
theorem RE.var {n : Int} {X Y : Int → Int} {V : Int → Int → Int} {p : Int} {S : List Fr} {g : Prop} {r : ER} {F : Int → Int} (h : p < n ∧ X p = 1) (hF : vis F (V (Y p))) (k : RE n X Y V (.td (p + 1) F S g) r) : RE n X Y V (.op p S g) r := by
  obtain ⟨m9, hm9⟩ := k
  exact ⟨m9 + 1, Or.inr (Or.inr (Or.inr (Or.inr (Or.inr (Or.inr (Or.inl (⟨p, S, g, F, rfl, h, hF, hm9⟩)))))))⟩
theorem RE.opn {n : Int} {X Y : Int → Int} {V : Int → Int → Int} {p : Int} {S : List Fr} {g : Prop} {r : ER} (h : xW n X Y p 3) (hd : dep S < 8) (k : RE n X Y V (.op (p + 1) (.br :: S) g) r) : RE n X Y V (.op p S g) r := by
  obtain ⟨m9, hm9⟩ := k
  exact ⟨m9 + 1, Or.inr (Or.inr (Or.inr (Or.inr (Or.inr (Or.inr (Or.inr (Or.inl (⟨p, S, g, rfl, h, hd, hm9⟩))))))))⟩
theorem RE.opnD {n : Int} {X Y : Int → Int} {V : Int → Int → Int} {p : Int} {S : List Fr} {g : Prop} (h : xW n X Y p 3) (hd : dep S = 8) : RE n X Y V (.op p S g) (.err (-5) p) := ⟨1, Or.inr (Or.inr (Or.inr (Or.inr (Or.inr (Or.inr (Or.inr (Or.inr (Or.inl (⟨p, S, g, rfl, rfl, h, hd⟩)))))))))⟩
theorem RE.bad {n : Int} {X Y : Int → Int} {V : Int → Int → Int} {p : Int} {S : List Fr} {g : Prop} (h1 : ¬ xW n X Y p 1) (h2 : ¬ (p < n ∧ X p = 0)) (h3 : ¬ (p < n ∧ X p = 1)) (h4 : ¬ xW n X Y p 3) : RE n X Y V (.op p S g) (.err (-8) p) := ⟨1, Or.inr (Or.inr (Or.inr (Or.inr (Or.inr (Or.inr (Or.inr (Or.inr (Or.inr (Or.inl (⟨p, S, g, rfl, rfl, h1, h2, h3, h4⟩))))))))))⟩
theorem RE.neg {n : Int} {X Y : Int → Int} {V : Int → Int → Int} {p : Int} {S : List Fr} {g : Prop} {r : ER} {F F2 : Int → Int} (hF : g → ∀ i, 0 ≤ i → i < 13 → F2 i = -1 * F i) (hb : g → inr F2) (k : RE n X Y V (.td p F2 S g) r) : RE n X Y V (.td p F (.neg :: S) g) r := by
  obtain ⟨m9, hm9⟩ := k
  exact ⟨m9 + 1, Or.inr (Or.inr (Or.inr (Or.inr (Or.inr (Or.inr (Or.inr (Or.inr (Or.inr (Or.inr (Or.inl (⟨p, S, g, F, F2, rfl, hF, hb, hm9⟩)))))))))))⟩
theorem RE.scale {n : Int} {X Y : Int → Int} {V : Int → Int → Int} {p c : Int} {S : List Fr} {g g2 : Prop} {r : ER} {F F2 : Int → Int} (hg : g2 ↔ (g ∧ fM F c)) (hF : g2 → ∀ i, 0 ≤ i → i < 13 → F2 i = F i * c / 16) (k : RE n X Y V (.td p F2 S g2) r) : RE n X Y V (.td p F (.scale c :: S) g) r := by
  obtain ⟨m9, hm9⟩ := k
  exact ⟨m9 + 1, Or.inr (Or.inr (Or.inr (Or.inr (Or.inr (Or.inr (Or.inr (Or.inr (Or.inr (Or.inr (Or.inr (Or.inl (⟨p, c, S, g, g2, F, F2, rfl, hg, hF, hm9⟩))))))))))))⟩
theorem RE.same {n : Int} {X Y : Int → Int} {V : Int → Int → Int} {p : Int} {S : List Fr} {g : Prop} {r : ER} {F F2 : Int → Int} (hF : g → vis F2 F) (k : RE n X Y V (.td p F2 S g) r) : RE n X Y V (.td p F S g) r := by
  obtain ⟨m9, hm9⟩ := k
  exact ⟨m9 + 1, Or.inr (Or.inr (Or.inr (Or.inr (Or.inr (Or.inr (Or.inr (Or.inr (Or.inr (Or.inr (Or.inr (Or.inr (Or.inl (⟨p, S, g, F, F2, rfl, hF, hm9⟩)))))))))))))⟩
theorem RE.plus {n : Int} {X Y : Int → Int} {V : Int → Int → Int} {p : Int} {S : List Fr} {g : Prop} {r : ER} {F F2 U : Int → Int} (hF : g → ∀ i, 0 ≤ i → i < 13 → F2 i = U i + F i) (hb : g → far F2) (k : RE n X Y V (.sd p F2 S g) r) : RE n X Y V (.td p F (.plus U :: S) g) r := by
  obtain ⟨m9, hm9⟩ := k
  exact ⟨m9 + 1, Or.inr (Or.inr (Or.inr (Or.inr (Or.inr (Or.inr (Or.inr (Or.inr (Or.inr (Or.inr (Or.inr (Or.inr (Or.inr (Or.inl (⟨p, S, g, F, F2, U, rfl, hF, hb, hm9⟩))))))))))))))⟩
theorem RE.mins {n : Int} {X Y : Int → Int} {V : Int → Int → Int} {p : Int} {S : List Fr} {g : Prop} {r : ER} {F F2 U : Int → Int} (hF : g → ∀ i, 0 ≤ i → i < 13 → F2 i = U i - F i) (hb : g → far F2) (k : RE n X Y V (.sd p F2 S g) r) : RE n X Y V (.td p F (.mins U :: S) g) r := by
  obtain ⟨m9, hm9⟩ := k
  exact ⟨m9 + 1, Or.inr (Or.inr (Or.inr (Or.inr (Or.inr (Or.inr (Or.inr (Or.inr (Or.inr (Or.inr (Or.inr (Or.inr (Or.inr (Or.inr (Or.inl (⟨p, S, g, F, F2, U, rfl, hF, hb, hm9⟩)))))))))))))))⟩
theorem RE.bare {n : Int} {X Y : Int → Int} {V : Int → Int → Int} {p : Int} {S : List Fr} {g : Prop} {r : ER} {F : Int → Int} (h : nb S) (k : RE n X Y V (.sd p F S g) r) : RE n X Y V (.td p F S g) r := by
  obtain ⟨m9, hm9⟩ := k
  exact ⟨m9 + 1, Or.inr (Or.inr (Or.inr (Or.inr (Or.inr (Or.inr (Or.inr (Or.inr (Or.inr (Or.inr (Or.inr (Or.inr (Or.inr (Or.inr (Or.inr (Or.inl (⟨p, S, g, F, rfl, h, hm9⟩))))))))))))))))⟩
theorem RE.add {n : Int} {X Y : Int → Int} {V : Int → Int → Int} {p : Int} {S : List Fr} {g : Prop} {r : ER} {F : Int → Int} (h : xW n X Y p 0) (k : RE n X Y V (.op (p + 1) (.plus F :: S) g) r) : RE n X Y V (.sd p F S g) r := by
  obtain ⟨m9, hm9⟩ := k
  exact ⟨m9 + 1, Or.inr (Or.inr (Or.inr (Or.inr (Or.inr (Or.inr (Or.inr (Or.inr (Or.inr (Or.inr (Or.inr (Or.inr (Or.inr (Or.inr (Or.inr (Or.inr (Or.inl (⟨p, S, g, F, rfl, h, hm9⟩)))))))))))))))))⟩
theorem RE.sub {n : Int} {X Y : Int → Int} {V : Int → Int → Int} {p : Int} {S : List Fr} {g : Prop} {r : ER} {F : Int → Int} (h : xW n X Y p 1) (k : RE n X Y V (.op (p + 1) (.mins F :: S) g) r) : RE n X Y V (.sd p F S g) r := by
  obtain ⟨m9, hm9⟩ := k
  exact ⟨m9 + 1, Or.inr (Or.inr (Or.inr (Or.inr (Or.inr (Or.inr (Or.inr (Or.inr (Or.inr (Or.inr (Or.inr (Or.inr (Or.inr (Or.inr (Or.inr (Or.inr (Or.inr (Or.inl (⟨p, S, g, F, rfl, h, hm9⟩))))))))))))))))))⟩
theorem RE.chk {n : Int} {X Y : Int → Int} {V : Int → Int → Int} {p : Int} {S : List Fr} {g g2 : Prop} {r : ER} {F : Int → Int} (h0 : ¬ xW n X Y p 0) (h1 : ¬ xW n X Y p 1) (hg : g2 ↔ (g ∧ inr F)) (k : RE n X Y V (.ed p F S g2) r) : RE n X Y V (.sd p F S g) r := by
  obtain ⟨m9, hm9⟩ := k
  exact ⟨m9 + 1, Or.inr (Or.inr (Or.inr (Or.inr (Or.inr (Or.inr (Or.inr (Or.inr (Or.inr (Or.inr (Or.inr (Or.inr (Or.inr (Or.inr (Or.inr (Or.inr (Or.inr (Or.inr (Or.inl (⟨p, S, g, g2, F, rfl, h0, h1, hg, hm9⟩)))))))))))))))))))⟩
theorem RE.cls {n : Int} {X Y : Int → Int} {V : Int → Int → Int} {p : Int} {S : List Fr} {g : Prop} {r : ER} {F : Int → Int} (h : xW n X Y p 4) (k : RE n X Y V (.td (p + 1) F S g) r) : RE n X Y V (.ed p F (.br :: S) g) r := by
  obtain ⟨m9, hm9⟩ := k
  exact ⟨m9 + 1, Or.inr (Or.inr (Or.inr (Or.inr (Or.inr (Or.inr (Or.inr (Or.inr (Or.inr (Or.inr (Or.inr (Or.inr (Or.inr (Or.inr (Or.inr (Or.inr (Or.inr (Or.inr (Or.inr (Or.inl (⟨p, S, g, F, rfl, h, hm9⟩))))))))))))))))))))⟩
theorem RE.clsX {n : Int} {X Y : Int → Int} {V : Int → Int → Int} {p : Int} {S : List Fr} {g : Prop} {F : Int → Int} (h : ¬ xW n X Y p 4) : RE n X Y V (.ed p F (.br :: S) g) (.err (-8) p) := ⟨1, Or.inr (Or.inr (Or.inr (Or.inr (Or.inr (Or.inr (Or.inr (Or.inr (Or.inr (Or.inr (Or.inr (Or.inr (Or.inr (Or.inr (Or.inr (Or.inr (Or.inr (Or.inr (Or.inr (Or.inr (Or.inl (⟨p, S, g, F, rfl, rfl, h⟩)))))))))))))))))))))⟩
theorem RE.com {n : Int} {X Y : Int → Int} {V : Int → Int → Int} {p c : Int} {S : List Fr} {g : Prop} {r : ER} {F U : Int → Int} (h : xW n X Y p 5) (hU : g → vis U F) (k : RE n X Y V (.op (p + 1) (.bt2 c U :: S) g) r) : RE n X Y V (.ed p F (.bt1 c :: S) g) r := by
  obtain ⟨m9, hm9⟩ := k
  exact ⟨m9 + 1, Or.inr (Or.inr (Or.inr (Or.inr (Or.inr (Or.inr (Or.inr (Or.inr (Or.inr (Or.inr (Or.inr (Or.inr (Or.inr (Or.inr (Or.inr (Or.inr (Or.inr (Or.inr (Or.inr (Or.inr (Or.inr (Or.inl (⟨p, c, S, g, F, U, rfl, h, hU, hm9⟩))))))))))))))))))))))⟩
theorem RE.comX {n : Int} {X Y : Int → Int} {V : Int → Int → Int} {p c : Int} {S : List Fr} {g : Prop} {F : Int → Int} (h : ¬ xW n X Y p 5) : RE n X Y V (.ed p F (.bt1 c :: S) g) (.err (-8) p) := ⟨1, Or.inr (Or.inr (Or.inr (Or.inr (Or.inr (Or.inr (Or.inr (Or.inr (Or.inr (Or.inr (Or.inr (Or.inr (Or.inr (Or.inr (Or.inr (Or.inr (Or.inr (Or.inr (Or.inr (Or.inr (Or.inr (Or.inr (Or.inl (⟨p, c, S, g, F, rfl, rfl, h⟩)))))))))))))))))))))))⟩
theorem RE.bte {n : Int} {X Y : Int → Int} {V : Int → Int → Int} {p c : Int} {S : List Fr} {g g2 : Prop} {r : ER} {F F2 U : Int → Int} (h : xW n X Y p 4) (hg : g2 ↔ (g ∧ fB c U F)) (hF : g2 → ∀ i, 0 ≤ i → i < 13 → F2 i = U i + (F i - U i) * c / 16) (k : RE n X Y V (.td (p + 1) F2 S g2) r) : RE n X Y V (.ed p F (.bt2 c U :: S) g) r := by
  obtain ⟨m9, hm9⟩ := k
  exact ⟨m9 + 1, Or.inr (Or.inr (Or.inr (Or.inr (Or.inr (Or.inr (Or.inr (Or.inr (Or.inr (Or.inr (Or.inr (Or.inr (Or.inr (Or.inr (Or.inr (Or.inr (Or.inr (Or.inr (Or.inr (Or.inr (Or.inr (Or.inr (Or.inr (Or.inl (⟨p, c, S, g, g2, F, F2, U, rfl, h, hg, hF, hm9⟩))))))))))))))))))))))))⟩
theorem RE.bteX {n : Int} {X Y : Int → Int} {V : Int → Int → Int} {p c : Int} {S : List Fr} {g : Prop} {F U : Int → Int} (h : ¬ xW n X Y p 4) : RE n X Y V (.ed p F (.bt2 c U :: S) g) (.err (-8) p) := ⟨1, Or.inr (Or.inr (Or.inr (Or.inr (Or.inr (Or.inr (Or.inr (Or.inr (Or.inr (Or.inr (Or.inr (Or.inr (Or.inr (Or.inr (Or.inr (Or.inr (Or.inr (Or.inr (Or.inr (Or.inr (Or.inr (Or.inr (Or.inr (Or.inr (Or.inl (⟨p, c, S, g, F, U, rfl, rfl, h⟩)))))))))))))))))))))))))⟩
theorem RE.fin {n : Int} {X Y : Int → Int} {V : Int → Int → Int} {p : Int} {g : Prop} {F : Int → Int} : RE n X Y V (.ed p F [] g) (.ok p F g) := ⟨1, Or.inr (Or.inr (Or.inr (Or.inr (Or.inr (Or.inr (Or.inr (Or.inr (Or.inr (Or.inr (Or.inr (Or.inr (Or.inr (Or.inr (Or.inr (Or.inr (Or.inr (Or.inr (Or.inr (Or.inr (Or.inr (Or.inr (Or.inr (Or.inr (Or.inr (⟨p, g, F, rfl, rfl⟩)))))))))))))))))))))))))⟩
theorem RE.inv {n : Int} {X Y : Int → Int} {V : Int → Int → Int} {a09 : ES} {a19 : ER} (h9 : RE n X Y V a09 a19) : RE_s9 n X Y V (RE n X Y V) a09 a19 := by
  obtain ⟨m9, hm9⟩ := h9
  cases m9 with
  | zero => exact hm9.elim
  | succ m9 =>
    rcases hm9 with ⟨x0, x1, x2, e0, h0, h1⟩ | ⟨x0, x1, x2, e0, h0, h1, h2, h3, h4⟩ | ⟨x0, x1, x2, e0, e1, h0, h1, h2⟩ | ⟨x0, x1, x2, e0, e1, h0, h1, h2, h3⟩ | ⟨x0, x1, x2, e0, h0, h1, h2, h3⟩ | ⟨x0, x1, x2, x3, e0, h0, h1, h2, h3, h4⟩ | ⟨x0, x1, x2, x3, e0, h0, h1, h2⟩ | ⟨x0, x1, x2, e0, h0, h1, h2⟩ | ⟨x0, x1, x2, e0, e1, h0, h1⟩ | ⟨x0, x1, x2, e0, e1, h0, h1, h2, h3⟩ | ⟨x0, x1, x2, x3, x4, e0, h0, h1, h2⟩ | ⟨x0, x1, x2, x3, x4, x5, x6, e0, h0, h1, h2⟩ | ⟨x0, x1, x2, x3, x4, e0, h0, h1⟩ | ⟨x0, x1, x2, x3, x4, x5, e0, h0, h1, h2⟩ | ⟨x0, x1, x2, x3, x4, x5, e0, h0, h1, h2⟩ | ⟨x0, x1, x2, x3, e0, h0, h1⟩ | ⟨x0, x1, x2, x3, e0, h0, h1⟩ | ⟨x0, x1, x2, x3, e0, h0, h1⟩ | ⟨x0, x1, x2, x3, x4, e0, h0, h1, h2, h3⟩ | ⟨x0, x1, x2, x3, e0, h0, h1⟩ | ⟨x0, x1, x2, x3, e0, e1, h0⟩ | ⟨x0, x1, x2, x3, x4, x5, e0, h0, h1, h2⟩ | ⟨x0, x1, x2, x3, x4, e0, e1, h0⟩ | ⟨x0, x1, x2, x3, x4, x5, x6, x7, e0, h0, h1, h2, h3⟩ | ⟨x0, x1, x2, x3, x4, x5, e0, e1, h0⟩ | ⟨x0, x1, x2, e0, e1⟩
    · exact Or.inl (⟨x0, x1, x2, e0, h0, ⟨m9, h1⟩⟩)
    · exact Or.inr (Or.inl (⟨x0, x1, x2, e0, h0, h1, h2, h3, ⟨m9, h4⟩⟩))
    · exact Or.inr (Or.inr (Or.inl (⟨x0, x1, x2, e0, e1, h0, h1, h2⟩)))
    · exact Or.inr (Or.inr (Or.inr (Or.inl (⟨x0, x1, x2, e0, e1, h0, h1, h2, h3⟩))))
    · exact Or.inr (Or.inr (Or.inr (Or.inr (Or.inl (⟨x0, x1, x2, e0, h0, h1, h2, ⟨m9, h3⟩⟩)))))
    · exact Or.inr (Or.inr (Or.inr (Or.inr (Or.inr (Or.inl (⟨x0, x1, x2, x3, e0, h0, h1, h2, h3, ⟨m9, h4⟩⟩))))))
    · exact Or.inr (Or.inr (Or.inr (Or.inr (Or.inr (Or.inr (Or.inl (⟨x0, x1, x2, x3, e0, h0, h1, ⟨m9, h2⟩⟩)))))))
    · exact Or.inr (Or.inr (Or.inr (Or.inr (Or.inr (Or.inr (Or.inr (Or.inl (⟨x0, x1, x2, e0, h0, h1, ⟨m9, h2⟩⟩))))))))
    · exact Or.inr (Or.inr (Or.inr (Or.inr (Or.inr (Or.inr (Or.inr (Or.inr (Or.inl (⟨x0, x1, x2, e0, e1, h0, h1⟩)))))))))
    · exact Or.inr (Or.inr (Or.inr (Or.inr (Or.inr (Or.inr (Or.inr (Or.inr (Or.inr (Or.inl (⟨x0, x1, x2, e0, e1, h0, h1, h2, h3⟩))))))))))
    · exact Or.inr (Or.inr (Or.inr (Or.inr (Or.inr (Or.inr (Or.inr (Or.inr (Or.inr (Or.inr (Or.inl (⟨x0, x1, x2, x3, x4, e0, h0, h1, ⟨m9, h2⟩⟩)))))))))))
    · exact Or.inr (Or.inr (Or.inr (Or.inr (Or.inr (Or.inr (Or.inr (Or.inr (Or.inr (Or.inr (Or.inr (Or.inl (⟨x0, x1, x2, x3, x4, x5, x6, e0, h0, h1, ⟨m9, h2⟩⟩))))))))))))
    · exact Or.inr (Or.inr (Or.inr (Or.inr (Or.inr (Or.inr (Or.inr (Or.inr (Or.inr (Or.inr (Or.inr (Or.inr (Or.inl (⟨x0, x1, x2, x3, x4, e0, h0, ⟨m9, h1⟩⟩)))))))))))))
    · exact Or.inr (Or.inr (Or.inr (Or.inr (Or.inr (Or.inr (Or.inr (Or.inr (Or.inr (Or.inr (Or.inr (Or.inr (Or.inr (Or.inl (⟨x0, x1, x2, x3, x4, x5, e0, h0, h1, ⟨m9, h2⟩⟩))))))))))))))
    · exact Or.inr (Or.inr (Or.inr (Or.inr (Or.inr (Or.inr (Or.inr (Or.inr (Or.inr (Or.inr (Or.inr (Or.inr (Or.inr (Or.inr (Or.inl (⟨x0, x1, x2, x3, x4, x5, e0, h0, h1, ⟨m9, h2⟩⟩)))))))))))))))
    · exact Or.inr (Or.inr (Or.inr (Or.inr (Or.inr (Or.inr (Or.inr (Or.inr (Or.inr (Or.inr (Or.inr (Or.inr (Or.inr (Or.inr (Or.inr (Or.inl (⟨x0, x1, x2, x3, e0, h0, ⟨m9, h1⟩⟩))))))))))))))))
    · exact Or.inr (Or.inr (Or.inr (Or.inr (Or.inr (Or.inr (Or.inr (Or.inr (Or.inr (Or.inr (Or.inr (Or.inr (Or.inr (Or.inr (Or.inr (Or.inr (Or.inl (⟨x0, x1, x2, x3, e0, h0, ⟨m9, h1⟩⟩)))))))))))))))))
    · exact Or.inr (Or.inr (Or.inr (Or.inr (Or.inr (Or.inr (Or.inr (Or.inr (Or.inr (Or.inr (Or.inr (Or.inr (Or.inr (Or.inr (Or.inr (Or.inr (Or.inr (Or.inl (⟨x0, x1, x2, x3, e0, h0, ⟨m9, h1⟩⟩))))))))))))))))))
    · exact Or.inr (Or.inr (Or.inr (Or.inr (Or.inr (Or.inr (Or.inr (Or.inr (Or.inr (Or.inr (Or.inr (Or.inr (Or.inr (Or.inr (Or.inr (Or.inr (Or.inr (Or.inr (Or.inl (⟨x0, x1, x2, x3, x4, e0, h0, h1, h2, ⟨m9, h3⟩⟩)))))))))))))))))))
    · exact Or.inr (Or.inr (Or.inr (Or.inr (Or.inr (Or.inr (Or.inr (Or.inr (Or.inr (Or.inr (Or.inr (Or.inr (Or.inr (Or.inr (Or.inr (Or.inr (Or.inr (Or.inr (Or.inr (Or.inl (⟨x0, x1, x2, x3, e0, h0, ⟨m9, h1⟩⟩))))))))))))))))))))
    · exact Or.inr (Or.inr (Or.inr (Or.inr (Or.inr (Or.inr (Or.inr (Or.inr (Or.inr (Or.inr (Or.inr (Or.inr (Or.inr (Or.inr (Or.inr (Or.inr (Or.inr (Or.inr (Or.inr (Or.inr (Or.inl (⟨x0, x1, x2, x3, e0, e1, h0⟩)))))))))))))))))))))
    · exact Or.inr (Or.inr (Or.inr (Or.inr (Or.inr (Or.inr (Or.inr (Or.inr (Or.inr (Or.inr (Or.inr (Or.inr (Or.inr (Or.inr (Or.inr (Or.inr (Or.inr (Or.inr (Or.inr (Or.inr (Or.inr (Or.inl (⟨x0, x1, x2, x3, x4, x5, e0, h0, h1, ⟨m9, h2⟩⟩))))))))))))))))))))))
    · exact Or.inr (Or.inr (Or.inr (Or.inr (Or.inr (Or.inr (Or.inr (Or.inr (Or.inr (Or.inr (Or.inr (Or.inr (Or.inr (Or.inr (Or.inr (Or.inr (Or.inr (Or.inr (Or.inr (Or.inr (Or.inr (Or.inr (Or.inl (⟨x0, x1, x2, x3, x4, e0, e1, h0⟩)))))))))))))))))))))))
    · exact Or.inr (Or.inr (Or.inr (Or.inr (Or.inr (Or.inr (Or.inr (Or.inr (Or.inr (Or.inr (Or.inr (Or.inr (Or.inr (Or.inr (Or.inr (Or.inr (Or.inr (Or.inr (Or.inr (Or.inr (Or.inr (Or.inr (Or.inr (Or.inl (⟨x0, x1, x2, x3, x4, x5, x6, x7, e0, h0, h1, h2, ⟨m9, h3⟩⟩))))))))))))))))))))))))
    · exact Or.inr (Or.inr (Or.inr (Or.inr (Or.inr (Or.inr (Or.inr (Or.inr (Or.inr (Or.inr (Or.inr (Or.inr (Or.inr (Or.inr (Or.inr (Or.inr (Or.inr (Or.inr (Or.inr (Or.inr (Or.inr (Or.inr (Or.inr (Or.inr (Or.inl (⟨x0, x1, x2, x3, x4, x5, e0, e1, h0⟩)))))))))))))))))))))))))
    · exact Or.inr (Or.inr (Or.inr (Or.inr (Or.inr (Or.inr (Or.inr (Or.inr (Or.inr (Or.inr (Or.inr (Or.inr (Or.inr (Or.inr (Or.inr (Or.inr (Or.inr (Or.inr (Or.inr (Or.inr (Or.inr (Or.inr (Or.inr (Or.inr (Or.inr (⟨x0, x1, x2, e0, e1⟩)))))))))))))))))))))))))
section RD
variable {n : Int} {X Y : Int → Int} {V : Int → Int → Int} {e p q : Int} {g g2 g3 : Prop} {F F2 F3 U : Int → Int}
/-- from an operand at p, e brackets deep: a term, an expression, an error -/
def rdT (n : Int) (X Y : Int → Int) (V : Int → Int → Int) (e p : Int) (g : Prop) (q : Int) (F : Int → Int) (g2 : Prop) : Prop := (g2 → g) ∧ (g2 → inr F) ∧ ∀ (S : List Fr) (r : ER), dep S = e → RE n X Y V (.td q F S g2) r → RE n X Y V (.op p S g) r
def rdE (n : Int) (X Y : Int → Int) (V : Int → Int → Int) (e p : Int) (g : Prop) (q : Int) (F : Int → Int) (g2 : Prop) : Prop := (g2 → g) ∧ (g2 → inr F) ∧ ∀ (S : List Fr) (r : ER), dep S = e → nb S → RE n X Y V (.ed q F S g2) r → RE n X Y V (.op p S g) r
def rdX (n : Int) (X Y : Int → Int) (V : Int → Int → Int) (e p : Int) (g : Prop) (c pl : Int) : Prop := ∀ S : List Fr, dep S = e → RE n X Y V (.op p S g) (.err c pl)
def rdXn (n : Int) (X Y : Int → Int) (V : Int → Int → Int) (e p : Int) (g : Prop) (c pl : Int) : Prop := ∀ S : List Fr, dep S = e → nb S → RE n X Y V (.op p S g) (.err c pl)
theorem rdT_minus (h : xW n X Y p 1) (k : rdT n X Y V e (p + 1) g q F g2) : rdT n X Y V e p g q (fun i => -1 * F i) g2 := by
  refine ⟨k.1, fun z i a c => ?_, fun S r hS hr => .minus h (k.2.2 (.neg :: S) r hS (.neg (fun _ _ _ _ => rfl) (fun z i a c => ?_) hr))⟩
  · have := k.2.1 z i a c
    show gin (-1 * F i)
    omega
  · have := k.2.1 z i a c
    show gin (-1 * F i)
    omega
theorem rdX_minus {c pl : Int} (h : xW n X Y p 1) (k : rdX n X Y V e (p + 1) g c pl) : rdX n X Y V e p g c pl := fun S hS => .minus h (k (.neg :: S) hS)
theorem rdT_same (k : rdT n X Y V e p g q F g2) (h : g2 → vis F2 F) : rdT n X Y V e p g q F2 g2 := by
  refine ⟨k.1, fun z i a c => ?_, fun S r hS hr => k.2.2 S r hS (.same h hr)⟩
  have h1 := k.2.1 z i a c
  rw [h z i a c]
  exact h1
theorem rdT_var (h : p < n ∧ X p = 1) (hF : vis F (V (Y p))) (hV : inr (V (Y p))) : rdT n X Y V e p g (p + 1) F g := by
  refine ⟨id, fun _ i a c => ?_, fun S r hS hr => .var h hF hr⟩
  rw [hF i a c]
  exact hV i a c
theorem rdT_con (h : p < n ∧ X p = 0) (h2 : ¬ xW n X Y (p + 1) 13) (h3 : ¬ ((p + 1 < n ∧ X (p + 1) = 1) ∨ xW n X Y (p + 1) 3)) (hY : -16000 ≤ Y p ∧ Y p ≤ 16000) (hF : ∀ i, 0 ≤ i → i < 13 → F i = if i = 12 then Y p * 4096 else 0) : rdT n X Y V e p g (p + 1) F g := by
  refine ⟨id, fun _ i a c => ?_, fun S r hS hr => .con h h2 h3 hF hr⟩
  rw [hF i a c]
  by_cases hi : i = 12
  · rw [if_pos hi]
    show gin (Y p * 4096)
    omega
  · rw [if_neg hi]
    show gin 0
    omega
theorem rdT_mulp (h : p < n ∧ X p = 0) (h2 : ¬ xW n X Y (p + 1) 13) (h3 : (p + 1 < n ∧ X (p + 1) = 1) ∨ xW n X Y (p + 1) 3) (k : rdT n X Y V e (p + 1) g q F g2) (hg : g3 ↔ (g2 ∧ fM F (Y p))) : rdT n X Y V e p g q (fun i => F i * Y p / 16) g3 :=
  ⟨fun z => k.1 (hg.mp z).1, fun z i a c => ((hg.mp z).2 i a c).2, fun S r hS hr => .mulp h h2 h3 (k.2.2 (.scale (Y p) :: S) r hS (.scale hg (fun _ _ _ _ => rfl) hr))⟩
theorem rdX_mulp {c pl : Int} (h : p < n ∧ X p = 0) (h2 : ¬ xW n X Y (p + 1) 13) (h3 : (p + 1 < n ∧ X (p + 1) = 1) ∨ xW n X Y (p + 1) 3) (k : rdX n X Y V e (p + 1) g c pl) : rdX n X Y V e p g c pl := fun S hS => .mulp h h2 h3 (k (.scale (Y p) :: S) hS)
theorem rdT_br (h : xW n X Y p 3) (he : e < 8) (k : rdE n X Y V (e + 1) (p + 1) g q F g2) (h4 : xW n X Y q 4) : rdT n X Y V e p g (q + 1) F g2 :=
  ⟨k.1, k.2.1, fun S r hS hr => .opn h (by omega) (k.2.2 (.br :: S) r (by show dep S + 1 = e + 1; omega) trivial (.cls h4 hr))⟩
theorem rdX_brD (h : xW n X Y p 3) (he : e = 8) : rdX n X Y V e p g (-5) p := fun S hS => .opnD h (by omega)
theorem rdX_br {c pl : Int} (h : xW n X Y p 3) (he : e < 8) (k : rdXn n X Y V (e + 1) (p + 1) g c pl) : rdX n X Y V e p g c pl := fun S hS => .opn h (by omega) (k (.br :: S) (by show dep S + 1 = e + 1; omega) trivial)
theorem rdX_cls (h : xW n X Y p 3) (he : e < 8) (k : rdE n X Y V (e + 1) (p + 1) g q F g2) (h4 : ¬ xW n X Y q 4) : rdX n X Y V e p g (-8) q := fun S hS => .opn h (by omega) (k.2.2 (.br :: S) _ (by show dep S + 1 = e + 1; omega) trivial (.clsX h4))
theorem rdX_bad (h1 : ¬ xW n X Y p 1) (h2 : ¬ (p < n ∧ X p = 0)) (h3 : ¬ (p < n ∧ X p = 1)) (h4 : ¬ xW n X Y p 3) : rdX n X Y V e p g (-8) p := fun S hS => .bad h1 h2 h3 h4
/-- between: what readEnds reads behind "between" at p (the open is at p) -/
def rdB (n : Int) (X Y : Int → Int) (V : Int → Int → Int) (e p : Int) (g : Prop) (q : Int) (U F : Int → Int) (g2 : Prop) : Prop := ∃ (q1 : Int) (F1 : Int → Int) (g1 : Prop), xW n X Y p 3 ∧ e < 8 ∧ rdE n X Y V (e + 1) (p + 1) g q1 F1 g1 ∧ xW n X Y q1 5 ∧ (g1 → vis U F1) ∧ rdE n X Y V (e + 1) (q1 + 1) g1 q F g2 ∧ xW n X Y q 4
/-- .. or the error in it -/
def rdBX (n : Int) (X Y : Int → Int) (V : Int → Int → Int) (e p : Int) (g : Prop) (c pl : Int) : Prop :=
  (¬ xW n X Y p 3 ∧ c = -8 ∧ pl = p) ∨ (xW n X Y p 3 ∧ e = 8 ∧ c = -5 ∧ pl = p) ∨ (xW n X Y p 3 ∧ e < 8 ∧ rdXn n X Y V (e + 1) (p + 1) g c pl) ∨
  ∃ (q1 : Int) (F1 : Int → Int) (g1 : Prop), xW n X Y p 3 ∧ e < 8 ∧ rdE n X Y V (e + 1) (p + 1) g q1 F1 g1 ∧ ((¬ xW n X Y q1 5 ∧ c = -8 ∧ pl = q1) ∨
    (xW n X Y q1 5 ∧ (rdXn n X Y V (e + 1) (q1 + 1) g1 c pl ∨ ∃ (q2 : Int) (F2 : Int → Int) (g2 : Prop), rdE n X Y V (e + 1) (q1 + 1) g1 q2 F2 g2 ∧ ¬ xW n X Y q2 4 ∧ c = -8 ∧ pl = q2)))
theorem rdT_btw (h : p < n ∧ X p = 0) (h2 : xW n X Y (p + 1) 13) (k : rdB n X Y V e (p + 2) g q U F g2) (hg : g3 ↔ (g2 ∧ fB (Y p) U F)) : rdT n X Y V e p g (q + 1) (fun i => U i + (F i - U i) * Y p / 16) g3 := by
  obtain ⟨q1, F1, g1, h3, he, k1, h5, hU, k2, h4⟩ := k
  refine ⟨fun z => k1.1 (k2.1 (hg.mp z).1), fun z i a c => ((hg.mp z).2 i a c).2, fun S r hS hr => ?_⟩
  refine .btw h h2 h3 (by omega) (k1.2.2 (.bt1 (Y p) :: S) r (by show dep S + 1 = e + 1; omega) trivial ?_)
  exact .com h5 hU (k2.2.2 (.bt2 (Y p) U :: S) r (by show dep S + 1 = e + 1; omega) trivial (.bte h4 hg (fun _ _ _ _ => rfl) hr))
theorem rdX_btw {c pl : Int} (h : p < n ∧ X p = 0) (h2 : xW n X Y (p + 1) 13) (k : rdBX n X Y V e (p + 2) g c pl) : rdX n X Y V e p g c pl := by
  intro S hS
  rcases k with ⟨h3, rfl, rfl⟩ | ⟨h3, he, rfl, rfl⟩ | ⟨h3, he, k⟩ | ⟨q1, F1, g1, h3, he, k1, k⟩
  · exact .btwX h h2 h3
  · exact .btwD h h2 h3 (by omega)
  · exact .btw h h2 h3 (by omega) (k (.bt1 (Y p) :: S) (by show dep S + 1 = e + 1; omega) trivial)
  · refine .btw h h2 h3 (by omega) (k1.2.2 (.bt1 (Y p) :: S) _ (by show dep S + 1 = e + 1; omega) trivial ?_)
    rcases k with ⟨h5, rfl, rfl⟩ | ⟨h5, k | ⟨q2, F2, g2, k2, h4, rfl, rfl⟩⟩
    · exact .comX h5
    · exact .com h5 (fun _ _ _ _ => rfl) (k (.bt2 (Y p) F1 :: S) (by show dep S + 1 = e + 1; omega) trivial)
    · exact .com h5 (fun _ _ _ _ => rfl) (k2.2.2 (.bt2 (Y p) F1 :: S) _ (by show dep S + 1 = e + 1; omega) trivial (.bteX h4))
end RD
/-! what the class's reader adds: the variables' forms stay, signs, sums -/
def cVf (A : Nat → Int → Int) (V : Int → Int → Int) : Prop := ∀ v : Int, 0 ≤ v → v < 12 → A (47 + 2 * v.toNat) = V v
theorem cVf_of {S T : List Nat} {I J : Nat → Nat → Int} {A B : Nat → Int → Int} {V : Int → Int → Int} (h : cPx S T I A J B) (hT : [47, 49, 51, 53, 55, 57, 59, 61, 63, 65, 67, 69].all (fun k => !(T.contains k)) = true) (hV : cVf A V) : cVf B V := by
  intro v v0 v1
  have fT : ∀ k, k ∈ [47, 49, 51, 53, 55, 57, 59, 61, 63, 65, 67, 69] → B k = A k := fun k hk => h.2.2.2 k (by have := List.all_eq_true.mp hT k hk; simpa using this) trivial
  rw [← hV v v0 v1]
  apply fT
  obtain ⟨m, rfl⟩ := Int.eq_ofNat_of_zero_le v0
  have hm : m < 12 := by omega
  show 47 + 2 * m ∈ _
  rcases (show m = 0 ∨ m = 1 ∨ m = 2 ∨ m = 3 ∨ m = 4 ∨ m = 5 ∨ m = 6 ∨ m = 7 ∨ m = 8 ∨ m = 9 ∨ m = 10 ∨ m = 11 by omega) with rfl | rfl | rfl | rfl | rfl | rfl | rfl | rfl | rfl | rfl | rfl | rfl <;> decide
section RD2
variable {n : Int} {X Y : Int → Int} {V : Int → Int → Int} {e p q s c : Int} {g g2 g3 : Prop} {F F2 T U : Int → Int}
theorem rdT_g (k : rdT n X Y V e p g q F g2) (h : g3 ↔ g2) : rdT n X Y V e p g q F g3 := by rw [propext h]; exact k
theorem rdE_g (k : rdE n X Y V e p g q F g2) (h : g3 ↔ g2) : rdE n X Y V e p g q F g3 := by rw [propext h]; exact k
theorem rdT_1 (k : rdT n X Y V e p g q F g2) : rdT n X Y V e p g q (fun i => 1 * F i) g2 := rdT_same k (fun _ i _ _ => Int.one_mul (F i))
theorem rdT_step {U2 : Int} (hM : ∀ (q : Int) (F : Int → Int) (g2 : Prop), rdT n X Y V e p g q F g2 → rdT n X Y V e U2 g q (fun i => s * F i) g2) (h : xW n X Y p 1) : ∀ (q : Int) (F : Int → Int) (g2 : Prop), rdT n X Y V e (p + 1) g q F g2 → rdT n X Y V e U2 g q (fun i => -s * F i) g2 := by
  intro q F g2 k
  have h1 := hM q _ g2 (rdT_minus h k)
  have e1 : (fun i => s * (-1 * F i)) = (fun i => -s * F i) := by
    funext i
    rw [← Int.mul_assoc, show s * -1 = -s by omega]
  rw [e1] at h1
  exact h1
theorem sg_16 (hs : s = 1 ∨ s = -1) (x : Int) : x * (16 * s) / 16 = s * x ∧ (x * (16 * s)) % 16 = 0 := by
  rcases hs with rfl | rfl <;> omega
theorem fM_16 (hs : s = 1 ∨ s = -1) (h : inr F) : fM F (16 * s) := by
  intro i a c
  have h1 := h i a c
  have h2 := sg_16 hs (F i)
  refine ⟨h2.2, ?_⟩
  rw [h2.1]
  rcases hs with rfl | rfl
  · show gin (1 * F i); omega
  · show gin (-1 * F i); omega
theorem fM_s (hs : s = 1 ∨ s = -1) : fM F (c * s) ↔ fM F c := by
  have e : ∀ i, F i * (c * -1) = -(F i * c) := fun i => by rw [Int.mul_neg_one, Int.mul_neg]
  rcases hs with rfl | rfl
  · rw [Int.mul_one]
  · constructor
    · intro h i a d
      have h1 := h i a d
      rw [e] at h1
      refine ⟨by omega, ?_⟩
      show gin (F i * c / 16)
      omega
    · intro h i a d
      have h1 := h i a d
      rw [e]
      refine ⟨by omega, ?_⟩
      show gin (-(F i * c) / 16)
      omega
theorem mul_s (hs : s = 1 ∨ s = -1) (x : Int) (h : (x * c) % 16 = 0) : x * (c * s) / 16 = s * (x * c / 16) := by
  rcases hs with rfl | rfl
  · rw [Int.mul_one, Int.one_mul]
  · rw [Int.mul_neg_one, Int.mul_neg]
    omega
def fk (k u : Int) (F : Int → Int) : List Fr := if k = 0 then [] else if u = 1 then [.mins F] else [.plus F]
theorem dep_fk (k u : Int) (F : Int → Int) (S : List Fr) : dep (fk k u F ++ S) = dep S := by
  unfold fk
  by_cases h : k = 0
  · rw [if_pos h]; rfl
  · rw [if_neg h]
    by_cases h2 : u = 1
    · rw [if_pos h2]; rfl
    · rw [if_neg h2]; rfl
theorem re_term {k u : Int} {S : List Fr} {r : ER} (hn : nb S) (h0 : k = 0 → g → vis F2 T) (h1 : k ≠ 0 → u = 1 → g → ∀ i, 0 ≤ i → i < 13 → F2 i = U i - T i) (h2 : k ≠ 0 → u ≠ 1 → g → ∀ i, 0 ≤ i → i < 13 → F2 i = U i + T i) (hb : g → far F2) (kk : RE n X Y V (.sd q F2 S g) r) : RE n X Y V (.td q T (fk k u U ++ S) g) r := by
  unfold fk
  by_cases hk : k = 0
  · rw [if_pos hk]
    exact .same (h0 hk) (.bare hn kk)
  · rw [if_neg hk]
    by_cases hu : u = 1
    · rw [if_pos hu]
      exact .mins (h1 hk hu) hb kk
    · rw [if_neg hu]
      exact .plus (h2 hk hu) hb kk
end RD2
theorem rdB_inr {n : Int} {X Y : Int → Int} {V : Int → Int → Int} {e p q : Int} {g g2 : Prop} {U F : Int → Int} (k : rdB n X Y V e p g q U F g2) (h : g2) : inr U ∧ inr F := by
  obtain ⟨q1, F1, g1, h3, he, k1, h5, hU, k2, h4⟩ := k
  refine ⟨fun i a c => ?_, k2.2.1 h⟩
  have h1 := k2.1 h
  rw [hU h1 i a c]
  exact k1.2.1 h1 i a c
/-! the same words, closed to omega -/
def xV (n : Int) (X Y : Int → Int) (q w : Int) : Prop := xW n X Y q w
def xK (n : Int) (X : Int → Int) (q k : Int) : Prop := q < n ∧ X q = k
def cK (a b n : Int) : Prop := a = 1 ↔ (b = 1 ∧ n = 1)
def sgn (s : Int) : Prop := s = 1 ∨ s = -1
theorem sgn_b {s : Int} (h : sgn s) : -1 ≤ s ∧ s ≤ 1 := by unfold sgn at h; omega
theorem sgn_n {s v : Int} (h : sgn s) (e : v = -s) : sgn v := by unfold sgn at h ⊢; omega
theorem sgn_m {s v : Int} (h : sgn s) (h1 : -16000 ≤ v ∧ v ≤ 16000) : -16000 ≤ v * s ∧ v * s ≤ 16000 := by
  rcases h with rfl | rfl <;> omega
theorem sgn_4 {s v y : Int} (h : sgn s) (h1 : -16000 ≤ v ∧ v ≤ 16000) (hy : -9223372036854775808 ≤ y ∧ y ≤ 9223372036854775807) (e : (y - v * s * 4096) % 18446744073709551616 = 0) : y = s * (v * 4096) := by
  have hb := sgn_m h h1
  have h2 : y = v * s * 4096 := by
    generalize v * s = t at hb e ⊢
    clear h h1
    omega
  rw [h2, ← Int.mul_assoc, Int.mul_comm s v]
theorem fk_m {k : Int} {F : Int → Int} (h : k ≠ 0) (S : List Fr) : fk k 1 F ++ S = .mins F :: S := by
  unfold fk
  rw [if_neg h, if_pos rfl]
  rfl
theorem fk_p {k : Int} {F : Int → Int} (h : k ≠ 0) (S : List Fr) : fk k 0 F ++ S = .plus F :: S := by
  unfold fk
  rw [if_neg h, if_neg (by decide)]
  rfl
theorem cVf_f {S : List Nat} {T : Nat → Bool} {I J : Nat → Nat → Int} {A B : Nat → Int → Int} {V : Int → Int → Int} (h : cPf S T I A J B) (hT : [47, 49, 51, 53, 55, 57, 59, 61, 63, 65, 67, 69].all (fun k => !(T k)) = true) (hV : cVf A V) : cVf B V := by
  have h1 : cPx S [] I B J B := ⟨h.1, h.2.1, h.2.2.1, fun _ _ _ => rfl⟩
  intro v v0 v1
  have fT : ∀ k, k ∈ [47, 49, 51, 53, 55, 57, 59, 61, 63, 65, 67, 69] → B k = A k := fun k hk => h.2.2.2 k (by have := List.all_eq_true.mp hT k hk; simpa using this) trivial
  rw [← hV v v0 v1]
  apply fT
  obtain ⟨m, rfl⟩ := Int.eq_ofNat_of_zero_le v0
  have hm : m < 12 := by omega
  show 47 + 2 * m ∈ _
  rcases (show m = 0 ∨ m = 1 ∨ m = 2 ∨ m = 3 ∨ m = 4 ∨ m = 5 ∨ m = 6 ∨ m = 7 ∨ m = 8 ∨ m = 9 ∨ m = 10 ∨ m = 11 by omega) with rfl | rfl | rfl | rfl | rfl | rfl | rfl | rfl | rfl | rfl | rfl | rfl <;> decide

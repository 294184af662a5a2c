/-! READING a statement -/
def EX (n : Int) (X Y : Int → Int) (V : Int → Int → Int) (p : Int) (g : Prop) (r : ER) : Prop := RE n X Y V (.op p [] g) r ∧ ∀ (q : Int) (F : Int → Int) (g2 : Prop), r = .ok q F g2 → (g2 → g) ∧ (g2 → inr F)
theorem EX_ok {n : Int} {X Y : Int → Int} {V : Int → Int → Int} {p q : Int} {g g2 : Prop} {F : Int → Int} (h : rdE n X Y V 0 p g q F g2) : EX n X Y V p g (.ok q F g2) := ⟨h.2.2 [] _ rfl trivial .fin, fun _ _ _ e => by cases e; exact ⟨h.1, h.2.1⟩⟩
theorem EX_err {n : Int} {X Y : Int → Int} {V : Int → Int → Int} {p c pl : Int} {g : Prop} (h : rdXn n X Y V 0 p g c pl) : EX n X Y V p g (.err c pl) := ⟨h [] rfl trivial, fun _ _ _ e => by cases e⟩
abbrev PRs : Type := Sum (Int × (Int → Int) × (Int → Int) × Prop) ((Int × Int))
abbrev PRs.ok (q : Int) (F1 F2 : Int → Int) (g : Prop) : PRs := Sum.inl (q, F1, F2, g)
abbrev PRs.err (c p : Int) : PRs := Sum.inr ((c, p))
/-- a pair -/
def PA_s9 (n : Int) (X Y : Int → Int) (V : Int → Int → Int) (a09 : Int) (a19 : Prop) (a29 : PRs) : Prop :=
  (a29 = (.err (-8) a09) ∧ (¬ xW n X Y a09 3)) ∨
  (∃ c : Int, ∃ pl : Int, a29 = (.err c pl) ∧ (xW n X Y a09 3) ∧ (EX n X Y V (a09 + 1) a19 (.err c pl))) ∨
  (∃ q : Int, ∃ g1 : Prop, ∃ F : Int → Int, a29 = (.err (-8) q) ∧ (xW n X Y a09 3) ∧ (EX n X Y V (a09 + 1) a19 (.ok q F g1)) ∧ (¬ xW n X Y q 5)) ∨
  (∃ q : Int, ∃ c : Int, ∃ pl : Int, ∃ g1 : Prop, ∃ F : Int → Int, a29 = (.err c pl) ∧ (xW n X Y a09 3) ∧ (EX n X Y V (a09 + 1) a19 (.ok q F g1)) ∧ (xW n X Y q 5) ∧ (EX n X Y V (q + 1) g1 (.err c pl))) ∨
  (∃ q : Int, ∃ q2 : Int, ∃ g1 : Prop, ∃ g2 : Prop, ∃ F : Int → Int, ∃ F2 : Int → Int, a29 = (.err (-8) q2) ∧ (xW n X Y a09 3) ∧ (EX n X Y V (a09 + 1) a19 (.ok q F g1)) ∧ (xW n X Y q 5) ∧ (EX n X Y V (q + 1) g1 (.ok q2 F2 g2)) ∧ (¬ xW n X Y q2 4)) ∨
  (∃ q : Int, ∃ q2 : Int, ∃ g1 : Prop, ∃ g2 : Prop, ∃ F : Int → Int, ∃ F2 : Int → Int, a29 = (.ok (q2 + 1) F F2 g2) ∧ (xW n X Y a09 3) ∧ (EX n X Y V (a09 + 1) a19 (.ok q F g1)) ∧ (xW n X Y q 5) ∧ (EX n X Y V (q + 1) g1 (.ok q2 F2 g2)) ∧ (xW n X Y q2 4))
def PA (n : Int) (X Y : Int → Int) (V : Int → Int → Int) (a09 : Int) (a19 : Prop) (a29 : PRs) : Prop := PA_s9 n X Y V a09 a19 a29
theorem PA.e0 {n : Int} {X Y : Int → Int} {V : Int → Int → Int} {p : Int} {g : Prop} (h : ¬ xW n X Y p 3) : PA n X Y V p g (.err (-8) p) := Or.inl (⟨rfl, h⟩)
theorem PA.e1 {n : Int} {X Y : Int → Int} {V : Int → Int → Int} {p c pl : Int} {g : Prop} (h : xW n X Y p 3) (k : EX n X Y V (p + 1) g (.err c pl)) : PA n X Y V p g (.err c pl) := Or.inr (Or.inl (⟨c, pl, rfl, h, k⟩))
theorem PA.e2 {n : Int} {X Y : Int → Int} {V : Int → Int → Int} {p q : Int} {g g1 : Prop} {F : Int → Int} (h : xW n X Y p 3) (k : EX n X Y V (p + 1) g (.ok q F g1)) (h5 : ¬ xW n X Y q 5) : PA n X Y V p g (.err (-8) q) := Or.inr (Or.inr (Or.inl (⟨q, g1, F, rfl, h, k, h5⟩)))
theorem PA.e3 {n : Int} {X Y : Int → Int} {V : Int → Int → Int} {p q c pl : Int} {g g1 : Prop} {F : Int → Int} (h : xW n X Y p 3) (k : EX n X Y V (p + 1) g (.ok q F g1)) (h5 : xW n X Y q 5) (k2 : EX n X Y V (q + 1) g1 (.err c pl)) : PA n X Y V p g (.err c pl) := Or.inr (Or.inr (Or.inr (Or.inl (⟨q, c, pl, g1, F, rfl, h, k, h5, k2⟩))))
theorem PA.e4 {n : Int} {X Y : Int → Int} {V : Int → Int → Int} {p q q2 : Int} {g g1 g2 : Prop} {F F2 : Int → Int} (h : xW n X Y p 3) (k : EX n X Y V (p + 1) g (.ok q F g1)) (h5 : xW n X Y q 5) (k2 : EX n X Y V (q + 1) g1 (.ok q2 F2 g2)) (h4 : ¬ xW n X Y q2 4) : PA n X Y V p g (.err (-8) q2) := Or.inr (Or.inr (Or.inr (Or.inr (Or.inl (⟨q, q2, g1, g2, F, F2, rfl, h, k, h5, k2, h4⟩)))))
theorem PA.ok {n : Int} {X Y : Int → Int} {V : Int → Int → Int} {p q q2 : Int} {g g1 g2 : Prop} {F F2 : Int → Int} (h : xW n X Y p 3) (k : EX n X Y V (p + 1) g (.ok q F g1)) (h5 : xW n X Y q 5) (k2 : EX n X Y V (q + 1) g1 (.ok q2 F2 g2)) (h4 : xW n X Y q2 4) : PA n X Y V p g (.ok (q2 + 1) F F2 g2) := Or.inr (Or.inr (Or.inr (Or.inr (Or.inr (⟨q, q2, g1, g2, F, F2, rfl, h, k, h5, k2, h4⟩)))))
theorem PA.inv {n : Int} {X Y : Int → Int} {V : Int → Int → Int} {a09 : Int} {a19 : Prop} {a29 : PRs} (h9 : PA n X Y V a09 a19 a29) : PA_s9 n X Y V a09 a19 a29 := h9
abbrev QR : Type := Sum (Int × (List Int) × (List (Int → Int)) × Prop) ((Int × Int))
abbrev QR.ok (q : Int) (L : List Int) (fs : List (Int → Int)) (g : Prop) : QR := Sum.inl (q, L, fs, g)
abbrev QR.err (c p : Int) : QR := Sum.inr ((c, p))
/-- the legs of a path, from p on: L and fs lie behind -/
def PL_s9 (n : Int) (X Y : Int → Int) (V : Int → Int → Int) (R : Int → List Int → List (Int → Int) → Prop → QR → Prop) (a09 : Int) (a19 : List Int) (a29 : List (Int → Int)) (a39 : Prop) (a49 : QR) : Prop :=
  (a49 = (.ok (a09 + 2) a19 a29 a39) ∧ (xW n X Y a09 8) ∧ (xW n X Y (a09 + 1) 9)) ∨
  (a49 = (.err (-8) a09) ∧ (¬ xW n X Y a09 8) ∧ (¬ xW n X Y a09 7)) ∨
  (∃ q : Int, ∃ g2 : Prop, ∃ F1 : Int → Int, ∃ F2 : Int → Int, (xW n X Y a09 8) ∧ (¬ xW n X Y (a09 + 1) 9) ∧ (PA n X Y V (a09 + 1) a39 (.ok q F1 F2 g2)) ∧ R q (a19 ++ [0]) (a29 ++ [F1, F2]) g2 a49) ∨
  (∃ c : Int, ∃ pl : Int, a49 = (.err c pl) ∧ (xW n X Y a09 8) ∧ (¬ xW n X Y (a09 + 1) 9) ∧ (PA n X Y V (a09 + 1) a39 (.err c pl))) ∨
  (∃ q1 : Int, ∃ q2 : Int, ∃ q3 : Int, ∃ g1 : Prop, ∃ g2 : Prop, ∃ g3 : Prop, ∃ F1 : Int → Int, ∃ F2 : Int → Int, ∃ F3 : Int → Int, ∃ F4 : Int → Int, ∃ F5 : Int → Int, ∃ F6 : Int → Int, (xW n X Y a09 7) ∧ (PA n X Y V (a09 + 1) a39 (.ok q1 F1 F2 g1)) ∧ (xW n X Y q1 7) ∧ (PA n X Y V (q1 + 1) g1 (.ok q2 F3 F4 g2)) ∧ (xW n X Y q2 7) ∧ (PA n X Y V (q2 + 1) g2 (.ok q3 F5 F6 g3)) ∧ R q3 (a19 ++ [1]) (a29 ++ [F1, F2] ++ [F3, F4] ++ [F5, F6]) g3 a49) ∨
  (∃ c : Int, ∃ pl : Int, a49 = (.err c pl) ∧ (xW n X Y a09 7) ∧ (PA n X Y V (a09 + 1) a39 (.err c pl))) ∨
  (∃ q1 : Int, ∃ g1 : Prop, ∃ F1 : Int → Int, ∃ F2 : Int → Int, a49 = (.err (-8) q1) ∧ (xW n X Y a09 7) ∧ (PA n X Y V (a09 + 1) a39 (.ok q1 F1 F2 g1)) ∧ (¬ xW n X Y q1 7)) ∨
  (∃ q1 : Int, ∃ c : Int, ∃ pl : Int, ∃ g1 : Prop, ∃ F1 : Int → Int, ∃ F2 : Int → Int, a49 = (.err c pl) ∧ (xW n X Y a09 7) ∧ (PA n X Y V (a09 + 1) a39 (.ok q1 F1 F2 g1)) ∧ (xW n X Y q1 7) ∧ (PA n X Y V (q1 + 1) g1 (.err c pl))) ∨
  (∃ q1 : Int, ∃ q2 : Int, ∃ g1 : Prop, ∃ g2 : Prop, ∃ F1 : Int → Int, ∃ F2 : Int → Int, ∃ F3 : Int → Int, ∃ F4 : Int → Int, a49 = (.err (-8) q2) ∧ (xW n X Y a09 7) ∧ (PA n X Y V (a09 + 1) a39 (.ok q1 F1 F2 g1)) ∧ (xW n X Y q1 7) ∧ (PA n X Y V (q1 + 1) g1 (.ok q2 F3 F4 g2)) ∧ (¬ xW n X Y q2 7)) ∨
  (∃ q1 : Int, ∃ q2 : Int, ∃ c : Int, ∃ pl : Int, ∃ g1 : Prop, ∃ g2 : Prop, ∃ F1 : Int → Int, ∃ F2 : Int → Int, ∃ F3 : Int → Int, ∃ F4 : Int → Int, a49 = (.err c pl) ∧ (xW n X Y a09 7) ∧ (PA n X Y V (a09 + 1) a39 (.ok q1 F1 F2 g1)) ∧ (xW n X Y q1 7) ∧ (PA n X Y V (q1 + 1) g1 (.ok q2 F3 F4 g2)) ∧ (xW n X Y q2 7) ∧ (PA n X Y V (q2 + 1) g2 (.err c pl)))
def PL_k9 (n : Int) (X Y : Int → Int) (V : Int → Int → Int) : Nat → Int → List Int → List (Int → Int) → Prop → QR → Prop
  | 0 => fun _ _ _ _ _ => False
  | k + 1 => PL_s9 n X Y V (PL_k9 n X Y V k)
def PL (n : Int) (X Y : Int → Int) (V : Int → Int → Int) (a09 : Int) (a19 : List Int) (a29 : List (Int → Int)) (a39 : Prop) (a49 : QR) : Prop := ∃ k9 : Nat, PL_k9 n X Y V k9 a09 a19 a29 a39 a49
theorem PL.fin {n : Int} {X Y : Int → Int} {V : Int → Int → Int} {p : Int} {L : List Int} {fs : List (Int → Int)} {g : Prop} (h : xW n X Y p 8) (h9 : xW n X Y (p + 1) 9) : PL n X Y V p L fs g (.ok (p + 2) L fs g) := ⟨1, Or.inl (⟨rfl, h, h9⟩)⟩
theorem PL.bad {n : Int} {X Y : Int → Int} {V : Int → Int → Int} {p : Int} {L : List Int} {fs : List (Int → Int)} {g : Prop} (h : ¬ xW n X Y p 8) (h7 : ¬ xW n X Y p 7) : PL n X Y V p L fs g (.err (-8) p) := ⟨1, Or.inr (Or.inl (⟨rfl, h, h7⟩))⟩
theorem PL.line {n : Int} {X Y : Int → Int} {V : Int → Int → Int} {p q : Int} {L : List Int} {fs : List (Int → Int)} {g g2 : Prop} {F1 F2 : Int → Int} {r : QR} (h : xW n X Y p 8) (h9 : ¬ xW n X Y (p + 1) 9) (k : PA n X Y V (p + 1) g (.ok q F1 F2 g2)) (kk : PL n X Y V q (L ++ [0]) (fs ++ [F1, F2]) g2 r) : PL n X Y V p L fs g r := by
  obtain ⟨m9, hm9⟩ := kk
  exact ⟨m9 + 1, Or.inr (Or.inr (Or.inl (⟨q, g2, F1, F2, h, h9, k, hm9⟩)))⟩
theorem PL.lineX {n : Int} {X Y : Int → Int} {V : Int → Int → Int} {p c pl : Int} {L : List Int} {fs : List (Int → Int)} {g : Prop} (h : xW n X Y p 8) (h9 : ¬ xW n X Y (p + 1) 9) (k : PA n X Y V (p + 1) g (.err c pl)) : PL n X Y V p L fs g (.err c pl) := ⟨1, Or.inr (Or.inr (Or.inr (Or.inl (⟨c, pl, rfl, h, h9, k⟩))))⟩
theorem PL.cur {n : Int} {X Y : Int → Int} {V : Int → Int → Int} {p q1 q2 q3 : Int} {L : List Int} {fs : List (Int → Int)} {g g1 g2 g3 : Prop} {F1 F2 F3 F4 F5 F6 : Int → Int} {r : QR} (h : xW n X Y p 7) (k : PA n X Y V (p + 1) g (.ok q1 F1 F2 g1)) (h2 : xW n X Y q1 7) (k2 : PA n X Y V (q1 + 1) g1 (.ok q2 F3 F4 g2)) (h3 : xW n X Y q2 7) (k3 : PA n X Y V (q2 + 1) g2 (.ok q3 F5 F6 g3)) (kk : PL n X Y V q3 (L ++ [1]) (fs ++ [F1, F2] ++ [F3, F4] ++ [F5, F6]) g3 r) : PL n X Y V p L fs g r := by
  obtain ⟨m9, hm9⟩ := kk
  exact ⟨m9 + 1, Or.inr (Or.inr (Or.inr (Or.inr (Or.inl (⟨q1, q2, q3, g1, g2, g3, F1, F2, F3, F4, F5, F6, h, k, h2, k2, h3, k3, hm9⟩)))))⟩
theorem PL.cur1 {n : Int} {X Y : Int → Int} {V : Int → Int → Int} {p c pl : Int} {L : List Int} {fs : List (Int → Int)} {g : Prop} (h : xW n X Y p 7) (k : PA n X Y V (p + 1) g (.err c pl)) : PL n X Y V p L fs g (.err c pl) := ⟨1, Or.inr (Or.inr (Or.inr (Or.inr (Or.inr (Or.inl (⟨c, pl, rfl, h, k⟩))))))⟩
theorem PL.cur2 {n : Int} {X Y : Int → Int} {V : Int → Int → Int} {p q1 : Int} {L : List Int} {fs : List (Int → Int)} {g g1 : Prop} {F1 F2 : Int → Int} (h : xW n X Y p 7) (k : PA n X Y V (p + 1) g (.ok q1 F1 F2 g1)) (h2 : ¬ xW n X Y q1 7) : PL n X Y V p L fs g (.err (-8) q1) := ⟨1, Or.inr (Or.inr (Or.inr (Or.inr (Or.inr (Or.inr (Or.inl (⟨q1, g1, F1, F2, rfl, h, k, h2⟩)))))))⟩
theorem PL.cur3 {n : Int} {X Y : Int → Int} {V : Int → Int → Int} {p q1 c pl : Int} {L : List Int} {fs : List (Int → Int)} {g g1 : Prop} {F1 F2 : Int → Int} (h : xW n X Y p 7) (k : PA n X Y V (p + 1) g (.ok q1 F1 F2 g1)) (h2 : xW n X Y q1 7) (k2 : PA n X Y V (q1 + 1) g1 (.err c pl)) : PL n X Y V p L fs g (.err c pl) := ⟨1, Or.inr (Or.inr (Or.inr (Or.inr (Or.inr (Or.inr (Or.inr (Or.inl (⟨q1, c, pl, g1, F1, F2, rfl, h, k, h2, k2⟩))))))))⟩
theorem PL.cur4 {n : Int} {X Y : Int → Int} {V : Int → Int → Int} {p q1 q2 : Int} {L : List Int} {fs : List (Int → Int)} {g g1 g2 : Prop} {F1 F2 F3 F4 : Int → Int} (h : xW n X Y p 7) (k : PA n X Y V (p + 1) g (.ok q1 F1 F2 g1)) (h2 : xW n X Y q1 7) (k2 : PA n X Y V (q1 + 1) g1 (.ok q2 F3 F4 g2)) (h3 : ¬ xW n X Y q2 7) : PL n X Y V p L fs g (.err (-8) q2) := ⟨1, Or.inr (Or.inr (Or.inr (Or.inr (Or.inr (Or.inr (Or.inr (Or.inr (Or.inl (⟨q1, q2, g1, g2, F1, F2, F3, F4, rfl, h, k, h2, k2, h3⟩)))))))))⟩
theorem PL.cur5 {n : Int} {X Y : Int → Int} {V : Int → Int → Int} {p q1 q2 c pl : Int} {L : List Int} {fs : List (Int → Int)} {g g1 g2 : Prop} {F1 F2 F3 F4 : Int → Int} (h : xW n X Y p 7) (k : PA n X Y V (p + 1) g (.ok q1 F1 F2 g1)) (h2 : xW n X Y q1 7) (k2 : PA n X Y V (q1 + 1) g1 (.ok q2 F3 F4 g2)) (h3 : xW n X Y q2 7) (k3 : PA n X Y V (q2 + 1) g2 (.err c pl)) : PL n X Y V p L fs g (.err c pl) := ⟨1, Or.inr (Or.inr (Or.inr (Or.inr (Or.inr (Or.inr (Or.inr (Or.inr (Or.inr (⟨q1, q2, c, pl, g1, g2, F1, F2, F3, F4, rfl, h, k, h2, k2, h3, k3⟩)))))))))⟩
theorem PL.inv {n : Int} {X Y : Int → Int} {V : Int → Int → Int} {a09 : Int} {a19 : List Int} {a29 : List (Int → Int)} {a39 : Prop} {a49 : QR} (h9 : PL n X Y V a09 a19 a29 a39 a49) : PL_s9 n X Y V (PL n X Y V) a09 a19 a29 a39 a49 := by
  obtain ⟨m9, hm9⟩ := h9
  cases m9 with
  | zero => exact hm9.elim
  | succ m9 =>
    rcases hm9 with ⟨e0, h0, h1⟩ | ⟨e0, h0, h1⟩ | ⟨x0, x1, x2, x3, h0, h1, h2, h3⟩ | ⟨x0, x1, e0, h0, h1, h2⟩ | ⟨x0, x1, x2, x3, x4, x5, x6, x7, x8, x9, x10, x11, h0, h1, h2, h3, h4, h5, h6⟩ | ⟨x0, x1, e0, h0, h1⟩ | ⟨x0, x1, x2, x3, e0, h0, h1, h2⟩ | ⟨x0, x1, x2, x3, x4, x5, e0, h0, h1, h2, h3⟩ | ⟨x0, x1, x2, x3, x4, x5, x6, x7, e0, h0, h1, h2, h3, h4⟩ | ⟨x0, x1, x2, x3, x4, x5, x6, x7, x8, x9, e0, h0, h1, h2, h3, h4, h5⟩
    · exact Or.inl (⟨e0, h0, h1⟩)
    · exact Or.inr (Or.inl (⟨e0, h0, h1⟩))
    · exact Or.inr (Or.inr (Or.inl (⟨x0, x1, x2, x3, h0, h1, h2, ⟨m9, h3⟩⟩)))
    · exact Or.inr (Or.inr (Or.inr (Or.inl (⟨x0, x1, e0, h0, h1, h2⟩))))
    · exact Or.inr (Or.inr (Or.inr (Or.inr (Or.inl (⟨x0, x1, x2, x3, x4, x5, x6, x7, x8, x9, x10, x11, h0, h1, h2, h3, h4, h5, ⟨m9, h6⟩⟩)))))
    · exact Or.inr (Or.inr (Or.inr (Or.inr (Or.inr (Or.inl (⟨x0, x1, e0, h0, h1⟩))))))
    · exact Or.inr (Or.inr (Or.inr (Or.inr (Or.inr (Or.inr (Or.inl (⟨x0, x1, x2, x3, e0, h0, h1, h2⟩)))))))
    · exact Or.inr (Or.inr (Or.inr (Or.inr (Or.inr (Or.inr (Or.inr (Or.inl (⟨x0, x1, x2, x3, x4, x5, e0, h0, h1, h2, h3⟩))))))))
    · exact Or.inr (Or.inr (Or.inr (Or.inr (Or.inr (Or.inr (Or.inr (Or.inr (Or.inl (⟨x0, x1, x2, x3, x4, x5, x6, x7, e0, h0, h1, h2, h3, h4⟩)))))))))
    · exact Or.inr (Or.inr (Or.inr (Or.inr (Or.inr (Or.inr (Or.inr (Or.inr (Or.inr (⟨x0, x1, x2, x3, x4, x5, x6, x7, x8, x9, e0, h0, h1, h2, h3, h4, h5⟩)))))))))
/-- a path from p on -/
def PH_s9 (n : Int) (X Y : Int → Int) (V : Int → Int → Int) (a09 : Int) (a19 : QR) : Prop :=
  (∃ c : Int, ∃ pl : Int, a19 = (.err c pl) ∧ (PA n X Y V a09 True (.err c pl))) ∨
  (∃ q : Int, ∃ g : Prop, ∃ F1 : Int → Int, ∃ F2 : Int → Int, (PA n X Y V a09 True (.ok q F1 F2 g)) ∧ (PL n X Y V q [] [F1, F2] g a19))
def PH (n : Int) (X Y : Int → Int) (V : Int → Int → Int) (a09 : Int) (a19 : QR) : Prop := PH_s9 n X Y V a09 a19
theorem PH.e0 {n : Int} {X Y : Int → Int} {V : Int → Int → Int} {p c pl : Int} (k : PA n X Y V p True (.err c pl)) : PH n X Y V p (.err c pl) := Or.inl (⟨c, pl, rfl, k⟩)
theorem PH.go {n : Int} {X Y : Int → Int} {V : Int → Int → Int} {p q : Int} {g : Prop} {F1 F2 : Int → Int} {r : QR} (k : PA n X Y V p True (.ok q F1 F2 g)) (kk : PL n X Y V q [] [F1, F2] g r) : PH n X Y V p r := Or.inr (⟨q, g, F1, F2, k, kk⟩)
theorem PH.inv {n : Int} {X Y : Int → Int} {V : Int → Int → Int} {a09 : Int} {a19 : QR} (h9 : PH n X Y V a09 a19) : PH_s9 n X Y V a09 a19 := h9
abbrev FQ : Type := Sum (Int × (List (Int → Int)) × Prop) ((Int × Int))
abbrev FQ.ok (q : Int) (fs : List (Int → Int)) (g : Prop) : FQ := Sum.inl (q, fs, g)
abbrev FQ.err (c p : Int) : FQ := Sum.inr ((c, p))
/-- an equation, behind its first expression -/
def EQL_s9 (n : Int) (X Y : Int → Int) (V : Int → Int → Int) (R : Int → List (Int → Int) → Prop → FQ → Prop) (a09 : Int) (a19 : List (Int → Int)) (a29 : Prop) (a39 : FQ) : Prop :=
  (∃ q : Int, ∃ g1 : Prop, ∃ F : Int → Int, (xW n X Y a09 2) ∧ (EX n X Y V (a09 + 1) a29 (.ok q F g1)) ∧ R q (a19 ++ [F]) g1 a39) ∨
  (∃ c : Int, ∃ pl : Int, a39 = (.err c pl) ∧ (xW n X Y a09 2) ∧ (EX n X Y V (a09 + 1) a29 (.err c pl))) ∨
  (a39 = (.err (-8) a09) ∧ (¬ xW n X Y a09 2) ∧ (a19.length = 1)) ∨
  (a39 = (.ok a09 a19 a29) ∧ (¬ xW n X Y a09 2) ∧ (a19.length ≠ 1))
def EQL_k9 (n : Int) (X Y : Int → Int) (V : Int → Int → Int) : Nat → Int → List (Int → Int) → Prop → FQ → Prop
  | 0 => fun _ _ _ _ => False
  | k + 1 => EQL_s9 n X Y V (EQL_k9 n X Y V k)
def EQL (n : Int) (X Y : Int → Int) (V : Int → Int → Int) (a09 : Int) (a19 : List (Int → Int)) (a29 : Prop) (a39 : FQ) : Prop := ∃ k9 : Nat, EQL_k9 n X Y V k9 a09 a19 a29 a39
theorem EQL.more {n : Int} {X Y : Int → Int} {V : Int → Int → Int} {p q : Int} {fs : List (Int → Int)} {g g1 : Prop} {F : Int → Int} {r : FQ} (h : xW n X Y p 2) (k : EX n X Y V (p + 1) g (.ok q F g1)) (kk : EQL n X Y V q (fs ++ [F]) g1 r) : EQL n X Y V p fs g r := by
  obtain ⟨m9, hm9⟩ := kk
  exact ⟨m9 + 1, Or.inl (⟨q, g1, F, h, k, hm9⟩)⟩
theorem EQL.moreX {n : Int} {X Y : Int → Int} {V : Int → Int → Int} {p c pl : Int} {fs : List (Int → Int)} {g : Prop} (h : xW n X Y p 2) (k : EX n X Y V (p + 1) g (.err c pl)) : EQL n X Y V p fs g (.err c pl) := ⟨1, Or.inr (Or.inl (⟨c, pl, rfl, h, k⟩))⟩
theorem EQL.need {n : Int} {X Y : Int → Int} {V : Int → Int → Int} {p : Int} {fs : List (Int → Int)} {g : Prop} (h : ¬ xW n X Y p 2) (h1 : fs.length = 1) : EQL n X Y V p fs g (.err (-8) p) := ⟨1, Or.inr (Or.inr (Or.inl (⟨rfl, h, h1⟩)))⟩
theorem EQL.done {n : Int} {X Y : Int → Int} {V : Int → Int → Int} {p : Int} {fs : List (Int → Int)} {g : Prop} (h : ¬ xW n X Y p 2) (h1 : fs.length ≠ 1) : EQL n X Y V p fs g (.ok p fs g) := ⟨1, Or.inr (Or.inr (Or.inr (⟨rfl, h, h1⟩)))⟩
theorem EQL.inv {n : Int} {X Y : Int → Int} {V : Int → Int → Int} {a09 : Int} {a19 : List (Int → Int)} {a29 : Prop} {a39 : FQ} (h9 : EQL n X Y V a09 a19 a29 a39) : EQL_s9 n X Y V (EQL n X Y V) a09 a19 a29 a39 := by
  obtain ⟨m9, hm9⟩ := h9
  cases m9 with
  | zero => exact hm9.elim
  | succ m9 =>
    rcases hm9 with ⟨x0, x1, x2, h0, h1, h2⟩ | ⟨x0, x1, e0, h0, h1⟩ | ⟨e0, h0, h1⟩ | ⟨e0, h0, h1⟩
    · exact Or.inl (⟨x0, x1, x2, h0, h1, ⟨m9, h2⟩⟩)
    · exact Or.inr (Or.inl (⟨x0, x1, e0, h0, h1⟩))
    · exact Or.inr (Or.inr (Or.inl (⟨e0, h0, h1⟩)))
    · exact Or.inr (Or.inr (Or.inr (⟨e0, h0, h1⟩)))
def EQ_s9 (n : Int) (X Y : Int → Int) (V : Int → Int → Int) (a09 : Int) (a19 : FQ) : Prop :=
  (∃ c : Int, ∃ pl : Int, a19 = (.err c pl) ∧ (EX n X Y V a09 True (.err c pl))) ∨
  (∃ q : Int, ∃ g : Prop, ∃ F : Int → Int, (EX n X Y V a09 True (.ok q F g)) ∧ (EQL n X Y V q [F] g a19))
def EQ (n : Int) (X Y : Int → Int) (V : Int → Int → Int) (a09 : Int) (a19 : FQ) : Prop := EQ_s9 n X Y V a09 a19
theorem EQ.e0 {n : Int} {X Y : Int → Int} {V : Int → Int → Int} {p c pl : Int} (k : EX n X Y V p True (.err c pl)) : EQ n X Y V p (.err c pl) := Or.inl (⟨c, pl, rfl, k⟩)
theorem EQ.go {n : Int} {X Y : Int → Int} {V : Int → Int → Int} {p q : Int} {g : Prop} {F : Int → Int} {r : FQ} (k : EX n X Y V p True (.ok q F g)) (kk : EQL n X Y V q [F] g r) : EQ n X Y V p r := Or.inr (⟨q, g, F, k, kk⟩)
theorem EQ.inv {n : Int} {X Y : Int → Int} {V : Int → Int → Int} {a09 : Int} {a19 : FQ} (h9 : EQ n X Y V a09 a19) : EQ_s9 n X Y V a09 a19 := h9
abbrev SR : Type := Sum (Int × Int) (Sum (Int) (Sum (Int × (Int → Int) × Prop) (Sum (Int × Int × (List Int) × (List (Int → Int)) × Prop) ((Int × (List (Int → Int)) × Prop)))))
abbrev SR.err (c p : Int) : SR := Sum.inl (c, p)
abbrev SR.nop (q : Int) : SR := Sum.inr (Sum.inl q)
abbrev SR.shw (q : Int) (F : Int → Int) (g : Prop) : SR := Sum.inr (Sum.inr (Sum.inl (q, F, g)))
abbrev SR.path (q v : Int) (L : List Int) (fs : List (Int → Int)) (g : Prop) : SR := Sum.inr (Sum.inr (Sum.inr (Sum.inl (q, v, L, fs, g))))
abbrev SR.eqs (q : Int) (fs : List (Int → Int)) (g : Prop) : SR := Sum.inr (Sum.inr (Sum.inr (Sum.inr ((q, fs, g)))))
/-- a statement at p; q is the place behind its end -/
def ST_s9 (n : Int) (X Y : Int → Int) (V : Int → Int → Int) (a09 : Int) (a19 : SR) : Prop :=
  (a19 = (.nop (a09 + 1)) ∧ (xW n X Y a09 6)) ∨
  (∃ q : Int, ∃ F : Int → Int, ∃ g : Prop, a19 = (.shw (q + 1) F g) ∧ (xW n X Y a09 12) ∧ (EX n X Y V (a09 + 1) True (.ok q F g)) ∧ (xW n X Y q 6)) ∨
  (∃ c : Int, ∃ pl : Int, a19 = (.err c pl) ∧ (xW n X Y a09 12) ∧ (EX n X Y V (a09 + 1) True (.err c pl))) ∨
  (∃ q : Int, ∃ F : Int → Int, ∃ g : Prop, a19 = (.err (-8) q) ∧ (xW n X Y a09 12) ∧ (EX n X Y V (a09 + 1) True (.ok q F g)) ∧ (¬ xW n X Y q 6)) ∨
  (∃ q : Int, ∃ v : Int, ∃ L : List Int, ∃ fs : List (Int → Int), ∃ g : Prop, a19 = (.path (q + 1) v L fs g) ∧ (v = 10 ∨ v = 11) ∧ (xW n X Y a09 v) ∧ (PH n X Y V (a09 + 1) (.ok q L fs g)) ∧ (xW n X Y q 6)) ∨
  (∃ v : Int, ∃ c : Int, ∃ pl : Int, a19 = (.err c pl) ∧ (v = 10 ∨ v = 11) ∧ (xW n X Y a09 v) ∧ (PH n X Y V (a09 + 1) (.err c pl))) ∨
  (∃ q : Int, ∃ v : Int, ∃ L : List Int, ∃ fs : List (Int → Int), ∃ g : Prop, a19 = (.err (-8) q) ∧ (v = 10 ∨ v = 11) ∧ (xW n X Y a09 v) ∧ (PH n X Y V (a09 + 1) (.ok q L fs g)) ∧ (¬ xW n X Y q 6)) ∨
  (∃ q : Int, ∃ fs : List (Int → Int), ∃ g : Prop, a19 = (.eqs (q + 1) fs g) ∧ (¬ xW n X Y a09 6) ∧ (¬ xW n X Y a09 12) ∧ (¬ xW n X Y a09 10) ∧ (¬ xW n X Y a09 11) ∧ (EQ n X Y V a09 (.ok q fs g)) ∧ (xW n X Y q 6)) ∨
  (∃ c : Int, ∃ pl : Int, a19 = (.err c pl) ∧ (¬ xW n X Y a09 6) ∧ (¬ xW n X Y a09 12) ∧ (¬ xW n X Y a09 10) ∧ (¬ xW n X Y a09 11) ∧ (EQ n X Y V a09 (.err c pl))) ∨
  (∃ q : Int, ∃ fs : List (Int → Int), ∃ g : Prop, a19 = (.err (-8) q) ∧ (¬ xW n X Y a09 6) ∧ (¬ xW n X Y a09 12) ∧ (¬ xW n X Y a09 10) ∧ (¬ xW n X Y a09 11) ∧ (EQ n X Y V a09 (.ok q fs g)) ∧ (¬ xW n X Y q 6))
def ST (n : Int) (X Y : Int → Int) (V : Int → Int → Int) (a09 : Int) (a19 : SR) : Prop := ST_s9 n X Y V a09 a19
theorem ST.nop {n : Int} {X Y : Int → Int} {V : Int → Int → Int} {p : Int} (h : xW n X Y p 6) : ST n X Y V p (.nop (p + 1)) := Or.inl (⟨rfl, h⟩)
theorem ST.shw {n : Int} {X Y : Int → Int} {V : Int → Int → Int} {p q : Int} {F : Int → Int} {g : Prop} (h : xW n X Y p 12) (k : EX n X Y V (p + 1) True (.ok q F g)) (h6 : xW n X Y q 6) : ST n X Y V p (.shw (q + 1) F g) := Or.inr (Or.inl (⟨q, F, g, rfl, h, k, h6⟩))
theorem ST.shwX {n : Int} {X Y : Int → Int} {V : Int → Int → Int} {p c pl : Int} (h : xW n X Y p 12) (k : EX n X Y V (p + 1) True (.err c pl)) : ST n X Y V p (.err c pl) := Or.inr (Or.inr (Or.inl (⟨c, pl, rfl, h, k⟩)))
theorem ST.shwE {n : Int} {X Y : Int → Int} {V : Int → Int → Int} {p q : Int} {F : Int → Int} {g : Prop} (h : xW n X Y p 12) (k : EX n X Y V (p + 1) True (.ok q F g)) (h6 : ¬ xW n X Y q 6) : ST n X Y V p (.err (-8) q) := Or.inr (Or.inr (Or.inr (Or.inl (⟨q, F, g, rfl, h, k, h6⟩))))
theorem ST.path {n : Int} {X Y : Int → Int} {V : Int → Int → Int} {p q v : Int} {L : List Int} {fs : List (Int → Int)} {g : Prop} (hv : v = 10 ∨ v = 11) (h : xW n X Y p v) (k : PH n X Y V (p + 1) (.ok q L fs g)) (h6 : xW n X Y q 6) : ST n X Y V p (.path (q + 1) v L fs g) := Or.inr (Or.inr (Or.inr (Or.inr (Or.inl (⟨q, v, L, fs, g, rfl, hv, h, k, h6⟩)))))
theorem ST.pathX {n : Int} {X Y : Int → Int} {V : Int → Int → Int} {p v c pl : Int} (hv : v = 10 ∨ v = 11) (h : xW n X Y p v) (k : PH n X Y V (p + 1) (.err c pl)) : ST n X Y V p (.err c pl) := Or.inr (Or.inr (Or.inr (Or.inr (Or.inr (Or.inl (⟨v, c, pl, rfl, hv, h, k⟩))))))
theorem ST.pathE {n : Int} {X Y : Int → Int} {V : Int → Int → Int} {p q v : Int} {L : List Int} {fs : List (Int → Int)} {g : Prop} (hv : v = 10 ∨ v = 11) (h : xW n X Y p v) (k : PH n X Y V (p + 1) (.ok q L fs g)) (h6 : ¬ xW n X Y q 6) : ST n X Y V p (.err (-8) q) := Or.inr (Or.inr (Or.inr (Or.inr (Or.inr (Or.inr (Or.inl (⟨q, v, L, fs, g, rfl, hv, h, k, h6⟩)))))))
theorem ST.eqs {n : Int} {X Y : Int → Int} {V : Int → Int → Int} {p q : Int} {fs : List (Int → Int)} {g : Prop} (h6 : ¬ xW n X Y p 6) (h12 : ¬ xW n X Y p 12) (h10 : ¬ xW n X Y p 10) (h11 : ¬ xW n X Y p 11) (k : EQ n X Y V p (.ok q fs g)) (he : xW n X Y q 6) : ST n X Y V p (.eqs (q + 1) fs g) := Or.inr (Or.inr (Or.inr (Or.inr (Or.inr (Or.inr (Or.inr (Or.inl (⟨q, fs, g, rfl, h6, h12, h10, h11, k, he⟩))))))))
theorem ST.eqsX {n : Int} {X Y : Int → Int} {V : Int → Int → Int} {p c pl : Int} (h6 : ¬ xW n X Y p 6) (h12 : ¬ xW n X Y p 12) (h10 : ¬ xW n X Y p 10) (h11 : ¬ xW n X Y p 11) (k : EQ n X Y V p (.err c pl)) : ST n X Y V p (.err c pl) := Or.inr (Or.inr (Or.inr (Or.inr (Or.inr (Or.inr (Or.inr (Or.inr (Or.inl (⟨c, pl, rfl, h6, h12, h10, h11, k⟩)))))))))
theorem ST.eqsE {n : Int} {X Y : Int → Int} {V : Int → Int → Int} {p q : Int} {fs : List (Int → Int)} {g : Prop} (h6 : ¬ xW n X Y p 6) (h12 : ¬ xW n X Y p 12) (h10 : ¬ xW n X Y p 10) (h11 : ¬ xW n X Y p 11) (k : EQ n X Y V p (.ok q fs g)) (he : ¬ xW n X Y q 6) : ST n X Y V p (.err (-8) q) := Or.inr (Or.inr (Or.inr (Or.inr (Or.inr (Or.inr (Or.inr (Or.inr (Or.inr (⟨q, fs, g, rfl, h6, h12, h10, h11, k, he⟩)))))))))
theorem ST.inv {n : Int} {X Y : Int → Int} {V : Int → Int → Int} {a09 : Int} {a19 : SR} (h9 : ST n X Y V a09 a19) : ST_s9 n X Y V a09 a19 := h9
/-! what the class keeps of a statement -/
def cKp (A : Nat → Int → Int) (fs : List (Int → Int)) : Prop := ∀ (i : Nat) (F : Int → Int), fs[i]? = some F → vis (A (76 + 2 * i)) F
def cLg (A : Nat → Int → Int) (L : List Int) : Prop := ∀ (i : Nat) (x : Int), L[i]? = some x → i < 12 → A 375 (i : Int) = x
def tKept (k : Nat) : Bool := decide (76 ≤ k) && decide (k < 433)
theorem tk_in {c : Int} (h0 : 0 ≤ c) (h1 : c < 150) : [76 + 2 * c.toNat].all (fun x => tKept x) = true := by
  unfold tKept
  simp
  omega
theorem cKp_0 (A : Nat → Int → Int) : cKp A [] := fun i F h => by simp at h
theorem cKp_keep {A A2 : Nat → Int → Int} {fs : List (Int → Int)} {F : Int → Int} {c : Int} (h : cKp A fs) (hc : c = (fs.length : Int)) (h1 : ∀ k, [76 + 2 * c.toNat].contains k = false → True → A2 k = A k) (h2 : vis (A2 (76 + 2 * c.toNat)) F) : cKp A2 (fs ++ [F]) := by
  have ec : c.toNat = fs.length := by omega
  rw [ec] at h1 h2
  intro i G hG
  by_cases hi : i < fs.length
  · rw [List.getElem?_append_left hi] at hG
    rw [h1 (76 + 2 * i) (ctn1 (by omega)) trivial]
    exact h i G hG
  · rw [List.getElem?_append_right (by omega)] at hG
    by_cases e : i = fs.length
    · rw [e, Nat.sub_self] at hG
      simp only [List.getElem?_cons_zero, Option.some.injEq] at hG
      rw [e, ← hG]
      exact h2
    · rw [List.getElem?_eq_none (by simp; omega)] at hG
      cases hG
theorem cKp_fr {A A2 : Nat → Int → Int} {fs : List (Int → Int)} (h : cKp A fs) (hl : fs.length ≤ 150) (h1 : ∀ k, 76 ≤ k → k < 375 → A2 k = A k) : cKp A2 fs := by
  intro i F hF
  have hi : i < fs.length := by
    by_cases c : i < fs.length
    · exact c
    · rw [List.getElem?_eq_none (by omega)] at hF; cases hF
  rw [h1 (76 + 2 * i) (by omega) (by omega)]
  exact h i F hF
theorem fr_x {S T : List Nat} {I J : Nat → Nat → Int} {A B : Nat → Int → Int} (h : cPx S T I A J B) (hT : T.all (fun x => decide (375 ≤ x)) = true) : ∀ k, 76 ≤ k → k < 375 → B k = A k := by
  intro k _ hk
  refine h.2.2.2 k ?_ trivial
  cases hc : T.contains k with
  | false => rfl
  | true =>
    have h1 := List.all_eq_true.mp hT k (List.contains_iff_mem.mp hc)
    simp at h1
    omega
theorem cLg_fr {A B : Nat → Int → Int} {L : List Int} (h : cLg A L) (e : B 375 = A 375) : cLg B L := by unfold cLg; rw [e]; exact h
theorem cLg_add {A : Nat → Int → Int} {L : List Int} {c x : Int} (h : cLg A L) (hc : c = (L.length : Int)) (B : Nat → Int → Int) (h1 : c < 12 → B 375 = ju (A 375) c x) (h2 : ¬ c < 12 → B 375 = A 375) : cLg B (L ++ [x]) := by
  intro i y hy hi
  by_cases c2 : i < L.length
  · rw [List.getElem?_append_left c2] at hy
    by_cases c3 : c < 12
    · rw [h1 c3, ju_ne _ _ (by omega)]
      exact h i y hy hi
    · rw [h2 c3]
      exact h i y hy hi
  · rw [List.getElem?_append_right (by omega)] at hy
    by_cases e : i = L.length
    · rw [e, Nat.sub_self] at hy
      simp only [List.getElem?_cons_zero, Option.some.injEq] at hy
      rw [h1 (by omega), show ((i : Nat) : Int) = c by omega, ju_self, hy]
    · rw [List.getElem?_eq_none (by simp; omega)] at hy
      cases hy
/-- a path in reading, a path that is read; an equation in reading -/
def cPH (n : Int) (X Y : Int → Int) (V : Int → Int → Int) (p0 : Int) (J : Nat → Nat → Int) (B : Nat → Int → Int) : Prop := ∃ (L : List Int) (fs : List (Int → Int)), cKp B fs ∧ cLg B L ∧ J 38 6 = (fs.length : Int) ∧ J 38 9 = (L.length : Int) ∧ 2 * J 38 6 ≤ J 38 2 ∧ ∀ r : QR, PL n X Y V (J 38 2) L fs (J 38 7 = 1) r → PH n X Y V p0 r
def cPF (n : Int) (X Y : Int → Int) (V : Int → Int → Int) (p0 : Int) (J : Nat → Nat → Int) (B : Nat → Int → Int) : Prop := ∃ (L : List Int) (fs : List (Int → Int)), cKp B fs ∧ cLg B L ∧ J 38 6 = (fs.length : Int) ∧ J 38 9 = (L.length : Int) ∧ PH n X Y V p0 (.ok (J 38 2) L fs (J 38 7 = 1))
def cEG (n : Int) (X Y : Int → Int) (V : Int → Int → Int) (p0 : Int) (J : Nat → Nat → Int) (B : Nat → Int → Int) : Prop := ∃ fs : List (Int → Int), cKp B fs ∧ J 38 6 = (fs.length : Int) ∧ ∀ r : FQ, EQL n X Y V (J 38 2) fs (J 38 7 = 1) r → EQ n X Y V p0 r
def cEF (n : Int) (X Y : Int → Int) (V : Int → Int → Int) (p0 : Int) (J : Nat → Nat → Int) (B : Nat → Int → Int) : Prop := ∃ fs : List (Int → Int), cKp B fs ∧ J 38 6 = (fs.length : Int) ∧ EQ n X Y V p0 (.ok (J 38 2) fs (J 38 7 = 1))
def cPR (n : Int) (X Y : Int → Int) (V : Int → Int → Int) (p : Int) (g : Prop) (fs : List (Int → Int)) (J : Nat → Nat → Int) (B : Nat → Int → Int) : Prop := ∃ F1 F2 : Int → Int, PA n X Y V p g (.ok (J 38 2) F1 F2 (J 38 7 = 1)) ∧ cKp B (fs ++ [F1, F2])
/-- a statement that the class has read -/
def cSR (n : Int) (X Y : Int → Int) (V : Int → Int → Int) (p : Int) (J : Nat → Nat → Int) (B : Nat → Int → Int) : Prop :=
  (J 38 4 = 6 ∧ ST n X Y V p (.nop (J 38 2)) ∧ J 38 7 = 1) ∨ (J 38 4 = 12 ∧ ∃ F : Int → Int, ST n X Y V p (.shw (J 38 2) F (J 38 7 = 1)) ∧ vis (B 76) F) ∨
  ((J 38 4 = 10 ∨ J 38 4 = 11) ∧ ∃ (L : List Int) (fs : List (Int → Int)), ST n X Y V p (.path (J 38 2) (J 38 4) L fs (J 38 7 = 1)) ∧ cKp B fs ∧ cLg B L ∧ J 38 6 = (fs.length : Int) ∧ J 38 9 = (L.length : Int)) ∨
  (J 38 4 = 2 ∧ ∃ fs : List (Int → Int), ST n X Y V p (.eqs (J 38 2) fs (J 38 7 = 1)) ∧ cKp B fs ∧ J 38 6 = (fs.length : Int))

/-! a derivation depends on the row's tokens alone; an error is none of 0 -/
section CNG
variable {n : Int} {X Y X' Y' : Int → Int} {V : Int → Int → Int}
theorem cW (hx : ∀ k, 0 ≤ k → k < n → X k = X' k ∧ Y k = Y' k) {p w : Int} (h : 0 ≤ p) : xW n X Y p w ↔ xW n X' Y' p w := by
  constructor
  · rintro ⟨a, b, c⟩
    exact ⟨a, by rw [← (hx p h a).1]; exact b, by rw [← (hx p h a).2]; exact c⟩
  · rintro ⟨a, b, c⟩
    exact ⟨a, by rw [(hx p h a).1]; exact b, by rw [(hx p h a).2]; exact c⟩
theorem cKi (hx : ∀ k, 0 ≤ k → k < n → X k = X' k ∧ Y k = Y' k) {p w : Int} (h : 0 ≤ p) : (p < n ∧ X p = w) ↔ (p < n ∧ X' p = w) := by
  constructor
  · rintro ⟨a, b⟩
    exact ⟨a, by rw [← (hx p h a).1]; exact b⟩
  · rintro ⟨a, b⟩
    exact ⟨a, by rw [(hx p h a).1]; exact b⟩
theorem cOi (hx : ∀ k, 0 ≤ k → k < n → X k = X' k ∧ Y k = Y' k) {p : Int} (h : 0 ≤ p) : ((p < n ∧ X p = 1) ∨ xW n X Y p 3) ↔ ((p < n ∧ X' p = 1) ∨ xW n X' Y' p 3) := by rw [cKi hx h, cW hx h]
def ps : ES → Int
  | (.inl (p, _, _)) => p
  | (.inr (.inl (p, _, _, _))) => p
  | (.inr (.inr (.inl (p, _, _, _)))) => p
  | (.inr (.inr (.inr ((p, _, _, _))))) => p
theorem RE_c (hx : ∀ k, 0 ≤ k → k < n → X k = X' k ∧ Y k = Y' k) : ∀ (k9 : Nat) (st : ES) (r : ER), RE_k9 n X Y V k9 st r → 0 ≤ ps st → RE n X' Y' V st r ∧ (∀ q F g, r = .ok q F g → 0 ≤ q) ∧ (∀ c pl, r = .err c pl → c ≠ 0) := by
  intro k9
  induction k9 with
  | zero => exact fun _ _ h => h.elim
  | succ k9 ih =>
    intro st r h hp
    rcases h with ⟨p0, S0, g0, e09, h, k⟩ | ⟨p0, S0, g0, e09, h, h2, h3, hd, k⟩ | ⟨p0, S0, g0, e09, e19, h, h2, h3⟩ | ⟨p0, S0, g0, e09, e19, h, h2, h3, hd⟩ | ⟨p0, S0, g0, e09, h, h2, h3, k⟩ | ⟨p0, S0, g0, F0, e09, h, h2, h3, hF, k⟩ | ⟨p0, S0, g0, F0, e09, h, hF, k⟩ | ⟨p0, S0, g0, e09, h, hd, k⟩ | ⟨p0, S0, g0, e09, e19, h, hd⟩ | ⟨p0, S0, g0, e09, e19, h1, h2, h3, h4⟩ | ⟨p0, S0, g0, F0, F20, e09, hF, hb, k⟩ | ⟨p0, c0, S0, g0, g20, F0, F20, e09, hg, hF, k⟩ | ⟨p0, S0, g0, F0, F20, e09, hF, k⟩ | ⟨p0, S0, g0, F0, F20, U0, e09, hF, hb, k⟩ | ⟨p0, S0, g0, F0, F20, U0, e09, hF, hb, k⟩ | ⟨p0, S0, g0, F0, e09, h, k⟩ | ⟨p0, S0, g0, F0, e09, h, k⟩ | ⟨p0, S0, g0, F0, e09, h, k⟩ | ⟨p0, S0, g0, g20, F0, e09, h0, h1, hg, k⟩ | ⟨p0, S0, g0, F0, e09, h, k⟩ | ⟨p0, S0, g0, F0, e09, e19, h⟩ | ⟨p0, c0, S0, g0, F0, U0, e09, h, hU, k⟩ | ⟨p0, c0, S0, g0, F0, e09, e19, h⟩ | ⟨p0, c0, S0, g0, g20, F0, F20, U0, e09, h, hg, hF, k⟩ | ⟨p0, c0, S0, g0, F0, U0, e09, e19, h⟩ | ⟨p0, g0, F0, e09, e19⟩
    · cases e09 <;> (have hq : 0 ≤ p0 := hp; have i := ih _ _ k (show 0 ≤ p0 + 1 by omega); exact ⟨.minus ((cW hx (show 0 ≤ p0 by omega)).mp h) i.1, i.2⟩)
    · cases e09 <;> (have hq : 0 ≤ p0 := hp; have i := ih _ _ k (show 0 ≤ p0 + 2 + 1 by omega); rw [(hx p0 hq h.1).2] at i; exact ⟨.btw ((cKi hx hq).mp h) ((cW hx (show 0 ≤ p0 + 1 by omega)).mp h2) ((cW hx (show 0 ≤ p0 + 2 by omega)).mp h3) hd i.1, i.2⟩)
    · cases e09 <;> cases e19 <;> (have hq : 0 ≤ p0 := hp; exact ⟨.btwX ((cKi hx hq).mp h) ((cW hx (show 0 ≤ p0 + 1 by omega)).mp h2) (fun z => h3 ((cW hx (show 0 ≤ p0 + 2 by omega)).mpr z)), fun q F g e => (by cases e), fun c pl e => by cases e; decide⟩)
    · cases e09 <;> cases e19 <;> (have hq : 0 ≤ p0 := hp; exact ⟨.btwD ((cKi hx hq).mp h) ((cW hx (show 0 ≤ p0 + 1 by omega)).mp h2) ((cW hx (show 0 ≤ p0 + 2 by omega)).mp h3) hd, fun q F g e => (by cases e), fun c pl e => by cases e; decide⟩)
    · cases e09 <;> (have hq : 0 ≤ p0 := hp; have i := ih _ _ k (show 0 ≤ p0 + 1 by omega); rw [(hx p0 hq h.1).2] at i; exact ⟨.mulp ((cKi hx hq).mp h) (fun z => h2 ((cW hx (show 0 ≤ p0 + 1 by omega)).mpr z)) ((cOi hx (show 0 ≤ p0 + 1 by omega)).mp h3) i.1, i.2⟩)
    · cases e09 <;> (have hq : 0 ≤ p0 := hp; have i := ih _ _ k (show 0 ≤ p0 + 1 by omega); rw [(hx p0 hq h.1).2] at hF; exact ⟨.con ((cKi hx hq).mp h) (fun z => h2 ((cW hx (show 0 ≤ p0 + 1 by omega)).mpr z)) (fun z => h3 ((cOi hx (show 0 ≤ p0 + 1 by omega)).mpr z)) hF i.1, i.2⟩)
    · cases e09 <;> (have hq : 0 ≤ p0 := hp; have i := ih _ _ k (show 0 ≤ p0 + 1 by omega); rw [(hx p0 hq h.1).2] at hF; exact ⟨.var ((cKi hx hq).mp h) hF i.1, i.2⟩)
    · cases e09 <;> (have hq : 0 ≤ p0 := hp; have i := ih _ _ k (show 0 ≤ p0 + 1 by omega); exact ⟨.opn ((cW hx (show 0 ≤ p0 by omega)).mp h) hd i.1, i.2⟩)
    · cases e09 <;> cases e19 <;> (have hq : 0 ≤ p0 := hp; exact ⟨.opnD ((cW hx (show 0 ≤ p0 by omega)).mp h) hd, fun q F g e => (by cases e), fun c pl e => by cases e; decide⟩)
    · cases e09 <;> cases e19 <;> (have hq : 0 ≤ p0 := hp; exact ⟨.bad (fun z => h1 ((cW hx (show 0 ≤ p0 by omega)).mpr z)) (fun z => h2 ((cKi hx hq).mpr z)) (fun z => h3 ((cKi hx hq).mpr z)) (fun z => h4 ((cW hx (show 0 ≤ p0 by omega)).mpr z)), fun q F g e => (by cases e), fun c pl e => by cases e; decide⟩)
    · cases e09 <;> (have hq : 0 ≤ p0 := hp; have i := ih _ _ k (show 0 ≤ p0 by omega); exact ⟨.neg hF hb i.1, i.2⟩)
    · cases e09 <;> (have hq : 0 ≤ p0 := hp; have i := ih _ _ k (show 0 ≤ p0 by omega); exact ⟨.scale hg hF i.1, i.2⟩)
    · cases e09 <;> (have hq : 0 ≤ p0 := hp; have i := ih _ _ k (show 0 ≤ p0 by omega); exact ⟨.same hF i.1, i.2⟩)
    · cases e09 <;> (have hq : 0 ≤ p0 := hp; have i := ih _ _ k (show 0 ≤ p0 by omega); exact ⟨.plus hF hb i.1, i.2⟩)
    · cases e09 <;> (have hq : 0 ≤ p0 := hp; have i := ih _ _ k (show 0 ≤ p0 by omega); exact ⟨.mins hF hb i.1, i.2⟩)
    · cases e09 <;> (have hq : 0 ≤ p0 := hp; have i := ih _ _ k (show 0 ≤ p0 by omega); exact ⟨.bare h i.1, i.2⟩)
    · cases e09 <;> (have hq : 0 ≤ p0 := hp; have i := ih _ _ k (show 0 ≤ p0 + 1 by omega); exact ⟨.add ((cW hx (show 0 ≤ p0 by omega)).mp h) i.1, i.2⟩)
    · cases e09 <;> (have hq : 0 ≤ p0 := hp; have i := ih _ _ k (show 0 ≤ p0 + 1 by omega); exact ⟨.sub ((cW hx (show 0 ≤ p0 by omega)).mp h) i.1, i.2⟩)
    · cases e09 <;> (have hq : 0 ≤ p0 := hp; have i := ih _ _ k (show 0 ≤ p0 by omega); exact ⟨.chk (fun z => h0 ((cW hx (show 0 ≤ p0 by omega)).mpr z)) (fun z => h1 ((cW hx (show 0 ≤ p0 by omega)).mpr z)) hg i.1, i.2⟩)
    · cases e09 <;> (have hq : 0 ≤ p0 := hp; have i := ih _ _ k (show 0 ≤ p0 + 1 by omega); exact ⟨.cls ((cW hx (show 0 ≤ p0 by omega)).mp h) i.1, i.2⟩)
    · cases e09 <;> cases e19 <;> (have hq : 0 ≤ p0 := hp; exact ⟨.clsX (fun z => h ((cW hx (show 0 ≤ p0 by omega)).mpr z)), fun q F g e => (by cases e), fun c pl e => by cases e; decide⟩)
    · cases e09 <;> (have hq : 0 ≤ p0 := hp; have i := ih _ _ k (show 0 ≤ p0 + 1 by omega); exact ⟨.com ((cW hx (show 0 ≤ p0 by omega)).mp h) hU i.1, i.2⟩)
    · cases e09 <;> cases e19 <;> (have hq : 0 ≤ p0 := hp; exact ⟨.comX (fun z => h ((cW hx (show 0 ≤ p0 by omega)).mpr z)), fun q F g e => (by cases e), fun c pl e => by cases e; decide⟩)
    · cases e09 <;> (have hq : 0 ≤ p0 := hp; have i := ih _ _ k (show 0 ≤ p0 + 1 by omega); exact ⟨.bte ((cW hx (show 0 ≤ p0 by omega)).mp h) hg hF i.1, i.2⟩)
    · cases e09 <;> cases e19 <;> (have hq : 0 ≤ p0 := hp; exact ⟨.bteX (fun z => h ((cW hx (show 0 ≤ p0 by omega)).mpr z)), fun q F g e => (by cases e), fun c pl e => by cases e; decide⟩)
    · cases e09 <;> cases e19 <;> (have hq : 0 ≤ p0 := hp; exact ⟨.fin, fun q F g e => (by cases e; exact hq), fun c pl e => by cases e⟩)
theorem EX_c (hx : ∀ k, 0 ≤ k → k < n → X k = X' k ∧ Y k = Y' k) {p : Int} {g : Prop} {r : ER} (h : EX n X Y V p g r) (hp : 0 ≤ p) : EX n X' Y' V p g r ∧ (∀ q F g, r = .ok q F g → 0 ≤ q) ∧ (∀ c pl, r = .err c pl → c ≠ 0) := by
  obtain ⟨⟨k9, h1⟩, h2⟩ := h
  have i := RE_c hx k9 _ _ h1 hp
  exact ⟨⟨i.1, h2⟩, i.2⟩
def okP (r : PRs) : Prop := (∀ q F1 F2 g, r = .ok q F1 F2 g → 0 ≤ q) ∧ (∀ c pl, r = .err c pl → c ≠ 0)
theorem PA_c (hx : ∀ k, 0 ≤ k → k < n → X k = X' k ∧ Y k = Y' k) {p : Int} {g : Prop} {r : PRs} (h : PA n X Y V p g r) (hp : 0 ≤ p) : PA n X' Y' V p g r ∧ okP r := by
  rcases h with ⟨e09, h⟩ | ⟨c0, pl0, e09, h, k⟩ | ⟨q0, g10, F0, e09, h, k, h5⟩ | ⟨q0, c0, pl0, g10, F0, e09, h, k, h5, k2⟩ | ⟨q0, q20, g10, g20, F0, F20, e09, h, k, h5, k2, h4⟩ | ⟨q0, q20, g10, g20, F0, F20, e09, h, k, h5, k2, h4⟩
  · cases e09 <;> (exact ⟨.e0 (fun z => h ((cW hx hp).mpr z)), fun q F1 F2 g e => (by cases e), fun c pl e => by cases e; decide⟩)
  · cases e09 <;> (have i := EX_c hx k (by omega); exact ⟨.e1 ((cW hx hp).mp h) i.1, fun q F1 F2 g e => (by cases e), fun c pl e => by cases e; exact i.2.2 _ _ rfl⟩)
  · cases e09 <;> (have i := EX_c hx k (by omega); have q1 := i.2.1 _ _ _ rfl; exact ⟨.e2 ((cW hx hp).mp h) i.1 (fun z => h5 ((cW hx q1).mpr z)), fun q F1 F2 g e => (by cases e), fun c pl e => by cases e; decide⟩)
  · cases e09 <;> (have i := EX_c hx k (by omega); have q1 := i.2.1 _ _ _ rfl; have i2 := EX_c hx k2 (by omega); exact ⟨.e3 ((cW hx hp).mp h) i.1 ((cW hx q1).mp h5) i2.1, fun q F1 F2 g e => (by cases e), fun c pl e => by cases e; exact i2.2.2 _ _ rfl⟩)
  · cases e09 <;> (have i := EX_c hx k (by omega); have q1 := i.2.1 _ _ _ rfl; have i2 := EX_c hx k2 (by omega); have q2 := i2.2.1 _ _ _ rfl; exact ⟨.e4 ((cW hx hp).mp h) i.1 ((cW hx q1).mp h5) i2.1 (fun z => h4 ((cW hx q2).mpr z)), fun q F1 F2 g e => (by cases e), fun c pl e => by cases e; decide⟩)
  · cases e09 <;> (have i := EX_c hx k (by omega); have q1 := i.2.1 _ _ _ rfl; have i2 := EX_c hx k2 (by omega); have q2 := i2.2.1 _ _ _ rfl; exact ⟨.ok ((cW hx hp).mp h) i.1 ((cW hx q1).mp h5) i2.1 ((cW hx q2).mp h4), fun q F1 F2 g e => (by cases e; omega), fun c pl e => by cases e⟩)
def okQ (r : QR) : Prop := (∀ q L fs g, r = .ok q L fs g → 0 ≤ q) ∧ (∀ c pl, r = .err c pl → c ≠ 0)
theorem PL_c (hx : ∀ k, 0 ≤ k → k < n → X k = X' k ∧ Y k = Y' k) : ∀ (k9 : Nat) (p : Int) (L : List Int) (fs : List (Int → Int)) (g : Prop) (r : QR), PL_k9 n X Y V k9 p L fs g r → 0 ≤ p → PL n X' Y' V p L fs g r ∧ okQ r := by
  intro k9
  induction k9 with
  | zero => exact fun _ _ _ _ _ h => h.elim
  | succ k9 ih =>
    intro p L fs g r h hp
    rcases h with ⟨e09, h, h9⟩ | ⟨e09, h, h7⟩ | ⟨q0, g20, F10, F20, h, h9, k, kk⟩ | ⟨c0, pl0, e09, h, h9, k⟩ | ⟨q10, q20, q30, g10, g20, g30, F10, F20, F30, F40, F50, F60, h, k, h2, k2, h3, k3, kk⟩ | ⟨c0, pl0, e09, h, k⟩ | ⟨q10, g10, F10, F20, e09, h, k, h2⟩ | ⟨q10, c0, pl0, g10, F10, F20, e09, h, k, h2, k2⟩ | ⟨q10, q20, g10, g20, F10, F20, F30, F40, e09, h, k, h2, k2, h3⟩ | ⟨q10, q20, c0, pl0, g10, g20, F10, F20, F30, F40, e09, h, k, h2, k2, h3, k3⟩
    · cases e09 <;> (exact ⟨.fin ((cW hx hp).mp h) ((cW hx (by omega)).mp h9), fun q L fs g e => (by cases e; omega), fun c pl e => by cases e⟩)
    · cases e09 <;> (exact ⟨.bad (fun z => h ((cW hx hp).mpr z)) (fun z => h7 ((cW hx hp).mpr z)), fun q L fs g e => (by cases e), fun c pl e => by cases e; decide⟩)
    · (have i := PA_c hx k (by omega); have q1 := i.2.1 _ _ _ _ rfl; have j := ih _ _ _ _ _ kk q1; exact ⟨.line ((cW hx hp).mp h) (fun z => h9 ((cW hx (by omega)).mpr z)) i.1 j.1, j.2⟩)
    · cases e09 <;> (have i := PA_c hx k (by omega); exact ⟨.lineX ((cW hx hp).mp h) (fun z => h9 ((cW hx (by omega)).mpr z)) i.1, fun q L fs g e => (by cases e), fun c pl e => by cases e; exact i.2.2 _ _ rfl⟩)
    · (have i := PA_c hx k (by omega); have q1 := i.2.1 _ _ _ _ rfl; have i2 := PA_c hx k2 (by omega); have q2 := i2.2.1 _ _ _ _ rfl; have i3 := PA_c hx k3 (by omega); have q3 := i3.2.1 _ _ _ _ rfl; have j := ih _ _ _ _ _ kk q3; exact ⟨.cur ((cW hx hp).mp h) i.1 ((cW hx q1).mp h2) i2.1 ((cW hx q2).mp h3) i3.1 j.1, j.2⟩)
    · cases e09 <;> (have i := PA_c hx k (by omega); exact ⟨.cur1 ((cW hx hp).mp h) i.1, fun q L fs g e => (by cases e), fun c pl e => by cases e; exact i.2.2 _ _ rfl⟩)
    · cases e09 <;> (have i := PA_c hx k (by omega); have q1 := i.2.1 _ _ _ _ rfl; exact ⟨.cur2 ((cW hx hp).mp h) i.1 (fun z => h2 ((cW hx q1).mpr z)), fun q L fs g e => (by cases e), fun c pl e => by cases e; decide⟩)
    · cases e09 <;> (have i := PA_c hx k (by omega); have q1 := i.2.1 _ _ _ _ rfl; have i2 := PA_c hx k2 (by omega); exact ⟨.cur3 ((cW hx hp).mp h) i.1 ((cW hx q1).mp h2) i2.1, fun q L fs g e => (by cases e), fun c pl e => by cases e; exact i2.2.2 _ _ rfl⟩)
    · cases e09 <;> (have i := PA_c hx k (by omega); have q1 := i.2.1 _ _ _ _ rfl; have i2 := PA_c hx k2 (by omega); have q2 := i2.2.1 _ _ _ _ rfl; exact ⟨.cur4 ((cW hx hp).mp h) i.1 ((cW hx q1).mp h2) i2.1 (fun z => h3 ((cW hx q2).mpr z)), fun q L fs g e => (by cases e), fun c pl e => by cases e; decide⟩)
    · cases e09 <;> (have i := PA_c hx k (by omega); have q1 := i.2.1 _ _ _ _ rfl; have i2 := PA_c hx k2 (by omega); have q2 := i2.2.1 _ _ _ _ rfl; have i3 := PA_c hx k3 (by omega); exact ⟨.cur5 ((cW hx hp).mp h) i.1 ((cW hx q1).mp h2) i2.1 ((cW hx q2).mp h3) i3.1, fun q L fs g e => (by cases e), fun c pl e => by cases e; exact i3.2.2 _ _ rfl⟩)
theorem PH_c (hx : ∀ k, 0 ≤ k → k < n → X k = X' k ∧ Y k = Y' k) {p : Int} {r : QR} (h : PH n X Y V p r) (hp : 0 ≤ p) : PH n X' Y' V p r ∧ okQ r := by
  rcases h with ⟨c0, pl0, e09, k⟩ | ⟨q0, g0, F10, F20, k, kk⟩
  · cases e09 <;> (have i := PA_c hx k hp; exact ⟨.e0 i.1, fun q L fs g e => (by cases e), fun c pl e => by cases e; exact i.2.2 _ _ rfl⟩)
  · (have i := PA_c hx k hp; have q1 := i.2.1 _ _ _ _ rfl; obtain ⟨k9, kk⟩ := kk; have j := PL_c hx k9 _ _ _ _ _ kk q1; exact ⟨.go i.1 j.1, j.2⟩)
def okF (r : FQ) : Prop := (∀ q fs g, r = .ok q fs g → 0 ≤ q) ∧ (∀ c pl, r = .err c pl → c ≠ 0)
theorem EQL_c (hx : ∀ k, 0 ≤ k → k < n → X k = X' k ∧ Y k = Y' k) : ∀ (k9 : Nat) (p : Int) (fs : List (Int → Int)) (g : Prop) (r : FQ), EQL_k9 n X Y V k9 p fs g r → 0 ≤ p → EQL n X' Y' V p fs g r ∧ okF r := by
  intro k9
  induction k9 with
  | zero => exact fun _ _ _ _ h => h.elim
  | succ k9 ih =>
    intro p fs g r h hp
    rcases h with ⟨q0, g10, F0, h, k, kk⟩ | ⟨c0, pl0, e09, h, k⟩ | ⟨e09, h, h1⟩ | ⟨e09, h, h1⟩
    · (have i := EX_c hx k (by omega); have q1 := i.2.1 _ _ _ rfl; have j := ih _ _ _ _ kk q1; exact ⟨.more ((cW hx hp).mp h) i.1 j.1, j.2⟩)
    · cases e09 <;> (have i := EX_c hx k (by omega); exact ⟨.moreX ((cW hx hp).mp h) i.1, fun q fs g e => (by cases e), fun c pl e => by cases e; exact i.2.2 _ _ rfl⟩)
    · cases e09 <;> (exact ⟨.need (fun z => h ((cW hx hp).mpr z)) h1, fun q fs g e => (by cases e), fun c pl e => by cases e; decide⟩)
    · cases e09 <;> (exact ⟨.done (fun z => h ((cW hx hp).mpr z)) h1, fun q fs g e => (by cases e; exact hp), fun c pl e => by cases e⟩)
theorem EQ_c (hx : ∀ k, 0 ≤ k → k < n → X k = X' k ∧ Y k = Y' k) {p : Int} {r : FQ} (h : EQ n X Y V p r) (hp : 0 ≤ p) : EQ n X' Y' V p r ∧ okF r := by
  rcases h with ⟨c0, pl0, e09, k⟩ | ⟨q0, g0, F0, k, kk⟩
  · cases e09 <;> (have i := EX_c hx k hp; exact ⟨.e0 i.1, fun q fs g e => (by cases e), fun c pl e => by cases e; exact i.2.2 _ _ rfl⟩)
  · (have i := EX_c hx k hp; have q1 := i.2.1 _ _ _ rfl; obtain ⟨k9, kk⟩ := kk; have j := EQL_c hx k9 _ _ _ _ kk q1; exact ⟨.go i.1 j.1, j.2⟩)
/-- an error's code; where it goes on -/
def okS (r : SR) : Prop := (∀ c pl, r = .err c pl → c ≠ 0) ∧ (∀ q, r = .nop q → 0 ≤ q) ∧ (∀ q F g, r = .shw q F g → 0 ≤ q) ∧ (∀ q v L fs g, r = .path q v L fs g → 0 ≤ q) ∧ (∀ q fs g, r = .eqs q fs g → 0 ≤ q)
theorem okS_e {c pl : Int} (h : c ≠ 0) : okS (.err c pl) := ⟨fun c pl e => (by cases e; exact h), fun q e => (by cases e), fun q F g e => (by cases e), fun q v L fs g e => (by cases e), fun q fs g e => by cases e⟩
theorem ST_c (hx : ∀ k, 0 ≤ k → k < n → X k = X' k ∧ Y k = Y' k) {p : Int} {r : SR} (h : ST n X Y V p r) (hp : 0 ≤ p) : ST n X' Y' V p r ∧ okS r := by
  rcases h with ⟨e09, h⟩ | ⟨q0, F0, g0, e09, h, k, h6⟩ | ⟨c0, pl0, e09, h, k⟩ | ⟨q0, F0, g0, e09, h, k, h6⟩ | ⟨q0, v0, L0, fs0, g0, e09, hv, h, k, h6⟩ | ⟨v0, c0, pl0, e09, hv, h, k⟩ | ⟨q0, v0, L0, fs0, g0, e09, hv, h, k, h6⟩ | ⟨q0, fs0, g0, e09, h6, h12, h10, h11, k, he⟩ | ⟨c0, pl0, e09, h6, h12, h10, h11, k⟩ | ⟨q0, fs0, g0, e09, h6, h12, h10, h11, k, he⟩
  · cases e09 <;> (exact ⟨.nop ((cW hx hp).mp h), fun c pl e => (by cases e), fun q e => (by cases e; omega), fun q F g e => (by cases e), fun q v L fs g e => (by cases e), fun q fs g e => by cases e⟩)
  · cases e09 <;> (have i := EX_c hx k (by omega); have q1 := i.2.1 _ _ _ rfl; exact ⟨.shw ((cW hx hp).mp h) i.1 ((cW hx q1).mp h6), fun c pl e => (by cases e), fun q e => (by cases e), fun q F g e => (by cases e; omega), fun q v L fs g e => (by cases e), fun q fs g e => by cases e⟩)
  · cases e09 <;> (have i := EX_c hx k (by omega); exact ⟨.shwX ((cW hx hp).mp h) i.1, okS_e (i.2.2 _ _ rfl)⟩)
  · cases e09 <;> (have i := EX_c hx k (by omega); have q1 := i.2.1 _ _ _ rfl; exact ⟨.shwE ((cW hx hp).mp h) i.1 (fun z => h6 ((cW hx q1).mpr z)), okS_e (by decide)⟩)
  · cases e09 <;> (have i := PH_c hx k (by omega); have q1 := i.2.1 _ _ _ _ rfl; exact ⟨.path hv ((cW hx hp).mp h) i.1 ((cW hx q1).mp h6), fun c pl e => (by cases e), fun q e => (by cases e), fun q F g e => (by cases e), fun q v L fs g e => (by cases e; omega), fun q fs g e => by cases e⟩)
  · cases e09 <;> (have i := PH_c hx k (by omega); exact ⟨.pathX hv ((cW hx hp).mp h) i.1, okS_e (i.2.2 _ _ rfl)⟩)
  · cases e09 <;> (have i := PH_c hx k (by omega); have q1 := i.2.1 _ _ _ _ rfl; exact ⟨.pathE hv ((cW hx hp).mp h) i.1 (fun z => h6 ((cW hx q1).mpr z)), okS_e (by decide)⟩)
  · cases e09 <;> (have i := EQ_c hx k hp; have q1 := i.2.1 _ _ _ rfl; exact ⟨.eqs (fun z => h6 ((cW hx hp).mpr z)) (fun z => h12 ((cW hx hp).mpr z)) (fun z => h10 ((cW hx hp).mpr z)) (fun z => h11 ((cW hx hp).mpr z)) i.1 ((cW hx q1).mp he), fun c pl e => (by cases e), fun q e => (by cases e), fun q F g e => (by cases e), fun q v L fs g e => (by cases e), fun q fs g e => by cases e; omega⟩)
  · cases e09 <;> (have i := EQ_c hx k hp; exact ⟨.eqsX (fun z => h6 ((cW hx hp).mpr z)) (fun z => h12 ((cW hx hp).mpr z)) (fun z => h10 ((cW hx hp).mpr z)) (fun z => h11 ((cW hx hp).mpr z)) i.1, okS_e (i.2.2 _ _ rfl)⟩)
  · cases e09 <;> (have i := EQ_c hx k hp; have q1 := i.2.1 _ _ _ rfl; exact ⟨.eqsE (fun z => h6 ((cW hx hp).mpr z)) (fun z => h12 ((cW hx hp).mpr z)) (fun z => h10 ((cW hx hp).mpr z)) (fun z => h11 ((cW hx hp).mpr z)) i.1 (fun z => he ((cW hx q1).mpr z)), okS_e (by decide)⟩)
theorem ST_ne {p ce pl : Int} (h : ST n X Y V p (.err ce pl)) (hp : 0 ≤ p) : ce ≠ 0 := (ST_c (X' := X) (Y' := Y) (fun _ _ _ => ⟨rfl, rfl⟩) h hp).2.1 _ _ rfl
theorem CO_p {r : SR} {q c e c2 : Int} {s nt s2 nt2 : Int → Int} {V2 : Int → Int → Int} (h : CO r q s V c nt e s2 V2 c2 nt2) (hs : okS r) : 0 ≤ q := by
  rcases h with ⟨a, _⟩ | ⟨F2, g2, a, _⟩ | ⟨v2, L2, fs2, g2, a, _⟩ | ⟨fs2, g2, a, _⟩
  · exact hs.2.1 _ a
  · exact hs.2.2.1 _ _ _ a
  · exact hs.2.2.2.1 _ _ _ _ _ a
  · exact hs.2.2.2.2 _ _ _ a
theorem CO_c {r : SR} {q c e c2 : Int} {s nt s2 nt2 : Int → Int} {V2 : Int → Int → Int} (h : CO r q s V c nt e s2 V2 c2 nt2) : c2 = c ∨ c2 = c + 1 := by
  rcases h with ⟨_, _, _, a, _⟩ | ⟨F2, g2, _, _, ⟨_, _, a, _⟩ | ⟨_, _, _, a, _⟩ | ⟨_, _, _, a, _⟩⟩ | ⟨v2, L2, fs2, g2, _, _, a, _⟩ | ⟨fs2, g2, _, a, _⟩
  · exact Or.inl a
  · exact Or.inl a
  · exact Or.inl a
  · exact Or.inr a
  · exact Or.inl a
  · exact Or.inl a
theorem RN_ck (hx : ∀ k, 0 ≤ k → k < n → X k = X' k ∧ Y k = Y' k) : ∀ (k9 : Nat) (p : Int) (s : Int → Int) (V : Int → Int → Int) (c : Int) (nt : Int → Int) (d : Int) (z : RR), RN_k9 n X Y k9 p s V c nt d z → 0 ≤ p → RN n X' Y' p s V c nt d z := by
  intro k9
  induction k9 with
  | zero => exact fun _ _ _ _ _ _ _ h => h.elim
  | succ k9 ih =>
    intro p s V c nt d z h hp
    rcases h with ⟨e09, h⟩ | ⟨ce0, pl0, e09, h, k⟩ | ⟨q0, e0, c20, s20, nt20, V20, r0, e09, h, k, hc, he⟩ | ⟨q0, c20, s20, nt20, V20, r0, h, k, hc, kk⟩
    · cases e09 <;> (exact .done h)
    · cases e09 <;> (exact .syn h (ST_c hx k hp).1)
    · cases e09 <;> (exact .bad h (ST_c hx k hp).1 hc he)
    · (have i := ST_c hx k hp; exact .ok h i.1 hc (ih _ _ _ _ _ _ _ kk (CO_p hc i.2)))
end CNG
theorem RN_c {n : Int} {X Y X' Y' : Int → Int} {V : Int → Int → Int} {s nt : Int → Int} {c d : Int} {z : RR} (hx : ∀ k, 0 ≤ k → k < n → X k = X' k ∧ Y k = Y' k) (h : RN n X Y 0 s V c nt d z) : RN n X' Y' 0 s V c nt d z := by
  obtain ⟨k9, h⟩ := h
  exact RN_ck hx k9 _ _ _ _ _ _ _ h (Int.le_refl 0)

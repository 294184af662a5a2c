/-! what a derivation of a pair, a path, an equation says -/
section XTS
variable {n : Int} {X Y : Int → Int} {V : Int → Int → Int} {p q c pl : Int} {g g2 : Prop} {F F1 F2 : Int → Int} {fs : List (Int → Int)} {L : List Int}
theorem EX_e (h : EX n X Y V p g (.err c pl)) : RE n X Y V (.op p [] g) (.err c pl) := h.1
theorem PA_inr {r : PRs} (h : PA n X Y V p g r) : ∀ q F1 F2 g2, r = .ok q F1 F2 g2 → (g2 → g) ∧ (g2 → inr F1 ∧ inr F2) := by
  intro q0 G1 G2 g0 hr
  have hh9 := PA.inv h
  clear h
  rcases hh9 with ⟨e09, _⟩ | ⟨_, _, e09, _, _⟩ | ⟨_, _, _, e09, _, _, _⟩ | ⟨_, _, _, _, _, e09, _, _, _, _⟩ | ⟨_, _, _, _, _, _, e09, _, _, _, _, _⟩ | ⟨_, _, _, _, _, _, e09, h3, k, h5, k2, h4⟩
  · cases e09 <;> (cases hr)
  · cases e09 <;> (cases hr)
  · cases e09 <;> (cases hr)
  · cases e09 <;> (cases hr)
  · cases e09 <;> (cases hr)
  · cases e09 <;>
    (
      cases hr
      have a := k.2 _ _ _ rfl
      have b := k2.2 _ _ _ rfl
      exact ⟨fun z => a.1 (b.1 z), fun z => ⟨a.2 (b.1 z), b.2 z⟩⟩)
def aIn (fs : List (Int → Int)) : Prop := ∀ F, F ∈ fs → inr F
/-- how many forms the legs take -/
def nLg : List Int → Nat
  | [] => 0
  | x :: L => (if x = 0 then 2 else 6) + nLg L
theorem nLg_a (L : List Int) (x : Int) : nLg (L ++ [x]) = nLg L + (if x = 0 then 2 else 6) := by
  induction L with
  | nil => simp [nLg]
  | cons y L ih =>
    show (if y = 0 then 2 else 6) + nLg (L ++ [x]) = (if y = 0 then 2 else 6) + nLg L + (if x = 0 then 2 else 6)
    rw [ih]
    omega
theorem nLg_le (L : List Int) : nLg L ≤ 6 * L.length := by
  induction L with
  | nil => simp [nLg]
  | cons y L ih =>
    show (if y = 0 then 2 else 6) + nLg L ≤ 6 * (L.length + 1)
    split <;> omega
def aLg (L : List Int) : Prop := ∀ x, x ∈ L → x = 0 ∨ x = 1
theorem PL_say {r : QR} (h : PL n X Y V p L fs g r) : ∀ q L2 fs2 g2, r = .ok q L2 fs2 g2 → fs.length = 2 + nLg L → aLg L → (g → aIn fs) → (g2 → g) ∧ (g2 → aIn fs2) ∧ fs2.length = 2 + nLg L2 ∧ aLg L2 := by
  obtain ⟨k9, h⟩ := h
  induction k9 generalizing p L fs g with
  | zero => exact h.elim
  | succ k9 ih =>
    intro q0 L0 fs0 g0 hr hl ha hg
    rcases h with ⟨e09, h8, h9⟩ | ⟨e09, _, _⟩ | ⟨_, _, _, _, h8, h9, k, kk⟩ | ⟨_, _, e09, _, _, _⟩ | ⟨_, _, _, _, _, _, _, _, _, _, _, _, h7, k, h2, k2, h3, k3, kk⟩ | ⟨_, _, e09, _, _⟩ | ⟨_, _, _, _, e09, _, _, _⟩ | ⟨_, _, _, _, _, _, e09, _, _, _, _⟩ | ⟨_, _, _, _, _, _, _, _, e09, _, _, _, _, _⟩ | ⟨_, _, _, _, _, _, _, _, _, _, e09, _, _, _, _, _, _⟩
    · cases e09 <;> (cases hr; exact ⟨id, hg, hl, ha⟩)
    · cases e09 <;> (cases hr)
    · have a := PA_inr k _ _ _ _ rfl
      have b := ih kk _ _ _ _ hr (by rw [nLg_a, List.length_append, hl]; simp; omega) (by
        intro x hx
        rcases List.mem_append.mp hx with z | z
        · exact ha x z
        · exact Or.inl (List.mem_singleton.mp z)) (fun z F hF => by
        rcases List.mem_append.mp hF with y | y
        · exact hg (a.1 z) F y
        · rcases List.mem_cons.mp y with e | y
          · rw [e]; exact (a.2 z).1
          · rw [List.mem_singleton.mp y]; exact (a.2 z).2)
      exact ⟨fun z => a.1 (b.1 z), b.2⟩
    · cases e09 <;> (cases hr)
    · have a := PA_inr k _ _ _ _ rfl
      have a2 := PA_inr k2 _ _ _ _ rfl
      have a3 := PA_inr k3 _ _ _ _ rfl
      have b := ih kk _ _ _ _ hr (by rw [nLg_a]; simp only [List.length_append, hl]; simp; omega) (by
        intro x hx
        rcases List.mem_append.mp hx with z | z
        · exact ha x z
        · exact Or.inr (List.mem_singleton.mp z)) (fun z F hF => by
        have z2 := a3.1 z
        have z1 := a2.1 z2
        rcases List.mem_append.mp hF with y | y
        · rcases List.mem_append.mp y with y | y
          · rcases List.mem_append.mp y with y | y
            · exact hg (a.1 z1) F y
            · rcases List.mem_cons.mp y with e | y
              · rw [e]; exact (a.2 z1).1
              · rw [List.mem_singleton.mp y]; exact (a.2 z1).2
          · rcases List.mem_cons.mp y with e | y
            · rw [e]; exact (a2.2 z2).1
            · rw [List.mem_singleton.mp y]; exact (a2.2 z2).2
        · rcases List.mem_cons.mp y with e | y
          · rw [e]; exact (a3.2 z).1
          · rw [List.mem_singleton.mp y]; exact (a3.2 z).2)
      exact ⟨fun z => a.1 (a2.1 (a3.1 (b.1 z))), b.2⟩
    · cases e09 <;> (cases hr)
    · cases e09 <;> (cases hr)
    · cases e09 <;> (cases hr)
    · cases e09 <;> (cases hr)
    · cases e09 <;> (cases hr)
theorem PH_say (h : PH n X Y V p (.ok q L fs g)) : (g → aIn fs) ∧ fs.length = 2 + nLg L ∧ aLg L := by
  have hh9 := PH.inv h
  clear h
  rcases hh9 with ⟨_, _, e09, _⟩ | ⟨_, _, _, _, k, kk⟩
  · cases e09 <;> (skip)
  · have a := PA_inr k _ _ _ _ rfl
    have b := PL_say kk _ _ _ _ rfl rfl (fun x hx => by cases hx) (fun z F hF => by
      rcases List.mem_cons.mp hF with e | y
      · rw [e]; exact (a.2 z).1
      · rw [List.mem_singleton.mp y]; exact (a.2 z).2)
    exact ⟨b.2.1, b.2.2⟩
theorem EQL_say {r : FQ} (h : EQL n X Y V p fs g r) : ∀ q fs2 g2, r = .ok q fs2 g2 → 1 ≤ fs.length → (g → aIn fs) → (g2 → g) ∧ (g2 → aIn fs2) ∧ 2 ≤ fs2.length := by
  obtain ⟨k9, h⟩ := h
  induction k9 generalizing p fs g with
  | zero => exact h.elim
  | succ k9 ih =>
    intro q0 fs0 g0 hr hl hg
    rcases h with ⟨_, _, _, h2, k, kk⟩ | ⟨_, _, e09, _, _⟩ | ⟨e09, _, _⟩ | ⟨e09, h2, h1⟩
    · have a := k.2 _ _ _ rfl
      have b := ih kk _ _ _ hr (by simp) (fun z F hF => by
        rcases List.mem_append.mp hF with y | y
        · exact hg (a.1 z) F y
        · rw [List.mem_singleton.mp y]; exact a.2 z)
      exact ⟨fun z => a.1 (b.1 z), b.2⟩
    · cases e09 <;> (cases hr)
    · cases e09 <;> (cases hr)
    · cases e09 <;> (cases hr; exact ⟨id, hg, by omega⟩)
theorem EQ_say (h : EQ n X Y V p (.ok q fs g)) : (g → aIn fs) ∧ 2 ≤ fs.length := by
  have hh9 := EQ.inv h
  clear h
  rcases hh9 with ⟨_, _, e09, _⟩ | ⟨_, _, _, k, kk⟩
  · cases e09 <;> (skip)
  · have a := k.2 _ _ _ rfl
    have b := EQL_say kk _ _ _ rfl (by simp) (fun z F hF => by rw [List.mem_singleton.mp hF]; exact a.2 z)
    exact b.2
end XTS

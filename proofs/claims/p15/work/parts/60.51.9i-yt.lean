/-! derivations of pairs, paths, equations, statements: what the next step is -/
section INV2
variable {n : Int} {X Y : Int → Int} {V : Int → Int → Int} {p c pl q : Int} {g : Prop} {fs : List (Int → Int)} {L : List Int}
theorem EQL_more {r : FQ} (h : EQL n X Y V p fs g r) (w : xW n X Y p 2) : ∃ r1 : ER, EX n X Y V (p + 1) g r1 ∧ (∀ q F g1, r1 = .ok q F g1 → EQL n X Y V q (fs ++ [F]) g1 r) ∧ (∀ c pl, r1 = .err c pl → r = .err c pl) := by
  have hh9 := EQL.inv h
  clear h
  rcases hh9 with ⟨_, _, _, h2, k, kk⟩ | ⟨_, _, e09, h2, k⟩ | ⟨e09, h2, _⟩ | ⟨e09, h2, _⟩
  · (exact ⟨_, k, fun q F g1 e => by cases e; exact kk, fun c pl e => by cases e⟩)
  · cases e09 <;> (exact ⟨_, k, fun q F g1 e => (by cases e), fun c pl e => by cases e; rfl⟩)
  · cases e09 <;> (exact absurd w h2)
  · cases e09 <;> (exact absurd w h2)
theorem EQL_stop {r : FQ} (h : EQL n X Y V p fs g r) (w : ¬ xW n X Y p 2) : (fs.length = 1 → r = .err (-8) p) ∧ (fs.length ≠ 1 → r = .ok p fs g) := by
  have hh9 := EQL.inv h
  clear h
  rcases hh9 with ⟨_, _, _, h2, _, _⟩ | ⟨_, _, e09, h2, _⟩ | ⟨e09, _, h1⟩ | ⟨e09, _, h1⟩
  · (exact absurd h2 w)
  · cases e09 <;> (exact absurd h2 w)
  · cases e09 <;> (exact ⟨fun _ => rfl, fun z => absurd h1 z⟩)
  · cases e09 <;> (exact ⟨fun z => absurd z h1, fun _ => rfl⟩)
theorem EQ_first {r : FQ} (h : EQ n X Y V p r) : ∃ r1 : ER, EX n X Y V p True r1 ∧ (∀ q F g1, r1 = .ok q F g1 → EQL n X Y V q [F] g1 r) ∧ (∀ c pl, r1 = .err c pl → r = .err c pl) := by
  have hh9 := EQ.inv h
  clear h
  rcases hh9 with ⟨_, _, e09, k⟩ | ⟨_, _, _, k, kk⟩
  · cases e09 <;> (exact ⟨_, k, fun q F g1 e => (by cases e), fun c pl e => by cases e; rfl⟩)
  · (exact ⟨_, k, fun q F g1 e => by cases e; exact kk, fun c pl e => by cases e⟩)
/-- a pair's second half: behind its first expression, which ended at q -/
def PA2 (n : Int) (X Y : Int → Int) (V : Int → Int → Int) (F : Int → Int) (q : Int) (g : Prop) (r : PRs) : Prop :=
  (¬ xW n X Y q 5 → r = .err (-8) q) ∧ (xW n X Y q 5 → ∃ r2 : ER, EX n X Y V (q + 1) g r2 ∧ (∀ c pl, r2 = .err c pl → r = .err c pl) ∧ ∀ q2 F2 g2, r2 = .ok q2 F2 g2 → (¬ xW n X Y q2 4 → r = .err (-8) q2) ∧ (xW n X Y q2 4 → r = .ok (q2 + 1) F F2 g2))
theorem PA_first {r : PRs} (h : PA n X Y V p g r) : (¬ xW n X Y p 3 → r = .err (-8) p) ∧ (xW n X Y p 3 → ∃ r1 : ER, EX n X Y V (p + 1) g r1 ∧ (∀ c pl, r1 = .err c pl → r = .err c pl) ∧ ∀ q F g1, r1 = .ok q F g1 → PA2 n X Y V F q g1 r) := by
  have hh9 := PA.inv h
  clear h
  rcases hh9 with ⟨e09, h3⟩ | ⟨_, _, e09, h3, k⟩ | ⟨_, _, _, e09, h3, k, h5⟩ | ⟨_, _, _, _, _, e09, h3, k, h5, k2⟩ | ⟨_, _, _, _, _, _, e09, h3, k, h5, k2, h4⟩ | ⟨_, _, _, _, _, _, e09, h3, k, h5, k2, h4⟩
  · cases e09 <;> (exact ⟨fun _ => rfl, fun z => absurd z h3⟩)
  · cases e09 <;> (exact ⟨fun z => absurd h3 z, fun _ => ⟨_, k, fun c pl e => by cases e; rfl, fun q F g1 e => by cases e⟩⟩)
  · cases e09 <;> (exact ⟨fun z => absurd h3 z, fun _ => ⟨_, k, fun c pl e => (by cases e), fun q F g1 e => by cases e; exact ⟨fun _ => rfl, fun z => absurd z h5⟩⟩⟩)
  · cases e09 <;> (exact ⟨fun z => absurd h3 z, fun _ => ⟨_, k, fun c pl e => (by cases e), fun q F g1 e => by cases e; exact ⟨fun z => absurd h5 z, fun _ => ⟨_, k2, fun c pl e => by cases e; rfl, fun q2 F2 g2 e => by cases e⟩⟩⟩⟩)
  · cases e09 <;> (exact ⟨fun z => absurd h3 z, fun _ => ⟨_, k, fun c pl e => (by cases e), fun q F g1 e => by cases e; exact ⟨fun z => absurd h5 z, fun _ => ⟨_, k2, fun c pl e => (by cases e), fun q2 F2 g2 e => by cases e; exact ⟨fun _ => rfl, fun z => absurd z h4⟩⟩⟩⟩⟩)
  · cases e09 <;> (exact ⟨fun z => absurd h3 z, fun _ => ⟨_, k, fun c pl e => (by cases e), fun q F g1 e => by cases e; exact ⟨fun z => absurd h5 z, fun _ => ⟨_, k2, fun c pl e => (by cases e), fun q2 F2 g2 e => by cases e; exact ⟨fun z => absurd h4 z, fun _ => rfl⟩⟩⟩⟩⟩)
/-- a leg in reading: so many pairs are to come, each behind the word 7 (b = 1) or 8 -/
def PC (n : Int) (X Y : Int → Int) (V : Int → Int → Int) (b : Int) : Nat → Int → List Int → List (Int → Int) → Prop → QR → Prop
  | 0 => fun p L fs g r => PL n X Y V p (L ++ [b]) fs g r
  | k + 1 => fun p L fs g r => (¬ xW n X Y p (if b = 1 then 7 else 8) → r = .err (-8) p) ∧ (xW n X Y p (if b = 1 then 7 else 8) → ∃ rp : PRs, PA n X Y V (p + 1) g rp ∧ (∀ c pl, rp = .err c pl → r = .err c pl) ∧ ∀ q F1 F2 g2, rp = .ok q F1 F2 g2 → PC n X Y V b k q L (fs ++ [F1, F2]) g2 r)
theorem PL_fin {r : QR} (h : PL n X Y V p L fs g r) (w8 : xW n X Y p 8) (w9 : xW n X Y (p + 1) 9) : r = .ok (p + 2) L fs g := by
  have hh9 := PL.inv h
  clear h
  rcases hh9 with ⟨e09, _, _⟩ | ⟨e09, h8, _⟩ | ⟨_, _, _, _, _, h9, _, _⟩ | ⟨_, _, e09, _, h9, _⟩ | ⟨_, _, _, _, _, _, _, _, _, _, _, _, h7, _, _, _, _, _, _⟩ | ⟨_, _, e09, h7, _⟩ | ⟨_, _, _, _, e09, h7, _, _⟩ | ⟨_, _, _, _, _, _, e09, h7, _, _, _⟩ | ⟨_, _, _, _, _, _, _, _, e09, h7, _, _, _, _⟩ | ⟨_, _, _, _, _, _, _, _, _, _, e09, h7, _, _, _, _, _⟩
  · cases e09 <;> (rfl)
  · cases e09 <;> (exact absurd w8 h8)
  · (exact absurd w9 h9)
  · cases e09 <;> (exact absurd w9 h9)
  · (exact absurd h7 (xW_ne w8 (by decide)))
  · cases e09 <;> (exact absurd h7 (xW_ne w8 (by decide)))
  · cases e09 <;> (exact absurd h7 (xW_ne w8 (by decide)))
  · cases e09 <;> (exact absurd h7 (xW_ne w8 (by decide)))
  · cases e09 <;> (exact absurd h7 (xW_ne w8 (by decide)))
  · cases e09 <;> (exact absurd h7 (xW_ne w8 (by decide)))
theorem PL_bad {r : QR} (h : PL n X Y V p L fs g r) (w8 : ¬ xW n X Y p 8) (w7 : ¬ xW n X Y p 7) : r = .err (-8) p := by
  have hh9 := PL.inv h
  clear h
  rcases hh9 with ⟨e09, h8, _⟩ | ⟨e09, _, _⟩ | ⟨_, _, _, _, h8, _, _, _⟩ | ⟨_, _, e09, h8, _, _⟩ | ⟨_, _, _, _, _, _, _, _, _, _, _, _, h7, _, _, _, _, _, _⟩ | ⟨_, _, e09, h7, _⟩ | ⟨_, _, _, _, e09, h7, _, _⟩ | ⟨_, _, _, _, _, _, e09, h7, _, _, _⟩ | ⟨_, _, _, _, _, _, _, _, e09, h7, _, _, _, _⟩ | ⟨_, _, _, _, _, _, _, _, _, _, e09, h7, _, _, _, _, _⟩
  · cases e09 <;> (exact absurd h8 w8)
  · cases e09 <;> (rfl)
  · (exact absurd h8 w8)
  · cases e09 <;> (exact absurd h8 w8)
  · (exact absurd h7 w7)
  · cases e09 <;> (exact absurd h7 w7)
  · cases e09 <;> (exact absurd h7 w7)
  · cases e09 <;> (exact absurd h7 w7)
  · cases e09 <;> (exact absurd h7 w7)
  · cases e09 <;> (exact absurd h7 w7)
theorem PL_line {r : QR} (h : PL n X Y V p L fs g r) (w8 : xW n X Y p 8) (w9 : ¬ xW n X Y (p + 1) 9) : PC n X Y V 0 1 p L fs g r := by
  refine ⟨fun z => absurd w8 z, fun _ => ?_⟩
  have hh9 := PL.inv h
  clear h
  rcases hh9 with ⟨e09, _, h9⟩ | ⟨e09, h8, _⟩ | ⟨_, _, _, _, _, _, k, kk⟩ | ⟨_, _, e09, _, _, k⟩ | ⟨_, _, _, _, _, _, _, _, _, _, _, _, h7, _, _, _, _, _, _⟩ | ⟨_, _, e09, h7, _⟩ | ⟨_, _, _, _, e09, h7, _, _⟩ | ⟨_, _, _, _, _, _, e09, h7, _, _, _⟩ | ⟨_, _, _, _, _, _, _, _, e09, h7, _, _, _, _⟩ | ⟨_, _, _, _, _, _, _, _, _, _, e09, h7, _, _, _, _, _⟩
  · cases e09 <;> (exact absurd h9 w9)
  · cases e09 <;> (exact absurd w8 h8)
  · (exact ⟨_, k, fun c pl e => (by cases e), fun q F1 F2 g2 e => by cases e; exact kk⟩)
  · cases e09 <;> (exact ⟨_, k, fun c pl e => by cases e; rfl, fun q F1 F2 g2 e => by cases e⟩)
  · (exact absurd h7 (xW_ne w8 (by decide)))
  · cases e09 <;> (exact absurd h7 (xW_ne w8 (by decide)))
  · cases e09 <;> (exact absurd h7 (xW_ne w8 (by decide)))
  · cases e09 <;> (exact absurd h7 (xW_ne w8 (by decide)))
  · cases e09 <;> (exact absurd h7 (xW_ne w8 (by decide)))
  · cases e09 <;> (exact absurd h7 (xW_ne w8 (by decide)))
theorem PL_cur {r : QR} (h : PL n X Y V p L fs g r) (w7 : xW n X Y p 7) : PC n X Y V 1 3 p L fs g r := by
  refine ⟨fun z => absurd w7 z, fun _ => ?_⟩
  have hh9 := PL.inv h
  clear h
  rcases hh9 with ⟨e09, h8, _⟩ | ⟨e09, _, h7⟩ | ⟨_, _, _, _, h8, _, _, _⟩ | ⟨_, _, e09, h8, _, _⟩ | ⟨_, _, _, _, _, _, _, _, _, _, _, _, _, k, h2, k2, h3, k3, kk⟩ | ⟨_, _, e09, _, k⟩ | ⟨_, _, _, _, e09, _, k, h2⟩ | ⟨_, _, _, _, _, _, e09, _, k, h2, k2⟩ | ⟨_, _, _, _, _, _, _, _, e09, _, k, h2, k2, h3⟩ | ⟨_, _, _, _, _, _, _, _, _, _, e09, _, k, h2, k2, h3, k3⟩
  · cases e09 <;> (exact absurd h8 (xW_ne w7 (by decide)))
  · cases e09 <;> (exact absurd w7 h7)
  · (exact absurd h8 (xW_ne w7 (by decide)))
  · cases e09 <;> (exact absurd h8 (xW_ne w7 (by decide)))
  · (exact ⟨_, k, fun c pl e => (by cases e), fun q F1 F2 g2 e => by cases e; exact ⟨fun z => absurd h2 z, fun _ => ⟨_, k2, fun c pl e => (by cases e), fun q F1 F2 g2 e => by cases e; exact ⟨fun z => absurd h3 z, fun _ => ⟨_, k3, fun c pl e => (by cases e), fun q F1 F2 g2 e => by cases e; exact kk⟩⟩⟩⟩⟩)
  · cases e09 <;> (exact ⟨_, k, fun c pl e => by cases e; rfl, fun q F1 F2 g2 e => by cases e⟩)
  · cases e09 <;> (exact ⟨_, k, fun c pl e => (by cases e), fun q F1 F2 g2 e => by cases e; exact ⟨fun _ => rfl, fun z => absurd z h2⟩⟩)
  · cases e09 <;> (exact ⟨_, k, fun c pl e => (by cases e), fun q F1 F2 g2 e => by cases e; exact ⟨fun z => absurd h2 z, fun _ => ⟨_, k2, fun c pl e => by cases e; rfl, fun q F1 F2 g2 e => by cases e⟩⟩⟩)
  · cases e09 <;> (exact ⟨_, k, fun c pl e => (by cases e), fun q F1 F2 g2 e => by cases e; exact ⟨fun z => absurd h2 z, fun _ => ⟨_, k2, fun c pl e => (by cases e), fun q F1 F2 g2 e => by cases e; exact ⟨fun _ => rfl, fun z => absurd z h3⟩⟩⟩⟩)
  · cases e09 <;> (exact ⟨_, k, fun c pl e => (by cases e), fun q F1 F2 g2 e => by cases e; exact ⟨fun z => absurd h2 z, fun _ => ⟨_, k2, fun c pl e => (by cases e), fun q F1 F2 g2 e => by cases e; exact ⟨fun z => absurd h3 z, fun _ => ⟨_, k3, fun c pl e => by cases e; rfl, fun q F1 F2 g2 e => by cases e⟩⟩⟩⟩⟩)
theorem PH_first {r : QR} (h : PH n X Y V p r) : ∃ rp : PRs, PA n X Y V p True rp ∧ (∀ c pl, rp = .err c pl → r = .err c pl) ∧ ∀ q F1 F2 g2, rp = .ok q F1 F2 g2 → PL n X Y V q [] [F1, F2] g2 r := by
  have hh9 := PH.inv h
  clear h
  rcases hh9 with ⟨_, _, e09, k⟩ | ⟨_, _, _, _, k, kk⟩
  · cases e09 <;> (exact ⟨_, k, fun c pl e => by cases e; rfl, fun q F1 F2 g2 e => by cases e⟩)
  · (exact ⟨_, k, fun c pl e => (by cases e), fun q F1 F2 g2 e => by cases e; exact kk⟩)
end INV2
/-! the reference's rows of forms -/
def gRo (A : Nat → Int → Int) (fs : List (Int → Int)) : Prop := ∀ (i : Nat) (F : Int → Int), fs[i]? = some F → ∀ j, 0 ≤ j → j < 13 → A 35 ((i : Int) * 13 + j) = F j
theorem gRo_add {A B : Nat → Int → Int} {fs : List (Int → Int)} {F : Int → Int} (h : gRo A fs) (hB : ∀ z, z < (fs.length : Int) * 13 → B 35 z = A 35 z) (hF : ∀ j, 0 ≤ j → j < 13 → B 35 ((fs.length : Int) * 13 + j) = F j) : gRo B (fs ++ [F]) := by
  intro i G hG j j0 j1
  by_cases c : i < fs.length
  · rw [List.getElem?_append_left c] at hG
    rw [hB _ (by omega)]
    exact h i G hG j j0 j1
  · rw [List.getElem?_append_right (by omega)] at hG
    by_cases e : i = fs.length
    · rw [e, Nat.sub_self] at hG
      simp only [List.getElem?_cons_zero, Option.some.injEq] at hG
      rw [e, ← hG]
      exact hF j j0 j1
    · rw [List.getElem?_eq_none (by simp; omega)] at hG
      cases hG
theorem gRo_fr {A B : Nat → Int → Int} {fs : List (Int → Int)} (h : gRo A fs) (hB : ∀ z, z < (fs.length : Int) * 13 → B 35 z = A 35 z) : gRo B fs := by
  intro i G hG j j0 j1
  have c : i < fs.length := by
    by_cases c : i < fs.length
    · exact c
    · rw [List.getElem?_eq_none (by omega)] at hG; cases hG
  rw [hB _ (by omega)]
  exact h i G hG j j0 j1
theorem gRo_1 {B : Nat → Int → Int} {F : Int → Int} (hF : ∀ j, 0 ≤ j → j < 13 → B 35 (0 * 13 + j) = F j) : gRo B [F] := by
  intro i G hG j j0 j1
  cases i with
  | zero =>
    simp only [List.getElem?_cons_zero, Option.some.injEq] at hG
    rw [← hG]
    exact hF j j0 j1
  | succ i => simp at hG
theorem gRo_at {A : Nat → Int → Int} {fs : List (Int → Int)} (h : gRo A fs) {k : Int} (k0 : 0 ≤ k) (k1 : k < (fs.length : Int)) : ∃ F : Int → Int, fs[k.toNat]? = some F ∧ ∀ j, 0 ≤ j → j < 13 → A 35 (k * 13 + j) = F j := by
  obtain ⟨i, rfl⟩ := Int.eq_ofNat_of_zero_le k0
  have c : i < fs.length := by omega
  refine ⟨fs[i], ?_, fun j j0 j1 => h i _ (List.getElem?_eq_getElem c) j j0 j1⟩
  rw [show ((i : Int)).toNat = i by omega]
  exact List.getElem?_eq_getElem c
theorem aIn_at {fs : List (Int → Int)} (h : aIn fs) {k : Nat} {F : Int → Int} (hk : fs[k]? = some F) : inr F := h F (List.mem_of_getElem? hk)
/-- the equations from the k-th on -/
theorem EA_at {fs : List (Int → Int)} {k e : Int} {F G s s2 : Int → Int} {V V2 : Int → Int → Int} (h : EA (fs.drop (k - 1).toNat) s V e s2 V2) (k0 : 1 ≤ k) (k1 : k < (fs.length : Int)) (hF : fs[(k - 1).toNat]? = some F) (hG : fs[k.toNat]? = some G) : ∃ (e1 : Int) (s1 : Int → Int) (V1 : Int → Int → Int), EQT s V F G e1 s1 V1 ∧ ((e1 ≠ 0 ∧ e = e1) ∨ (e1 = 0 ∧ EA (fs.drop (k + 1 - 1).toNat) s1 V1 e s2 V2)) := by
  obtain ⟨n, rfl⟩ := Int.eq_ofNat_of_zero_le (show 0 ≤ k by omega)
  have e1 : ((n : Int) - 1).toNat = n - 1 := by omega
  have e2 : ((n : Int)).toNat = n := by omega
  have e3 : ((n : Int) + 1 - 1).toNat = n := by omega
  rw [e1] at h hF
  rw [e2] at hG
  rw [e3]
  have n1 : n - 1 < fs.length := by omega
  have n2 : n < fs.length := by omega
  rw [List.getElem?_eq_getElem n1] at hF
  rw [List.getElem?_eq_getElem n2] at hG
  have d1 : fs.drop (n - 1) = fs[n - 1] :: fs[n] :: fs.drop (n + 1) := by
    rw [List.drop_eq_getElem_cons n1, show n - 1 + 1 = n by omega, List.drop_eq_getElem_cons n2]
  have d2 : fs.drop n = fs[n] :: fs.drop (n + 1) := List.drop_eq_getElem_cons n2
  rw [d1] at h
  rw [d2]
  cases hF
  cases hG
  exact h
theorem EA_last {fs : List (Int → Int)} {e : Int} {s s2 : Int → Int} {V V2 : Int → Int → Int} (h : EA fs s V e s2 V2) (hl : fs.length = 1) : e = 0 ∧ sEq s V s2 V2 := by
  rcases fs with _ | ⟨F, _ | ⟨G, fs⟩⟩
  · exact h
  · exact h
  · simp at hl
/-! a pair, call by call -/
section PRQ
variable {n : Int} {X Y : Int → Int} {V : Int → Int → Int} {p : Int} {g : Prop} {r : PRs}
def PA1 (n : Int) (X Y : Int → Int) (V : Int → Int → Int) (p : Int) (r1 : ER) (r : PRs) : Prop := (¬ xW n X Y p 3 → r = .err (-8) p) ∧ (xW n X Y p 3 → (∀ c pl, r1 = .err c pl → r = .err c pl) ∧ ∀ q F g1, r1 = .ok q F g1 → PA2 n X Y V F q g1 r)
theorem pa_1 (h : PA n X Y V p g r) : ∃ r1 : ER, (xW n X Y p 3 → EX n X Y V (p + 1) g r1) ∧ PA1 n X Y V p r1 r := by
  have h1 := PA_first h
  by_cases c : xW n X Y p 3
  · obtain ⟨r1, k, a, b⟩ := h1.2 c
    exact ⟨r1, fun _ => k, h1.1, fun _ => ⟨a, b⟩⟩
  · exact ⟨.err 0 0, fun z => absurd z c, h1.1, fun z => absurd z c⟩
/-- behind the first expression -/
def PA3 (n : Int) (X Y : Int → Int) (V : Int → Int → Int) (r2 : ER) (r : PRs) (f : Int) (J : Nat → Int) (B : Nat → Int → Int) : Prop :=
  (J 5 = 0 → ∃ F : Int → Int, (J 15 = 0 → ∀ j, 0 ≤ j → j < 13 → B 35 (f * 13 + j) = F j) ∧ (¬ xW n X Y (J 4) 5 → r = .err (-8) (J 4)) ∧ (xW n X Y (J 4) 5 → EX n X Y V (J 4 + 1) (J 15 = 0) r2 ∧ (∀ c pl, r2 = .err c pl → r = .err c pl) ∧ ∀ q2 F2 g2, r2 = .ok q2 F2 g2 → (¬ xW n X Y q2 4 → r = .err (-8) q2) ∧ (xW n X Y q2 4 → r = .ok (q2 + 1) F F2 g2))) ∧ (J 5 ≠ 0 → r = .err (J 5) (J 6))
theorem pa_2 {I0 I1 J : Nat → Int} {B : Nat → Int → Int} {f : Int} {r1 : ER} (h : PA1 n X Y V p r1 r) (n1 : I1 5 = 0 → xW n X Y p 3) (n2 : I1 5 ≠ 0 → ¬ xW n X Y p 3 ∧ I1 5 = -8 ∧ I1 6 = p) (e1 : I1 5 ≠ 0 → J 5 = I1 5 ∧ J 6 = I1 6) (e2 : I1 5 = 0 → exQ r1 f J B) : ∃ r2 : ER, PA3 n X Y V r2 r f J B := by
  by_cases z1 : I1 5 = 0
  · obtain ⟨x1, x2⟩ := e2 z1
    obtain ⟨a, b⟩ := h.2 (n1 z1)
    by_cases z : J 5 = 0
    · obtain ⟨q, F, g1, hr, hq, hg, _, hv⟩ := x1 z
      have k := b q F g1 hr
      rw [← hq] at k
      rw [← propext hg] at k
      by_cases w : xW n X Y (J 4) 5
      · obtain ⟨r2, k2, c1, c2⟩ := k.2 w
        exact ⟨r2, fun _ => ⟨F, fun z15 => hv (hg.mp z15), k.1, fun _ => ⟨k2, c1, c2⟩⟩, fun y => absurd z y⟩
      · exact ⟨.err 0 0, fun _ => ⟨F, fun z15 => hv (hg.mp z15), k.1, fun y => absurd y w⟩, fun y => absurd z y⟩
    · exact ⟨.err 0 0, fun y => absurd y z, fun y => a _ _ (x2 y)⟩
  · obtain ⟨a, b, c⟩ := n2 z1
    obtain ⟨d, e⟩ := e1 z1
    refine ⟨.err 0 0, fun y => absurd (d.symm.trans y) z1, fun _ => ?_⟩
    rw [d, e, b, c]
    exact h.1 a
/-- what pair leaves -/
def pQ (r : PRs) (I : Nat → Int) (A : Nat → Int → Int) (J : Nat → Int) (B : Nat → Int → Int) : Prop :=
  (J 5 = 0 → ∃ (q : Int) (F1 F2 : Int → Int) (g : Prop), r = .ok q F1 F2 g ∧ J 4 = q ∧ (J 15 = 0 ↔ g) ∧ (I 12 < 13 → J 11 = I 11 + 2) ∧ (g → ∀ j, 0 ≤ j → j < 13 → B 35 (I 11 * 13 + j) = F1 j ∧ B 35 ((I 11 + 1) * 13 + j) = F2 j)) ∧ (J 5 ≠ 0 → r = .err (J 5) (J 6)) ∧ ∀ z, z < 3900 → ¬ (I 11 * 13 ≤ z ∧ z < I 11 * 13 + 26) → B 35 z = A 35 z
end PRQ
theorem EX_mono {n : Int} {X Y : Int → Int} {V : Int → Int → Int} {p q : Int} {g g2 : Prop} {F : Int → Int} (h : EX n X Y V p g (.ok q F g2)) : g2 → g := (h.2 _ _ _ rfl).1

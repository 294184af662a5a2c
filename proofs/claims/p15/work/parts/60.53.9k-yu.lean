/-! equations depend on the states of the twelve alone -/
theorem EQT_s {s s' s2 : Int → Int} {V V2 : Int → Int → Int} {F G : Int → Int} {e : Int} (hs : ∀ u, 0 ≤ u → u < 12 → s' u = s u) (h : EQT s V F G e s2 V2) : EQT s' V F G e s2 V2 := by
  have hk : ∀ {D S : Int → Int} {v : Int}, SVK s' V D v S ↔ SVK s V D v S := by
    intro D S v
    constructor
    · rintro ⟨a, b, c⟩
      exact ⟨a, b, fun u u0 u1 us => c u u0 u1 (by rw [hs u u0 u1]; exact us)⟩
    · rintro ⟨a, b, c⟩
      exact ⟨a, b, fun u u0 u1 us => c u u0 u1 (by rw [← hs u u0 u1]; exact us)⟩
  rcases h with h | ⟨D, hd, ⟨a, b, c, d⟩ | h | h | ⟨v, a, b, ⟨c, d⟩ | ⟨S, c, d, f⟩⟩⟩
  · exact Or.inl h
  · exact Or.inr ⟨D, hd, Or.inl ⟨a, b, c, fun u u0 u1 => ⟨by rw [hs u u0 u1]; exact (d u u0 u1).1, (d u u0 u1).2⟩⟩⟩
  · exact Or.inr ⟨D, hd, Or.inr (Or.inl h)⟩
  · exact Or.inr ⟨D, hd, Or.inr (Or.inr (Or.inl h))⟩
  · exact Or.inr ⟨D, hd, Or.inr (Or.inr (Or.inr ⟨v, a, b, Or.inl ⟨c, fun ⟨S, hS⟩ => d ⟨S, hk.mp hS⟩⟩⟩))⟩
  · refine Or.inr ⟨D, hd, Or.inr (Or.inr (Or.inr ⟨v, a, b, Or.inr ⟨S, hk.mpr c, d, fun u u0 u1 => ?_⟩⟩))⟩
    obtain ⟨r1, r2, r3⟩ := f u u0 u1
    rw [hs u u0 u1]
    exact ⟨r1, r2, r3⟩
theorem EA_s {fs : List (Int → Int)} {s s' s2 : Int → Int} {V V2 : Int → Int → Int} {e : Int} (hs : ∀ u, 0 ≤ u → u < 12 → s' u = s u) (h : EA fs s V e s2 V2) : EA fs s' V e s2 V2 := by
  rcases fs with _ | ⟨F, _ | ⟨G, fs⟩⟩
  · exact ⟨h.1, fun u u0 u1 => ⟨by rw [hs u u0 u1]; exact (h.2 u u0 u1).1, (h.2 u u0 u1).2⟩⟩
  · exact ⟨h.1, fun u u0 u1 => ⟨by rw [hs u u0 u1]; exact (h.2 u u0 u1).1, (h.2 u u0 u1).2⟩⟩
  · obtain ⟨e1, s1, V1, a, b⟩ := h
    exact ⟨e1, s1, V1, EQT_s hs a, b⟩
theorem VI_s {s s' : Int → Int} {V : Int → Int → Int} (hs : ∀ u, 0 ≤ u → u < 12 → s' u = s u) (h : VI s V) : VI s' V := VI_same h (fun u u0 u1 => ⟨hs u u0 u1, fun _ _ _ => rfl⟩)
def gSm (A B : Nat → Int → Int) : Prop := (∀ u, 0 ≤ u → u < 12 → B 30 u = A 30 u) ∧ ∀ z, 0 ≤ z → z < 156 → B 31 z = A 31 z
theorem gSm_e {A B : Nat → Int → Int} (h : B 30 = A 30 ∧ B 31 = A 31) : gSm A B := ⟨fun u _ _ => by rw [h.1], fun z _ _ => by rw [h.2]⟩
theorem gVs_of {A B : Nat → Int → Int} {V : Int → Int → Int} (hV : gVr V A) (h : B 30 = A 30 ∧ B 31 = A 31) : gVs (A 30) V B := ⟨fun u _ _ => by rw [h.1], by unfold gVr; rw [h.1, h.2]; exact hV⟩
/-- what equations leaves -/
def qQ (n : Int) (X Y : Int → Int) (rq : FQ) (e9 : Int) (s9 : Int → Int) (V8 : Int → Int → Int) (A : Nat → Int → Int) (J : Nat → Int) (B : Nat → Int → Int) : Prop :=
  (∀ c pl, rq = .err c pl → J 5 = c ∧ J 6 = pl ∧ gSm A B) ∧ (∀ q fs g, rq = .ok q fs g → (¬ xW n X Y q 6 → J 5 = -8 ∧ J 6 = q ∧ gSm A B) ∧ (xW n X Y q 6 → J 4 = q + 1 ∧ (¬ g → J 5 = -9 ∧ J 6 = q ∧ gSm A B) ∧ (g → J 5 = e9 ∧ (e9 ≠ 0 → J 6 = q ∧ gSm A B) ∧ (e9 = 0 → gVs s9 V8 B))))
theorem qQ_e {n : Int} {X Y : Int → Int} {rq : FQ} {e9 c pl : Int} {s9 : Int → Int} {V8 : Int → Int → Int} {A : Nat → Int → Int} {J : Nat → Int} {B : Nat → Int → Int} (hr : rq = .err c pl) (h1 : J 5 = c) (h2 : J 6 = pl) (h3 : gSm A B) : qQ n X Y rq e9 s9 V8 A J B := by
  subst hr
  exact ⟨fun c2 pl2 e => by cases e; exact ⟨h1, h2, h3⟩, fun q fs g e => by cases e⟩
theorem qQ_6 {n : Int} {X Y : Int → Int} {rq : FQ} {e9 q : Int} {fs : List (Int → Int)} {g : Prop} {s9 : Int → Int} {V8 : Int → Int → Int} {A : Nat → Int → Int} {J : Nat → Int} {B : Nat → Int → Int} (hr : rq = .ok q fs g) (hw : ¬ xW n X Y q 6) (h1 : J 5 = -8) (h2 : J 6 = q) (h3 : gSm A B) : qQ n X Y rq e9 s9 V8 A J B := by
  subst hr
  exact ⟨fun c2 pl2 e => (by cases e), fun q fs g e => by cases e; exact ⟨fun _ => ⟨h1, h2, h3⟩, fun z => absurd z hw⟩⟩
theorem qQ_o {n : Int} {X Y : Int → Int} {rq : FQ} {e9 q : Int} {fs : List (Int → Int)} {g : Prop} {s9 : Int → Int} {V8 : Int → Int → Int} {A : Nat → Int → Int} {J : Nat → Int} {B : Nat → Int → Int} (hr : rq = .ok q fs g) (hw : xW n X Y q 6) (h4 : J 4 = q + 1) (ha : ¬ g → J 5 = -9 ∧ J 6 = q ∧ gSm A B) (hb : g → J 5 = e9 ∧ (e9 ≠ 0 → J 6 = q ∧ gSm A B) ∧ (e9 = 0 → gVs s9 V8 B)) : qQ n X Y rq e9 s9 V8 A J B := by
  subst hr
  exact ⟨fun c2 pl2 e => (by cases e), fun q fs g e => by cases e; exact ⟨fun z => absurd hw z, fun _ => ⟨h4, ha, hb⟩⟩⟩
/-- what is kept before the equations: states in form 200, forms in 201 .. 212 -/
def gBk (A B : Nat → Int → Int) (v : Int) : Prop := ∀ u, 0 ≤ u → u < v → B 35 (2600 + u) = A 30 u ∧ ∀ j, 0 ≤ j → j < 13 → B 35 ((201 + u) * 13 + j) = A 31 (u * 13 + j)
theorem gBk_fr {A B B2 : Nat → Int → Int} {v : Int} (h : gBk A B v) (v1 : v ≤ 12) (e : ∀ z, z < 5148 → B2 35 z = B 35 z) : gBk A B2 v := fun u u0 u1 => ⟨by rw [e _ (by omega)]; exact (h u u0 u1).1, fun j j0 j1 => by rw [e _ (by omega)]; exact (h u u0 u1).2 j j0 j1⟩
/-- the loop of the equations -/
def eLp (fs : List (Int → Int)) (k g15 e9 at9 : Int) (s9 : Int → Int) (V8 : Int → Int → Int) (J : Nat → Int) (B : Nat → Int → Int) : Prop :=
  (J 5 = 0 → g15 = 0 ∧ J 15 = 0 ∧ ∃ V : Int → Int → Int, gVr V B ∧ VI (B 30) V ∧ EA (fs.drop (k - 1).toNat) (B 30) V e9 s9 V8) ∧ (J 5 ≠ 0 → J 6 = at9 ∧ (g15 = 0 → J 5 = e9) ∧ (g15 ≠ 0 → J 5 = -9))
/-- the variables taken back -/
def gRs (A B : Nat → Int → Int) (v : Int) : Prop := ∀ u, 0 ≤ u → u < v → B 30 u = A 30 u ∧ ∀ j, 0 ≤ j → j < 13 → B 31 (u * 13 + j) = A 31 (u * 13 + j)
theorem gRs_m {A B : Nat → Int → Int} (h : gRs A B 12) : gSm A B := by
  refine ⟨fun u u0 u1 => (h u u0 u1).1, fun z z0 z1 => ?_⟩
  have h1 := (h (z / 13) (by omega) (by omega)).2 (z % 13) (by omega) (by omega)
  rw [show z / 13 * 13 + z % 13 = z by omega] at h1
  exact h1
/-- what show leaves -/
def nSm (I : Nat → Int) (A : Nat → Int → Int) (J : Nat → Int) (B : Nat → Int → Int) : Prop := J 7 = I 7 ∧ ∀ k, 0 ≤ k → k < 8 → B 32 k = A 32 k
def shQ (n : Int) (X Y : Int → Int) (rs : ER) (I : Nat → Int) (A : Nat → Int → Int) (J : Nat → Int) (B : Nat → Int → Int) : Prop :=
  (∀ c pl, rs = .err c pl → J 5 = c ∧ J 6 = pl ∧ nSm I A J B) ∧ (∀ q F g, rs = .ok q F g → (¬ xW n X Y q 6 → J 5 = -8 ∧ J 6 = q ∧ nSm I A J B) ∧ (xW n X Y q 6 → J 4 = q + 1 ∧ (¬ g → J 5 = -9 ∧ J 6 = q ∧ nSm I A J B) ∧ (g → ¬ fZ F → J 5 = -12 ∧ J 6 = q ∧ nSm I A J B) ∧ (g → fZ F → J 5 = 0 ∧ J 7 = I 7 + 1 ∧ B 32 0 = F 12 ∧ ∀ k, 1 ≤ k → k < 8 → B 32 k = A 32 (k - 1))))
section SHS
variable {n : Int} {X Y : Int → Int} {rs : ER} {c pl q : Int} {F : Int → Int} {g : Prop} {I J : Nat → Int} {A B : Nat → Int → Int}
theorem sh_e (hr : rs = .err c pl) (h1 : J 5 = c) (h2 : J 6 = pl) (h3 : nSm I A J B) : shQ n X Y rs I A J B := by
  subst hr
  exact ⟨fun c2 pl2 e => by cases e; exact ⟨h1, h2, h3⟩, fun q F g e => by cases e⟩
theorem sh_6 (hr : rs = .ok q F g) (hw : ¬ xW n X Y q 6) (h1 : J 5 = -8) (h2 : J 6 = q) (h3 : nSm I A J B) : shQ n X Y rs I A J B := by
  subst hr
  exact ⟨fun c2 pl2 e => (by cases e), fun q F g e => by cases e; exact ⟨fun _ => ⟨h1, h2, h3⟩, fun z => absurd z hw⟩⟩
theorem sh_o (hr : rs = .ok q F g) (hw : xW n X Y q 6) (h4 : J 4 = q + 1) (ha : ¬ g → J 5 = -9 ∧ J 6 = q ∧ nSm I A J B) (hb : g → ¬ fZ F → J 5 = -12 ∧ J 6 = q ∧ nSm I A J B) (hc : g → fZ F → J 5 = 0 ∧ J 7 = I 7 + 1 ∧ B 32 0 = F 12 ∧ ∀ k, 1 ≤ k → k < 8 → B 32 k = A 32 (k - 1)) : shQ n X Y rs I A J B := by
  subst hr
  exact ⟨fun c2 pl2 e => (by cases e), fun q F g e => by cases e; exact ⟨fun z => absurd hw z, fun _ => ⟨h4, ha, hb, hc⟩⟩⟩
end SHS

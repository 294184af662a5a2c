/-! solving in the reference -/
def svA (D : Int → Int) (v i : Int) (J : Nat → Int) (B : Nat → Int → Int) : Prop :=
  (J 15 = 0 ↔ ∀ j, 0 ≤ j → j < i → j ≠ v → ∃ r : Int, gin r ∧ r * D v = -(D j * 65536)) ∧ (J 15 = 0 → ∀ j, 0 ≤ j → j < i → (j = v → B 35 (5174 + j) = 0) ∧ (j ≠ v → B 35 (5174 + j) * D v = -(D j * 65536)) ∧ gin (B 35 (5174 + j)))
section SVS
variable {D S s : Int → Int} {V : Int → Int → Int} {v i w x val : Int} {J J2 : Nat → Int} {A B B2 : Nat → Int → Int}
theorem svA_0 (h : J 15 = 0) : svA D v 0 J B := ⟨⟨fun _ j a c => by omega, fun _ => h⟩, fun _ j a c => by omega⟩
theorem svA_s (h : svA D v i J B) (i0 : 0 ≤ i) (hne : i ≠ v) (hx : x = -(D i)) (h1 : (∃ r : Int, gin r ∧ r * D v = x * 65536) → J2 15 = J 15 ∧ val * D v = x * 65536 ∧ gin val) (h2 : ¬ (∃ r : Int, gin r ∧ r * D v = x * 65536) → J2 15 = 1) (hB : B2 35 = ju (B 35) (5174 + i) val) : svA D v (i + 1) J2 B2 := by
  have ex : x * 65536 = -(D i * 65536) := by rw [hx]; omega
  rw [ex] at h1 h2
  obtain ⟨a1, a2⟩ := h
  have key : J2 15 = 0 ↔ (J 15 = 0 ∧ ∃ r : Int, gin r ∧ r * D v = -(D i * 65536)) := by
    by_cases c : ∃ r : Int, gin r ∧ r * D v = -(D i * 65536)
    · rw [(h1 c).1]
      exact ⟨fun z => ⟨z, c⟩, fun z => z.1⟩
    · rw [h2 c]
      exact ⟨fun z => absurd z (by decide), fun z => absurd z.2 c⟩
  refine ⟨?_, fun z j j0 j1 => ?_⟩
  · rw [key, a1]
    constructor
    · rintro ⟨p, q⟩ j j0 j1 jv
      by_cases e : j = i
      · rw [e]; exact q
      · exact p j j0 (by omega) jv
    · intro p
      exact ⟨fun j j0 j1 jv => p j j0 (by omega) jv, p i i0 (by omega) hne⟩
  · have k := key.mp z
    rw [hB]
    by_cases e : j = i
    · rw [e, ju_self]
      have q := h1 k.2
      exact ⟨fun y => absurd y hne, fun _ => q.2.1, q.2.2⟩
    · rw [ju_ne _ _ (by omega)]
      exact a2 k.1 j j0 (by omega)
theorem svA_v (h : svA D v i J B) (i0 : 0 ≤ i) (hv : i = v) (hJ : J2 15 = J 15) (hB : B2 35 = ju (B 35) (5174 + i) 0) : svA D v (i + 1) J2 B2 := by
  obtain ⟨a1, a2⟩ := h
  refine ⟨?_, fun z j j0 j1 => ?_⟩
  · rw [hJ, a1]
    constructor
    · intro p j j0 j1 jv
      exact p j j0 (by omega) jv
    · intro p j j0 j1 jv
      exact p j j0 (by omega) jv
  · rw [hJ] at z
    rw [hB]
    by_cases e : j = i
    · rw [e, ju_self]
      exact ⟨fun _ => rfl, fun y => absurd hv y, by show gin 0; omega⟩
    · rw [ju_ne _ _ (by omega)]
      exact a2 z j j0 (by omega)
/-- what loop 2 has done of the variables below w; v itself is left out -/
def svG (s : Int → Int) (V : Int → Int → Int) (v : Int) (S : Int → Int) (w : Int) (A B : Nat → Int → Int) : Prop := ∀ u, 0 ≤ u → u < 12 → u ≠ v →
  ((u < w ∧ s u = 1) → rpK (V u) v S ∧ (∀ i, 0 ≤ i → i < 13 → B 31 (u * 13 + i) = rpT (V u) v S i / 65536) ∧ stl (fun i => B 31 (u * 13 + i)) (B 30 u)) ∧ (¬ (u < w ∧ s u = 1) → B 30 u = s u ∧ ∀ i, 0 ≤ i → i < 13 → B 31 (u * 13 + i) = A 31 (u * 13 + i))
def svQ (D s : Int → Int) (V : Int → Int → Int) (v : Int) (S : Int → Int) (w : Int) (A : Nat → Int → Int) (J : Nat → Int) (B : Nat → Int → Int) : Prop :=
  (J 15 = 0 → SL D v S ∧ inr S ∧ svG s V v S w A B) ∧ (J 15 ≠ 0 → ¬ ∃ S2 : Int → Int, SVK s V D v S2)
theorem svQ_0 (h : svA D v 13 J B) (v0 : 0 ≤ v) (v1 : v < 12) (hS : ∀ j, 0 ≤ j → j < 13 → B 35 (5174 + j) = S j) (h30 : ∀ u, 0 ≤ u → u < 12 → B 30 u = s u) (h31 : B 31 = A 31) : svQ D s V v S 0 A J B := by
  obtain ⟨a1, a2⟩ := h
  constructor
  · intro z
    have a := a2 z
    refine ⟨⟨?_, fun i i0 i1 ne => ?_⟩, fun i i0 i1 => ?_, fun u u0 u1 uv => ⟨fun q => by omega, fun _ => ⟨h30 u u0 u1, fun i _ _ => by rw [h31]⟩⟩⟩
    · rw [← hS v v0 (by omega)]
      exact (a v v0 (by omega)).1 rfl
    · rw [← hS i i0 i1]
      exact (a i i0 i1).2.1 ne
    · rw [← hS i i0 i1]
      exact (a i i0 i1).2.2
  · rintro z ⟨S2, hl, hi, _⟩
    apply z
    rw [a1]
    intro j j0 j1 jv
    exact ⟨S2 j, hi j j0 j1, hl.2 j j0 j1 jv⟩
theorem svQ_sk (h : svQ D s V v S w A J B) (hs : B 30 w ≠ 1) (w0 : 0 ≤ w) (w1 : w < 12) (hv : s v ≠ 1) : svQ D s V v S (w + 1) A J B := by
  refine ⟨fun z => ?_, h.2⟩
  obtain ⟨a, b, c⟩ := h.1 z
  refine ⟨a, b, fun u u0 u1 uv => ?_⟩
  obtain ⟨c1, c2⟩ := c u u0 u1 uv
  by_cases e : u = w
  · subst e
    have q := c2 (fun z => by omega)
    have sn : s u ≠ 1 := by rw [← q.1]; exact hs
    exact ⟨fun z => absurd z.2 sn, fun _ => q⟩
  · exact ⟨fun z => c1 ⟨by omega, z.2⟩, fun z => c2 (fun y => z ⟨by omega, y.2⟩)⟩
/-- variable w is replaced in: its sums -/
theorem sv_key {T w9 h9 p9 : Int} (hT : T = w9 * 65536 + h9 * 65536 + p9) : ((p9.tmod 65536 = 0 ∧ gin (w9 + h9 + p9.tdiv 65536)) ↔ (T % 65536 = 0 ∧ gin (T / 65536))) ∧ (T % 65536 = 0 → w9 + h9 + p9.tdiv 65536 = T / 65536) := as_iff hT
theorem svQ_go (h : svQ D s V v S w A J B) (z15 : J 15 = 0) (hw : s w = 1) (wv : w ≠ v) (hdv : D v ≠ 0) (hj : J2 15 = 0 ↔ rpK (V w) v S) (hf : J2 15 = 0 → (∀ i, 0 ≤ i → i < 13 → B2 31 (w * 13 + i) = rpT (V w) v S i / 65536) ∧ stl (fun i => B2 31 (w * 13 + i)) (B2 30 w)) (ho : J2 15 = 0 → ∀ u, 0 ≤ u → u < 12 → u ≠ w → B2 30 u = B 30 u ∧ ∀ i, 0 ≤ i → i < 13 → B2 31 (u * 13 + i) = B 31 (u * 13 + i)) (w0 : 0 ≤ w) (w1 : w < 12) : svQ D s V v S (w + 1) A J2 B2 := by
  obtain ⟨a, b, c⟩ := h.1 z15
  constructor
  · intro z
    refine ⟨a, b, fun u u0 u1 uv => ?_⟩
    by_cases e : u = w
    · subst e
      exact ⟨fun _ => ⟨hj.mp z, hf z⟩, fun y => absurd ⟨by omega, hw⟩ y⟩
    · obtain ⟨c1, c2⟩ := c u u0 u1 uv
      obtain ⟨o1, o2⟩ := ho z u u0 u1 e
      refine ⟨fun y => ?_, fun y => ?_⟩
      · obtain ⟨q1, q2, q3⟩ := c1 ⟨by omega, y.2⟩
        refine ⟨q1, fun i i0 i1 => (o2 i i0 i1).trans (q2 i i0 i1), ?_⟩
        rw [o1]
        exact stl_v (F := fun i => B 31 (u * 13 + i)) (fun i i0 i1 => (o2 i i0 i1).symm) q3
      · obtain ⟨q1, q2⟩ := c2 (fun x => y ⟨by omega, x.2⟩)
        exact ⟨o1.trans q1, fun i i0 i1 => (o2 i i0 i1).trans (q2 i i0 i1)⟩
  · rintro z ⟨S2, hS2⟩
    apply z
    rw [hj]
    exact rpK_v (SL_u hS2.1 a hdv) (hS2.2.2 w w0 w1 hw)
/-- the reference's variables -/
def gVs (s : Int → Int) (V : Int → Int → Int) (A : Nat → Int → Int) : Prop := (∀ u, 0 ≤ u → u < 12 → A 30 u = s u) ∧ gVr V A
theorem stl_u {F G : Int → Int} {x y : Int} (h : stl F x) (h2 : stl G y) (hv : vis F G) : x = y := by
  rcases Classical.em (fZ F) with z | z
  · rw [h.1 z, h2.1 ((fZ_v hv).mp z)]
  · rw [h.2 z, h2.2 (fun q => z ((fZ_v hv).mpr q))]
theorem sv_end {s2 : Int → Int} {V2 : Int → Int → Int} (hV : gVr V A) (hI9 : VI (A 30) V) (hk : SL D v S) (hi : inr S) (hg : svG (A 30) V v S 12 A B) (hv31 : ∀ i, 0 ≤ i → i < 13 → B2 31 (v * 13 + i) = S i) (ho : ∀ u, 0 ≤ u → u < 12 → u ≠ v → B2 30 u = B 30 u ∧ ∀ i, 0 ≤ i → i < 13 → B2 31 (u * 13 + i) = B 31 (u * 13 + i)) (h30 : stl S (B2 30 v)) (hr : SVR (A 30) V v S s2 V2) : gVs s2 V2 B2 := by
  have main : ∀ u, 0 ≤ u → u < 12 → B2 30 u = s2 u ∧ inr (V2 u) ∧ (B2 30 u = 0 → ∀ i, 0 ≤ i → i < 13 → V2 u i = if i = u then 65536 else 0) ∧ (B2 30 u ≠ 0 → ∀ i, 0 ≤ i → i < 13 → V2 u i = B2 31 (u * 13 + i)) := by
    intro u u0 u1
    obtain ⟨r1, r2, r3⟩ := hr u u0 u1
    by_cases uv : u = v
    · obtain ⟨q1, q2⟩ := r1 uv
      subst uv
      have e := stl_u h30 q2 (fun _ _ _ => rfl)
      have e2 := stl_12 h30
      exact ⟨e, inr_v q1 hi, fun z => by omega, fun _ i i0 i1 => by rw [q1 i i0 i1, hv31 i i0 i1]⟩
    · obtain ⟨g1, g2⟩ := hg u u0 u1 uv
      obtain ⟨o1, o2⟩ := ho u u0 u1 uv
      by_cases us : A 30 u = 1
      · obtain ⟨q1, q2⟩ := r2 uv us
        obtain ⟨p1, p2, p3⟩ := g1 ⟨u1, us⟩
        have hv : vis (fun i => B 31 (u * 13 + i)) (V2 u) := fun i i0 i1 => by
          show B 31 (u * 13 + i) = V2 u i
          rw [p2 i i0 i1, q1 i i0 i1]
        have e := stl_u p3 q2 hv
        have e2 := stl_12 p3
        refine ⟨o1.trans e, fun i i0 i1 => by rw [q1 i i0 i1]; exact (p1 i i0 i1).2, fun z => by omega, fun _ i i0 i1 => by rw [o2 i i0 i1, q1 i i0 i1, p2 i i0 i1]⟩
      · obtain ⟨q1, q2⟩ := r3 uv us
        obtain ⟨p1, p2⟩ := g2 (fun z => us z.2)
        obtain ⟨n1, n2, n3⟩ := hV u u0 u1
        refine ⟨by rw [o1, p1, q2], inr_v q1 n1, fun z i i0 i1 => ?_, fun z i i0 i1 => ?_⟩
        · rw [q1 i i0 i1]
          exact n2 (by rw [← p1, ← o1]; exact z) i i0 i1
        · rw [q1 i i0 i1, o2 i i0 i1, p2 i i0 i1]
          exact n3 (by rw [← p1, ← o1]; exact z) i i0 i1
  exact ⟨fun u u0 u1 => (main u u0 u1).1, fun u u0 u1 => (main u u0 u1).2⟩
theorem gVs_same {s2 : Int → Int} {V2 : Int → Int → Int} (hV : gVr V A) (h : sEq (A 30) V s2 V2) (e30 : B 30 = A 30) (e31 : B 31 = A 31) : gVs s2 V2 B := by
  refine ⟨fun u u0 u1 => by rw [e30, (h u u0 u1).1], fun u u0 u1 => ?_⟩
  obtain ⟨n1, n2, n3⟩ := hV u u0 u1
  have q := (h u u0 u1).2
  rw [e30, e31]
  exact ⟨inr_v q n1, fun z i i0 i1 => by rw [q i i0 i1]; exact n2 z i i0 i1, fun z i i0 i1 => by rw [q i i0 i1]; exact n3 z i i0 i1⟩
end SVS
theorem rp_bW {F S : Int → Int} {v j : Int} (hF : inr F) (hS : inr S) (v0 : 0 ≤ v) (v1 : v < 13) (j0 : 0 ≤ j) (j1 : j < 13) : (-72057594037927936 ≤ F v / 65536 * S j ∧ F v / 65536 * S j ≤ 72057594037927936) ∧ (-4503599627370496 ≤ F v % 65536 * S j ∧ F v % 65536 * S j ≤ 4503599627370496) := by
  have a := hF v v0 v1
  have b := hS j j0 j1
  exact ⟨mulB (s := F v / 65536) (x := S j) 1048576 68719476736 (by omega) (by omega) (by omega) (by omega), mulB (s := F v % 65536) (x := S j) 65536 68719476736 (by omega) (by omega) (by omega) (by omega)⟩
/-- what addSums leaves of variable w's form with v replaced -/
theorem rp_end {F S : Int → Int} {v f : Int} {I J : Nat → Int} {A B : Nat → Int → Int} (hf : ∀ j, 0 ≤ j → j < 13 → A 35 (f * 13 + j) = if j = v then 0 else F j) (h33 : ∀ j, 0 ≤ j → j < 13 → A 33 j = F v / 65536 * S j) (h34 : ∀ j, 0 ≤ j → j < 13 → A 34 j = F v % 65536 * S j) (z15 : I 15 = 0)
    (x2 : ∀ j, 0 ≤ j → j < 13 → B 35 (f * 13 + j) = gkp (A 35 (f * 13 + j) + A 33 j + (A 34 j).tdiv 65536)) (x3 : J 15 = 0 ↔ (I 15 = 0 ∧ ∀ j, 0 ≤ j → j < 13 → ((A 34 j).tmod 65536 = 0 ∧ gin (A 35 (f * 13 + j) + A 33 j + (A 34 j).tdiv 65536)))) : (J 15 = 0 ↔ rpK F v S) ∧ (rpK F v S → ∀ i, 0 ≤ i → i < 13 → B 35 (f * 13 + i) = rpT F v S i / 65536) := by
  have key : ∀ j, 0 ≤ j → j < 13 → (((A 34 j).tmod 65536 = 0 ∧ gin (A 35 (f * 13 + j) + A 33 j + (A 34 j).tdiv 65536)) ↔ (rpT F v S j % 65536 = 0 ∧ gin (rpT F v S j / 65536))) ∧ (rpT F v S j % 65536 = 0 → A 35 (f * 13 + j) + A 33 j + (A 34 j).tdiv 65536 = rpT F v S j / 65536) := by
    intro j a c
    apply as_iff
    rw [hf j a c, h33 j a c, h34 j a c]
    exact rp_tot F S v j
  constructor
  · rw [x3]
    constructor
    · rintro ⟨_, b⟩ j j0 j1
      exact (key j j0 j1).1.mp (b j j0 j1)
    · intro b
      exact ⟨z15, fun j j0 j1 => (key j j0 j1).1.mpr (b j j0 j1)⟩
  · intro k i i0 i1
    rw [x2 i i0 i1, (key i i0 i1).2 (k i i0 i1).1]
    unfold gkp
    rw [if_pos (k i i0 i1).2]

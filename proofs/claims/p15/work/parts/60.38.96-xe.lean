/-! the class's replacing and solving: what a step adds -/
def sbP (V : Int → Int → Int) (F : Int → Int) (p v : Int) : Int := (if p = 12 then F 12 * 65536 else 0) + sm (fun u => F u * V u p) v.toNat
theorem sbP_0 (V : Int → Int → Int) (F : Int → Int) (p : Int) : sbP V F p 0 = if p = 12 then F 12 * 65536 else 0 := Int.add_zero _
theorem sbP_s {V : Int → Int → Int} {F : Int → Int} {p v : Int} (h : 0 ≤ v) : sbP V F p (v + 1) = sbP V F p v + F v * V v p := by
  unfold sbP
  obtain ⟨n, rfl⟩ := Int.eq_ofNat_of_zero_le h
  rw [show ((n : Int) + 1).toNat = n + 1 by omega, show ((n : Int)).toNat = n by omega]
  exact (Int.add_assoc _ _ _).symm
theorem mulB {s x : Int} (S C : Nat) (h0 : -(S : Int) ≤ s) (h1 : s ≤ S) (h2 : -(C : Int) ≤ x) (h3 : x ≤ C) : -((S * C : Nat) : Int) ≤ s * x ∧ s * x ≤ ((S * C : Nat) : Int) := by
  have e : (s * x).natAbs ≤ S * C := by
    rw [Int.natAbs_mul]
    exact Nat.mul_le_mul (by omega) (by omega)
  omega
theorem sr_b {f x : Int} (hf : gin f) (hx : gin x) : (-4503599627370496 ≤ f / 1048576 * x ∧ f / 1048576 * x ≤ 4503599627370496) ∧ (-72057594037927936 ≤ f % 1048576 * x ∧ f % 1048576 * x ≤ 72057594037927936) ∧ f / 1048576 * x * 1048576 + f % 1048576 * x = f * x := by
  have e : f = f / 1048576 * 1048576 + f % 1048576 := by omega
  have a1 : -65536 ≤ f / 1048576 ∧ f / 1048576 ≤ 65536 := by omega
  have a2 : 0 ≤ f % 1048576 ∧ f % 1048576 ≤ 1048576 := by omega
  generalize f / 1048576 = q at e a1 ⊢
  generalize f % 1048576 = r at e a2 ⊢
  have b1 := mulB (s := q) (x := x) 65536 68719476736 (by omega) (by omega) (by omega) (by omega)
  have b2 := mulB (s := r) (x := x) 1048576 68719476736 (by omega) (by omega) (by omega) (by omega)
  refine ⟨by omega, by omega, ?_⟩
  rw [e, Int.add_mul, Int.mul_right_comm]
theorem sr_step {h l f x y1 y2 y3 y4 v : Int} (hf : gin f) (hx : gin x) (v0 : 0 ≤ v) (v1 : v < 12) (bh : -(4503599627370496 * v) ≤ h ∧ h ≤ 4503599627370496 * v) (bl : -(4503599627370496 + 72057594037927936 * v) ≤ l ∧ l ≤ 4503599627370496 + 72057594037927936 * v)
    (b1 : -9223372036854775808 ≤ y1 ∧ y1 ≤ 9223372036854775807) (e1 : (y1 - f / 1048576 * x) % 18446744073709551616 = 0) (b2 : -9223372036854775808 ≤ y2 ∧ y2 ≤ 9223372036854775807) (e2 : (y2 - (h + y1)) % 18446744073709551616 = 0)
    (b3 : -9223372036854775808 ≤ y3 ∧ y3 ≤ 9223372036854775807) (e3 : (y3 - f % 1048576 * x) % 18446744073709551616 = 0) (b4 : -9223372036854775808 ≤ y4 ∧ y4 ≤ 9223372036854775807) (e4 : (y4 - (l + y3)) % 18446744073709551616 = 0) :
    y2 * 1048576 + y4 = h * 1048576 + l + f * x ∧ (-(4503599627370496 * (v + 1)) ≤ y2 ∧ y2 ≤ 4503599627370496 * (v + 1)) ∧ (-(4503599627370496 + 72057594037927936 * (v + 1)) ≤ y4 ∧ y4 ≤ 4503599627370496 + 72057594037927936 * (v + 1)) := by
  obtain ⟨⟨p1, p2⟩, ⟨q1, q2⟩, e⟩ := sr_b hf hx
  generalize f / 1048576 * x = P at p1 p2 e e1
  generalize f % 1048576 * x = Q at q1 q2 e e3
  generalize f * x = Z at e ⊢
  have z1 : y1 = P := by omega
  have z2 : y2 = h + P := by omega
  have z3 : y3 = Q := by omega
  have z4 : y4 = l + Q := by omega
  omega
/-- a division that goes up -/
theorem ss_r {d q y : Int} (hd : d ≠ 0) (h : y * d = q) : q.tmod d = 0 ∧ q.tdiv d = y := by
  subst h
  exact ⟨Int.mul_tmod_left y d, Int.mul_tdiv_cancel y hd⟩
theorem ss_q {d q : Int} (h : q.tmod d = 0) : q.tdiv d * d = q := Int.tdiv_mul_cancel (Int.dvd_of_tmod_eq_zero h)
theorem ss_m (q d : Int) : (q.tmod d).natAbs ≤ q.natAbs := by
  rw [Int.natAbs_tmod]
  exact Nat.mod_le _ _
theorem ss_b (q d : Int) : (q.tdiv d).natAbs ≤ q.natAbs := by
  rw [Int.natAbs_tdiv]
  exact Nat.div_le_self _ _
/-- far less than a long's half -/
def wid (D : Int → Int) : Prop := ∀ i, 0 ≤ i → i < 13 → -137438953472 ≤ D i ∧ D i ≤ 137438953472
/-- the class's forms of the variables -/
def cV (A : Nat → Int → Int) : Int → Int → Int := fun v => if v < 12 then A (47 + 2 * v.toNat) else fun _ => 0
theorem cV_e {A : Nat → Int → Int} {v : Int} (h : v < 12) : cV A v = A (47 + 2 * v.toNat) := if_pos h
theorem cVf_V (A : Nat → Int → Int) : cVf A (cV A) := fun _ _ h => (cV_e h).symm
theorem cV_fr {A B : Nat → Int → Int} (h : ∀ k, 47 ≤ k → k < 70 → B k = A k) : cV B = cV A := by
  funext v
  by_cases c : v < 12
  · rw [cV_e c, cV_e c]
    exact h _ (by omega) (by omega)
  · unfold cV
    rw [if_neg c, if_neg c]
def tVar (k : Nat) : Bool := decide (44 ≤ k) && decide (k < 74)
def tBef (k : Nat) : Bool := decide (434 ≤ k) && decide (k < 460)
def tV43 (k : Nat) : Bool := decide (44 ≤ k) && decide (k < 70)
theorem tv_in {k : Nat} (h0 : 44 ≤ k) (h1 : k < 74) : [k].all (fun x => tVar x) = true := by
  unfold tVar
  simp
  omega
theorem tv_in3 {k : Nat} (h0 : 44 ≤ k) (h1 : k < 70) : [k].all (fun x => tV43 x) = true := by
  unfold tV43
  simp
  omega
theorem tb_in {k : Nat} (h0 : 434 ≤ k) (h1 : k < 460) : [k].all (fun x => tBef x) = true := by
  unfold tBef
  simp
  omega
/-! what becomes of the variables while v is replaced in all: those below u are done -/
def RI (s : Int → Int) (V : Int → Int → Int) (v : Int) (S : Int → Int) (u : Int) (s2 : Int → Int) (V2 : Int → Int → Int) : Prop := ∀ w, 0 ≤ w → w < 12 →
  (w = v → vis (V2 w) S ∧ stl S (s2 w)) ∧ (w ≠ v → w < u → s w = 1 → (∀ i, 0 ≤ i → i < 13 → V2 w i = rpT (V w) v S i / 65536) ∧ stl (V2 w) (s2 w) ∧ rpK (V w) v S) ∧ (w ≠ v → (s w ≠ 1 ∨ u ≤ w) → vis (V2 w) (V w) ∧ s2 w = s w)
section RIS
variable {s s2 s3 : Int → Int} {V V2 V3 : Int → Int → Int} {S D : Int → Int} {v u : Int}
theorem RI_end (h : RI s V v S 12 s2 V2) (hs : s v ≠ 1) : SVR s V v S s2 V2 ∧ ∀ u, 0 ≤ u → u < 12 → s u = 1 → rpK (V u) v S := by
  refine ⟨fun u u0 u1 => ?_, fun u u0 u1 us => ?_⟩
  · obtain ⟨a, b, c⟩ := h u u0 u1
    exact ⟨a, fun z y => ⟨(b z u1 y).1, (b z u1 y).2.1⟩, fun z y => c z (Or.inl y)⟩
  · obtain ⟨a, b, c⟩ := h u u0 u1
    exact (b (fun z => hs (by rw [← z]; exact us)) u1 us).2.2
/-- a variable that stays as it is -/
theorem RI_skip (hI : VI s V) (h : RI s V v S u s2 V2) (u0 : 0 ≤ u) (u1 : u < 12) (hc : s2 u ≠ 1 ∨ V2 u v = 0) (v0 : 0 ≤ v) (v1 : v < 12) (hS : S v = 0) (hi : inr S) : RI s V v S (u + 1) s2 V2 := by
  intro w w0 w1
  obtain ⟨a, b, c⟩ := h w w0 w1
  refine ⟨a, fun z y x => ?_, fun z y => ?_⟩
  · by_cases e : w = u
    · subst e
      obtain ⟨c1, c2⟩ := c z (Or.inr (Int.le_refl _))
      obtain ⟨i1, i2, i3, i4, i5, i6⟩ := hI w w0 w1
      have hz : V w v = 0 := by
        rcases hc with q | q
        · exact absurd (c2.trans x) q
        · rw [← c1 v v0 (by omega)]; exact q
      have hr : ∀ i, rpT (V w) v S i = V w i * 65536 := by
        intro i
        unfold rpT
        rw [hz]
        by_cases e : i = v
        · rw [if_pos e, e, hz]; omega
        · rw [if_neg e]; omega
      refine ⟨fun i i0 i1 => ?_, ⟨fun y => absurd ((fZ_v c1).mp y) (i4 x), fun _ => c2.trans x⟩, fun i i0 i1 => ?_⟩
      · rw [hr i, c1 i i0 i1]; omega
      · rw [hr i]
        have := i1
        have h9 := (hI w w0 w1).1 i i0 i1
        exact ⟨by omega, by show gin (V w i * 65536 / 65536); rw [show V w i * 65536 / 65536 = V w i by omega]; exact h9⟩
    · exact b z (by omega) x
  · exact c z (y.imp id (fun q => by omega))
/-- what is replaced is replaced by v's form alone -/
theorem RI_sb (hI : VI s V) (h : RI s V v S u s2 V2) (u0 : 0 ≤ u) (u1 : u < 12) (uv : u ≠ v) (v0 : 0 ≤ v) (v1 : v < 12) (hs : s v = 0) : ∀ i, 0 ≤ i → i < 13 → sbT V2 (V2 u) i = rpT (V u) v S i := by
  intro i i0 i1
  have c := (h u u0 u1).2.2 uv (Or.inr (Int.le_refl _))
  rw [sb_rp (V := V2) (F := V2 u) v0 v1 ((h v v0 v1).1 rfl).1 (fun w w0 w1 wv ne j j0 j1 => ?_) i i0 i1]
  · unfold rpT
    rw [c.1 i i0 i1, c.1 v v0 (by omega)]
  · rw [c.1 w w0 (by omega)] at ne
    have q := (hI u u0 u1).2.2.2.2.2 w w0 w1 ne
    have q2 := (h w w0 w1).2.2 wv (Or.inl (by omega))
    rw [q2.1 j j0 j1]
    exact (hI w w0 w1).2.2.1 q j j0 j1
theorem RI_sK (hI : VI s V) (h : RI s V v S u s2 V2) (u0 : 0 ≤ u) (u1 : u < 12) (uv : u ≠ v) (v0 : 0 ≤ v) (v1 : v < 12) (hs : s v = 0) : sbK V2 (V2 u) ↔ rpK (V u) v S := by
  have e := RI_sb hI h u0 u1 uv v0 v1 hs
  constructor
  · intro z i i0 i1
    rw [← e i i0 i1]
    exact z i i0 i1
  · intro z i i0 i1
    rw [e i i0 i1]
    exact z i i0 i1
theorem RI_rep (hI : VI s V) (h : RI s V v S u s2 V2) (u0 : 0 ≤ u) (u1 : u < 12) (hu : s u = 1) (uv : u ≠ v) (v0 : 0 ≤ v) (v1 : v < 12) (hs : s v = 0) (hk : sbK V2 (V2 u)) (hn : ∀ i, 0 ≤ i → i < 13 → V3 u i = sbT V2 (V2 u) i / 65536) (ho : ∀ w, 0 ≤ w → w < 12 → w ≠ u → vis (V3 w) (V2 w) ∧ s3 w = s2 w) (hl : stl (V3 u) (s3 u)) : RI s V v S (u + 1) s3 V3 := by
  have e := RI_sb hI h u0 u1 uv v0 v1 hs
  have k := (RI_sK hI h u0 u1 uv v0 v1 hs).mp hk
  intro w w0 w1
  obtain ⟨a, b, c⟩ := h w w0 w1
  by_cases wu : w = u
  · subst wu
    refine ⟨fun z => absurd z uv, fun z y x => ⟨fun i i0 i1 => by rw [hn i i0 i1, e i i0 i1], hl, k⟩, fun z y => ?_⟩
    rcases y with y | y
    · exact absurd hu y
    · omega
  · obtain ⟨o1, o2⟩ := ho w w0 w1 wu
    refine ⟨fun z => ?_, fun z y x => ?_, fun z y => ?_⟩
    · obtain ⟨q1, q2⟩ := a z
      exact ⟨fun i i0 i1 => (o1 i i0 i1).trans (q1 i i0 i1), by rw [o2]; exact q2⟩
    · obtain ⟨q1, q2, q3⟩ := b z (by omega) x
      exact ⟨fun i i0 i1 => (o1 i i0 i1).trans (q1 i i0 i1), by rw [o2]; exact stl_v (vis_s o1) q2, q3⟩
    · obtain ⟨q1, q2⟩ := c z (y.imp id (fun q => by omega))
      exact ⟨fun i i0 i1 => (o1 i i0 i1).trans (q1 i i0 i1), o2.trans q2⟩
end RIS
theorem RI_0 {s s2 : Int → Int} {V V2 : Int → Int → Int} {S : Int → Int} {v x : Int} (hx : stl S x) (hv : vis (V2 v) S) (hs : s2 v = x) (ho : ∀ w, 0 ≤ w → w < 12 → w ≠ v → vis (V2 w) (V w) ∧ s2 w = s w) : RI s V v S 0 s2 V2 := by
  intro w w0 w1
  refine ⟨fun z => ?_, fun z y => by omega, fun z _ => ho w w0 w1 z⟩
  rw [z]
  exact ⟨hv, by rw [hs]; exact hx⟩
theorem RI_inr {s s2 : Int → Int} {V V2 : Int → Int → Int} {S : Int → Int} {v u : Int} (hI : VI s V) (h : RI s V v S u s2 V2) (hi : inr S) : ∀ w, 0 ≤ w → w < 12 → inr (V2 w) := by
  intro w w0 w1
  obtain ⟨a, b, c⟩ := h w w0 w1
  by_cases wv : w = v
  · exact inr_v (a wv).1 hi
  · rcases Classical.em (s w = 1 ∧ w < u) with z | z
    · obtain ⟨q1, q2, q3⟩ := b wv z.2 z.1
      intro i i0 i1
      rw [q1 i i0 i1]
      exact (q3 i i0 i1).2
    · have z2 : s w ≠ 1 ∨ u ≤ w := by
        rcases Classical.em (s w = 1) with y | y
        · exact Or.inr (by rcases Classical.em (w < u) with x | x; exact absurd ⟨y, x⟩ z; omega)
        · exact Or.inl y
      exact inr_v (c wv z2).1 (hI w w0 w1).1
theorem cV_44 (A : Nat → Int → Int) (g : Int → Int) : cV (va_up A 44 g) = cV A := cV_fr (fun k h _ => va_up_ne _ _ (by omega))
theorem tV43_f {k : Nat} (h : k < 44 ∨ 70 ≤ k) : tV43 k = false := by
  unfold tV43
  simp
  omega
theorem tBef_f {k : Nat} (h : k < 434 ∨ 460 ≤ k) : tBef k = false := by
  unfold tBef
  simp
  omega
theorem tVar_f {k : Nat} (h : k < 44 ∨ 74 ≤ k) : tVar k = false := by
  unfold tVar
  simp
  omega
/-! the choice of what is solved for: n (below 0: none yet), its size g, among those below v -/
def CS (D : Int → Int) (n g v : Int) : Prop := (n < 0 → g = 0 ∧ ∀ u, 0 ≤ u → u < v → ¬ pw (D u)) ∧ (0 ≤ n → n < v ∧ pw (D n) ∧ g = ((D n).natAbs : Int) ∧ ∀ u, 0 ≤ u → u < v → pw (D u) → (D u).natAbs ≤ (D n).natAbs ∧ ((D u).natAbs = (D n).natAbs → n ≤ u))
theorem CS_0 (D : Int → Int) {n : Int} (hn : n < 0) : CS D n 0 0 := ⟨fun _ => ⟨rfl, fun u a c => by omega⟩, fun z => by omega⟩
theorem CS_1 {D : Int → Int} {n g v y : Int} (h : CS D n g v) (v0 : 0 ≤ v) (hy : y = ((D v).natAbs : Int)) (hp : ∃ k : Nat, (D v).natAbs = 2 ^ k) (hm : y ≤ 68719476736) (hg : g < y) : CS D v y (v + 1) := by
  have hpw : pw (D v) := ⟨by omega, by omega, hp⟩
  refine ⟨fun z => by omega, fun _ => ⟨by omega, hpw, hy, fun u u0 u1 hu => ?_⟩⟩
  by_cases e : u = v
  · rw [e]; exact ⟨Nat.le_refl _, fun _ => Int.le_refl _⟩
  · by_cases hn : n < 0
    · exact absurd hu ((h.1 hn).2 u u0 (by omega))
    · obtain ⟨a, b, c, d⟩ := h.2 (by omega)
      have q := (d u u0 (by omega) hu).1
      exact ⟨by omega, fun z => by omega⟩
theorem CS_2 {D : Int → Int} {n g v y : Int} (h : CS D n g v) (v0 : 0 ≤ v) (hy : y = ((D v).natAbs : Int)) (hc : (¬ ∃ k : Nat, (D v).natAbs = 2 ^ k) ∨ 68719476736 < y ∨ y ≤ g) : CS D n g (v + 1) := by
  have hc2 : ¬ pw (D v) ∨ y ≤ g := by
    rcases hc with z | z | z
    · exact Or.inl (fun q => z q.2.2)
    · exact Or.inl (fun q => by have a := q.1; have b := q.2.1; omega)
    · exact Or.inr z
  refine ⟨fun z => ?_, fun z => ?_⟩
  · obtain ⟨a, b⟩ := h.1 z
    refine ⟨a, fun u u0 u1 hu => ?_⟩
    by_cases e : u = v
    · rw [e] at hu
      rcases hc2 with q | q
      · exact q hu
      · have := pw_nz hu
        omega
    · exact b u u0 (by omega) hu
  · obtain ⟨a, b, c, d⟩ := h.2 z
    refine ⟨by omega, b, c, fun u u0 u1 hu => ?_⟩
    by_cases e : u = v
    · rw [e] at hu ⊢
      rcases hc2 with q | q
      · exact absurd hu q
      · exact ⟨by omega, fun _ => by omega⟩
    · exact d u u0 (by omega) hu
theorem CS_p {D : Int → Int} {n g : Int} (h : CS D n g 12) (hn : 0 ≤ n) : PVt D n := by
  obtain ⟨a, b, c, d⟩ := h.2 hn
  exact ⟨hn, a, b, d⟩
theorem CS_n {D : Int → Int} {n g : Int} (h : CS D n g 12) (hn : n < 0) : PV0 D := (h.1 hn).2
theorem v_Lo_bitCount_i (G : jG) (d b : Nat) (x : Int) (I : Nat → Nat → Int) (A : Nat → Int → Int) (h0 : 0 ≤ x) (h1 : x < 1099511627776) : cct G Y_Lo_bitCount d b [.long (jL x)] I A (fun rv I2 A2 => ∃ y : Int, rv = some (.int (jI y)) ∧ (0 ≤ y ∧ y ≤ 127) ∧ I2 = I ∧ A2 = A ∧ (y = 1 ↔ ∃ k : Nat, x.natAbs = 2 ^ k)) := by
  obtain ⟨X, rfl⟩ := Int.eq_ofNat_of_zero_le h0
  have hX : X < 1099511627776 := by omega
  have h := v_Lo_bitCount_x G d b X I A hX
  intro f0 sz
  refine jct_mono (h f0 sz) (fun rv f' sz' hq => ?_)
  obtain ⟨I', A', e1, e2, e3, e4, e5⟩ := hq
  refine ⟨I', A', e1, e2, ((bcN X : Nat) : Int), e3, ?_, e4, e5, ?_⟩
  · have h2 : bcN X < 128 := Nat.mod_lt _ (by decide)
    omega
  · have h3 := bcN_1 hX
    rw [show (X : Int).natAbs = X by omega, ← h3]
    omega
theorem rpK_v {F S S2 : Int → Int} {v : Int} (h : vis S S2) (hk : rpK F v S) : rpK F v S2 := fun i i0 i1 => by rw [← rpT_v h i0 i1]; exact hk i i0 i1
/-! the equations of a statement, one after another: the class's loop -/
def tEA (k : Nat) : Bool := tVar k || tBef k
theorem tEA_b {k : Nat} (h : tEA k = false) : tBef k = false := by
  unfold tEA at h
  simp at h
  exact h.2
theorem tEA_v2 {k : Nat} (h : tEA k = false) : tVar k = false := by
  unfold tEA at h
  simp at h
  exact h.1
theorem tEA_v {k : Nat} (h : tEA k = false) : tV43 k = false := by
  have h1 := tEA_v2 h
  unfold tVar at h1
  unfold tV43
  simp at h1 ⊢
  omega
/-- what was kept before the equations -/
def cBf (A B : Nat → Int → Int) : Prop := ∀ u : Int, 0 ≤ u → u < 12 → B 434 u = A 44 u ∧ ∀ z, 0 ≤ z → z < 13 → B (437 + 2 * u.toNat) z = A (47 + 2 * u.toNat) z
theorem cBf_fr {A B B2 : Nat → Int → Int} (h : cBf A B) (e : ∀ k, 434 ≤ k → B2 k = B k) : cBf A B2 := fun u u0 u1 => by
  rw [e 434 (by omega), e (437 + 2 * u.toNat) (by omega)]
  exact h u u0 u1
theorem EQT_v {s s2 s3 : Int → Int} {V V2 V3 : Int → Int → Int} {F G F2 G2 : Int → Int} {e : Int} (hF : vis F F2) (hG : vis G G2) (h : EQT s V F G e s2 V2) : EQT s V F2 G2 e s2 V2 := by
  have eb : ∀ {X Y : Int → Int}, vis X Y → ∀ i, sbT V X i = sbT V Y i := fun {X Y} hv i => by
    unfold sbT
    rw [hv 12 (by decide) (by decide), sm_c 12 (fun v a c => by rw [hv v a (by omega)])]
  have ek : ∀ {X Y : Int → Int}, vis X Y → (sbK V X ↔ sbK V Y) := fun {X Y} hv => by
    unfold sbK
    constructor
    · intro z i a c
      rw [← eb hv i]
      exact z i a c
    · intro z i a c
      rw [eb hv i]
      exact z i a c
  rcases h with ⟨a, b⟩ | ⟨D, ⟨d1, d2, d3⟩, h⟩
  · exact Or.inl ⟨a, fun z => b ⟨(ek hF).mpr z.1, (ek hG).mpr z.2⟩⟩
  · exact Or.inr ⟨D, ⟨(ek hF).mp d1, (ek hG).mp d2, fun i a c => by rw [d3 i a c, eb hF i, eb hG i]⟩, h⟩
theorem EA_go {B : Nat → Int → Int} {fs : List (Int → Int)} {k e2 : Int} {s s1 s2 : Int → Int} {V V1 V2 : Int → Int → Int} (hk : cKp B fs) (k0 : 1 ≤ k) (k1 : k < (fs.length : Int)) (hE : EQT s V (B (76 + 2 * (k - 1).toNat)) (B (76 + 2 * k.toNat)) 0 s1 V1) (h : EA (fs.drop k.toNat) s1 V1 e2 s2 V2) : EA (fs.drop (k - 1).toNat) s V e2 s2 V2 := by
  obtain ⟨n, rfl⟩ := Int.eq_ofNat_of_zero_le (show 0 ≤ k by omega)
  have e1 : ((n : Int) - 1).toNat = n - 1 := by omega
  have e2 : ((n : Int)).toNat = n := by omega
  rw [e1] at hE ⊢
  rw [e2] at hE h
  have n1 : n - 1 < fs.length := by omega
  have n2 : n < fs.length := by omega
  have d1 : fs.drop (n - 1) = fs[n - 1] :: fs[n] :: fs.drop (n + 1) := by
    rw [List.drop_eq_getElem_cons n1, show n - 1 + 1 = n by omega, List.drop_eq_getElem_cons n2]
  have d2 : fs.drop n = fs[n] :: fs.drop (n + 1) := List.drop_eq_getElem_cons n2
  rw [d1]
  rw [d2] at h
  exact ⟨0, s1, V1, EQT_v (s3 := s) (V3 := V) (hk (n - 1) _ (List.getElem?_eq_getElem n1)) (hk n _ (List.getElem?_eq_getElem n2)) hE, Or.inr ⟨rfl, h⟩⟩
theorem EA_err {B : Nat → Int → Int} {fs : List (Int → Int)} {k e : Int} {s s1 s2 : Int → Int} {V V1 V2 : Int → Int → Int} (hk : cKp B fs) (k0 : 1 ≤ k) (k1 : k < (fs.length : Int)) (hE : EQT s V (B (76 + 2 * (k - 1).toNat)) (B (76 + 2 * k.toNat)) e s1 V1) (he : e ≠ 0) : EA (fs.drop (k - 1).toNat) s V e s2 V2 := by
  obtain ⟨n, rfl⟩ := Int.eq_ofNat_of_zero_le (show 0 ≤ k by omega)
  have e1 : ((n : Int) - 1).toNat = n - 1 := by omega
  have e2 : ((n : Int)).toNat = n := by omega
  rw [e1] at hE ⊢
  rw [e2] at hE
  have n1 : n - 1 < fs.length := by omega
  have n2 : n < fs.length := by omega
  have d1 : fs.drop (n - 1) = fs[n - 1] :: fs[n] :: fs.drop (n + 1) := by
    rw [List.drop_eq_getElem_cons n1, show n - 1 + 1 = n by omega, List.drop_eq_getElem_cons n2]
  rw [d1]
  exact ⟨e, s1, V1, EQT_v (s3 := s) (V3 := V) (hk (n - 1) _ (List.getElem?_eq_getElem n1)) (hk n _ (List.getElem?_eq_getElem n2)) hE, Or.inl ⟨he, rfl⟩⟩
theorem EA_end {fs : List (Int → Int)} {s : Int → Int} {V : Int → Int → Int} (h : fs.length ≤ 1) : EA fs s V 0 s V := by
  rcases fs with _ | ⟨F, _ | ⟨G, fs⟩⟩
  · exact ⟨rfl, fun u _ _ => ⟨rfl, fun _ _ _ => rfl⟩⟩
  · exact ⟨rfl, fun u _ _ => ⟨rfl, fun _ _ _ => rfl⟩⟩
  · simp at h

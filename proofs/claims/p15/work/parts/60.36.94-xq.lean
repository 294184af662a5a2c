/-! EQUATIONS: replacing, solving, what the variables equal (s: their states, V: their forms) -/
def sm (f : Int → Int) : Nat → Int
  | 0 => 0
  | n + 1 => sm f n + f (n : Int)
theorem sm_c {f g : Int → Int} : ∀ n : Nat, (∀ v : Int, 0 ≤ v → v < n → f v = g v) → sm f n = sm g n
  | 0, _ => rfl
  | n + 1, h => by
    show sm f n + f (n : Int) = sm g n + g (n : Int)
    rw [sm_c n (fun v a c => h v a (by omega)), h n (by omega) (by omega)]
theorem sm_z {f : Int → Int} : ∀ n : Nat, (∀ v : Int, 0 ≤ v → v < n → f v = 0) → sm f n = 0
  | 0, _ => rfl
  | n + 1, h => by
    show sm f n + f (n : Int) = 0
    rw [sm_z n (fun v a c => h v a (by omega)), h n (by omega) (by omega)]
    rfl
theorem sm_one {f : Int → Int} {i : Int} : ∀ n : Nat, 0 ≤ i → i < n → (∀ v : Int, 0 ≤ v → v < n → v ≠ i → f v = 0) → sm f n = f i
  | 0, a, c, _ => by omega
  | n + 1, a, c, h => by
    show sm f n + f (n : Int) = f i
    by_cases e : i = n
    · rw [sm_z n (fun v a c => h v a (by omega) (by omega)), e]
      omega
    · rw [sm_one n a (by omega) (fun v a c ne => h v a (by omega) ne), h n (by omega) (by omega) (fun z => e z.symm)]
      omega
theorem sm_a (f g : Int → Int) : ∀ n : Nat, sm (fun v => f v + g v) n = sm f n + sm g n
  | 0 => rfl
  | n + 1 => by
    show sm (fun v => f v + g v) n + (f n + g n) = (sm f n + f n) + (sm g n + g n)
    rw [sm_a f g n]
    omega
theorem sm_m (f : Int → Int) (c : Int) : ∀ n : Nat, sm (fun v => f v * c) n = sm f n * c
  | 0 => by show (0 : Int) = 0 * c; omega
  | n + 1 => by
    show sm (fun v => f v * c) n + f n * c = (sm f n + f n) * c
    rw [sm_m f c n, Int.add_mul]
def un (v i : Int) : Int := if i = v then 65536 else 0
/-- F with each variable replaced, times 65536 -/
def sbT (V : Int → Int → Int) (F : Int → Int) (i : Int) : Int := (if i = 12 then F 12 * 65536 else 0) + sm (fun v => F v * V v i) 12
def sbK (V : Int → Int → Int) (F : Int → Int) : Prop := ∀ i, 0 ≤ i → i < 13 → sbT V F i % 65536 = 0 ∧ gin (sbT V F i / 65536)
/-- F with variable v replaced by S, times 65536 -/
def rpT (F : Int → Int) (v : Int) (S : Int → Int) (i : Int) : Int := (if i = v then 0 else F i * 65536) + F v * S i
def rpK (F : Int → Int) (v : Int) (S : Int → Int) : Prop := ∀ i, 0 ≤ i → i < 13 → rpT F v S i % 65536 = 0 ∧ gin (rpT F v S i / 65536)
def VI (s : Int → Int) (V : Int → Int → Int) : Prop := ∀ v, 0 ≤ v → v < 12 → inr (V v) ∧ (s v = 0 ∨ s v = 1 ∨ s v = 2) ∧ (s v = 0 → ∀ i, 0 ≤ i → i < 13 → V v i = un v i) ∧ (s v = 1 → ¬ fZ (V v)) ∧ (s v = 2 → fZ (V v)) ∧ ∀ w, 0 ≤ w → w < 12 → V v w ≠ 0 → s w = 0
/-- S is what v equals where D is 0 -/
def SL (D : Int → Int) (v : Int) (S : Int → Int) : Prop := S v = 0 ∧ ∀ i, 0 ≤ i → i < 13 → i ≠ v → S i * D v = -(D i * 65536)
def pw (x : Int) : Prop := -68719476736 ≤ x ∧ x ≤ 68719476736 ∧ ∃ k : Nat, x.natAbs = 2 ^ k
def PVt (D : Int → Int) (v : Int) : Prop := 0 ≤ v ∧ v < 12 ∧ pw (D v) ∧ ∀ u, 0 ≤ u → u < 12 → pw (D u) → (D u).natAbs ≤ (D v).natAbs ∧ ((D u).natAbs = (D v).natAbs → v ≤ u)
def PV0 (D : Int → Int) : Prop := ∀ u, 0 ≤ u → u < 12 → ¬ pw (D u)
def SVK (s : Int → Int) (V : Int → Int → Int) (D : Int → Int) (v : Int) (S : Int → Int) : Prop := SL D v S ∧ inr S ∧ ∀ u, 0 ≤ u → u < 12 → s u = 1 → rpK (V u) v S
def sEq (s : Int → Int) (V : Int → Int → Int) (s2 : Int → Int) (V2 : Int → Int → Int) : Prop := ∀ u, 0 ≤ u → u < 12 → s2 u = s u ∧ vis (V2 u) (V u)
def stl (F : Int → Int) (x : Int) : Prop := (fZ F → x = 2) ∧ (¬ fZ F → x = 1)
def SVR (s : Int → Int) (V : Int → Int → Int) (v : Int) (S : Int → Int) (s2 : Int → Int) (V2 : Int → Int → Int) : Prop := ∀ u, 0 ≤ u → u < 12 →
  (u = v → vis (V2 u) S ∧ stl S (s2 u)) ∧ (u ≠ v → s u = 1 → (∀ i, 0 ≤ i → i < 13 → V2 u i = rpT (V u) v S i / 65536) ∧ stl (V2 u) (s2 u)) ∧ (u ≠ v → s u ≠ 1 → vis (V2 u) (V u) ∧ s2 u = s u)
def dif (V : Int → Int → Int) (F G D : Int → Int) : Prop := sbK V F ∧ sbK V G ∧ ∀ i, 0 ≤ i → i < 13 → D i = sbT V F i / 65536 - sbT V G i / 65536
/-- EQUATING F and G ends with e; without an error the variables are s2, V2 -/
def EQT (s : Int → Int) (V : Int → Int → Int) (F G : Int → Int) (e : Int) (s2 : Int → Int) (V2 : Int → Int → Int) : Prop :=
  (e = -9 ∧ ¬ (sbK V F ∧ sbK V G)) ∨ ∃ D : Int → Int, dif V F G D ∧ ((fZ D ∧ D 12 = 0 ∧ e = 0 ∧ sEq s V s2 V2) ∨ (fZ D ∧ D 12 ≠ 0 ∧ e = -10) ∨ (¬ fZ D ∧ PV0 D ∧ e = -11) ∨
    ∃ v : Int, ¬ fZ D ∧ PVt D v ∧ ((e = -9 ∧ ¬ ∃ S : Int → Int, SVK s V D v S) ∨ ∃ S : Int → Int, SVK s V D v S ∧ e = 0 ∧ SVR s V v S s2 V2))
section EQS
variable {s s2 : Int → Int} {V V2 : Int → Int → Int} {F G D S : Int → Int} {v e : Int}
theorem sb_nz (h : VI s V) {w : Int} (w0 : 0 ≤ w) (w1 : w < 12) (hne : sbT V F w ≠ 0) : s w = 0 := by
  rcases Classical.em (s w = 0) with a | a
  · exact a
  · exfalso
    apply hne
    unfold sbT
    rw [if_neg (by omega), sm_z 12 (fun u u0 u1 => ?_)]
    · rfl
    · have h1 := (h u u0 u1).2.2.2.2.2 w w0 w1
      rcases Classical.em (V u w = 0) with z | z
      · rw [z]; omega
      · exact absurd (h1 z) a
theorem dif_nz (h : VI s V) (hd : dif V F G D) {w : Int} (w0 : 0 ≤ w) (w1 : w < 12) (hne : D w ≠ 0) : s w = 0 := by
  rw [hd.2.2 w w0 (by omega)] at hne
  rcases Classical.em (sbT V F w = 0) with a | a
  · rcases Classical.em (sbT V G w = 0) with c | c
    · rw [a, c] at hne
      exact absurd rfl hne
    · exact sb_nz h w0 w1 c
  · exact sb_nz h w0 w1 a
theorem pw_nz {x : Int} (h : pw x) : x ≠ 0 := by
  intro z
  obtain ⟨_, _, k, hk⟩ := h
  rw [z] at hk
  have := Nat.two_pow_pos k
  simp at hk
  omega
theorem SL_nz (h : SL D v S) (hd : D v ≠ 0) {i : Int} (i0 : 0 ≤ i) (i1 : i < 13) (hne : S i ≠ 0) : i ≠ v ∧ D i ≠ 0 := by
  have hv : i ≠ v := fun z => hne (by rw [z]; exact h.1)
  refine ⟨hv, fun z => ?_⟩
  have h1 := h.2 i i0 i1 hv
  rw [z] at h1
  have h2 : S i * D v = 0 := by rw [h1]; rfl
  rcases Int.mul_eq_zero.mp h2 with a | a
  · exact hne a
  · exact hd a
theorem SL_u {S2 : Int → Int} (h : SL D v S) (h2 : SL D v S2) (hd : D v ≠ 0) : vis S S2 := by
  intro i i0 i1
  by_cases e : i = v
  · rw [e, h.1, h2.1]
  · have a := h.2 i i0 i1 e
    have c := h2.2 i i0 i1 e
    exact Int.eq_of_mul_eq_mul_right hd (a.trans c.symm)
theorem rpT_v {S2 : Int → Int} (h : vis S S2) {i : Int} (i0 : 0 ≤ i) (i1 : i < 13) : rpT F v S i = rpT F v S2 i := by
  unfold rpT
  rw [h i i0 i1]
theorem fZ_v (h : vis F G) : fZ F ↔ fZ G := by
  constructor
  · intro z i a c
    rw [← h i a (by omega)]
    exact z i a c
  · intro z i a c
    rw [h i a (by omega)]
    exact z i a c
theorem vis_s (h : vis F G) : vis G F := fun i a c => (h i a c).symm
theorem inr_v (h : vis F G) (hG : inr G) : inr F := fun i a c => by rw [h i a c]; exact hG i a c
theorem stl_v {x : Int} (h : vis F G) (hs : stl F x) : stl G x := ⟨fun z => hs.1 ((fZ_v h).mpr z), fun z => hs.2 (fun y => z ((fZ_v h).mp y))⟩
theorem stl_12 {x : Int} (h : stl F x) : x = 1 ∨ x = 2 := by
  rcases Classical.em (fZ F) with a | a
  · exact Or.inr (h.1 a)
  · exact Or.inl (h.2 a)
theorem VI_same (h : VI s V) (hs : sEq s V s2 V2) : VI s2 V2 := by
  intro u u0 u1
  obtain ⟨a1, a2, a3, a4, a5, a6⟩ := h u u0 u1
  obtain ⟨e1, e2⟩ := hs u u0 u1
  rw [e1]
  refine ⟨inr_v e2 a1, a2, fun z i i0 i1 => by rw [e2 i i0 i1]; exact a3 z i i0 i1, fun z y => a4 z ((fZ_v e2).mp y), fun z => (fZ_v e2).mpr (a5 z), fun w w0 w1 hne => ?_⟩
  rw [(hs w w0 w1).1]
  refine a6 w w0 w1 ?_
  rw [← e2 w w0 (by omega)]
  exact hne
theorem VI_solve (h : VI s V) (hd : dif V F G D) (hp : PVt D v) (hk : SVK s V D v S) (hr : SVR s V v S s2 V2) : VI s2 V2 := by
  obtain ⟨v0, v1, hpv, _⟩ := hp
  have dv := pw_nz hpv
  obtain ⟨hl, hi, hq⟩ := hk
  have key : ∀ w, 0 ≤ w → w < 12 → w ≠ v → s w = 0 → s2 w = 0 := fun w w0 w1 wv ws => by rw [((hr w w0 w1).2.2 wv (by omega)).2]; exact ws
  have sv : s v = 0 := dif_nz h hd v0 v1 dv
  have sn : ∀ w, 0 ≤ w → w < 12 → S w ≠ 0 → w ≠ v ∧ s w = 0 := fun w w0 w1 ne => by
    have h1 := SL_nz hl dv w0 (by omega) ne
    exact ⟨h1.1, dif_nz h hd w0 w1 h1.2⟩
  intro u u0 u1
  obtain ⟨r1, r2, r3⟩ := hr u u0 u1
  obtain ⟨a1, a2, a3, a4, a5, a6⟩ := h u u0 u1
  by_cases uv : u = v
  · obtain ⟨e1, e2⟩ := r1 uv
    have e3 := stl_12 e2
    refine ⟨inr_v e1 hi, by omega, fun z => by omega, fun z y => ?_, fun z => ?_, fun w w0 w1 ne => ?_⟩
    · have := e2.1 ((fZ_v e1).mp y); omega
    · rcases Classical.em (fZ S) with q | q
      · exact (fZ_v e1).mpr q
      · have := e2.2 q; omega
    · rw [e1 w w0 (by omega)] at ne
      have h1 := sn w w0 w1 ne
      exact key w w0 w1 h1.1 h1.2
  · by_cases us : s u = 1
    · obtain ⟨e1, e2⟩ := r2 uv us
      have e3 := stl_12 e2
      have e4 := hq u u0 u1 us
      refine ⟨fun i i0 i1 => by rw [e1 i i0 i1]; exact (e4 i i0 i1).2, by omega, fun z => by omega, fun z y => ?_, fun z => ?_, fun w w0 w1 ne => ?_⟩
      · have := e2.1 y; omega
      · rcases Classical.em (fZ (V2 u)) with q | q
        · exact q
        · have := e2.2 q; omega
      · rw [e1 w w0 (by omega)] at ne
        have ne2 : rpT (V u) v S w ≠ 0 := fun z => ne (by rw [z]; rfl)
        unfold rpT at ne2
        by_cases wv : w = v
        · exfalso
          apply ne2
          rw [if_pos wv, wv, hl.1]
          omega
        · rw [if_neg wv] at ne2
          rcases Classical.em (V u w = 0) with q | q
          · rcases Classical.em (S w = 0) with q2 | q2
            · exfalso
              apply ne2
              rw [q, q2]
              omega
            · exact key w w0 w1 wv (sn w w0 w1 q2).2
          · exact key w w0 w1 wv (a6 w w0 w1 q)
    · obtain ⟨e1, e2⟩ := r3 uv us
      rw [e2]
      refine ⟨inr_v e1 a1, a2, fun z i i0 i1 => by rw [e1 i i0 i1]; exact a3 z i i0 i1, fun z => absurd z us, fun z => (fZ_v e1).mpr (a5 z), fun w w0 w1 ne => ?_⟩
      rw [e1 w w0 (by omega)] at ne
      refine key w w0 w1 (fun wv => ?_) (a6 w w0 w1 ne)
      rcases (show s u = 0 ∨ s u = 2 by omega) with q | q
      · have h1 := a3 q w w0 (by omega)
        unfold un at h1
        rw [if_neg (by omega)] at h1
        exact ne h1
      · exact ne (a5 q w w0 w1)
/-- what the variables equal stays well made -/
theorem VI_eq (h : VI s V) (hE : EQT s V F G 0 s2 V2) : VI s2 V2 := by
  rcases hE with ⟨z, _⟩ | ⟨D, hd, ⟨_, _, _, hs⟩ | ⟨_, _, z⟩ | ⟨_, _, z⟩ | ⟨v, _, hp, ⟨z, _⟩ | ⟨S, hk, _, hr⟩⟩⟩
  · exact absurd z (by decide)
  · exact VI_same h hs
  · exact absurd z (by decide)
  · exact absurd z (by decide)
  · exact absurd z (by decide)
  · exact VI_solve h hd hp hk hr
theorem PV_u {w : Int} (h : PVt D v) (h2 : PVt D w) : v = w := by
  obtain ⟨a1, a2, a3, a4⟩ := h
  obtain ⟨c1, c2, c3, c4⟩ := h2
  have h1 := a4 w c1 c2 c3
  have h3 := c4 v a1 a2 a3
  have e : (D w).natAbs = (D v).natAbs := by omega
  have := h1.2 e
  have := h3.2 e.symm
  omega
theorem pw_v {D2 : Int → Int} (h : vis D D2) {u : Int} (u0 : 0 ≤ u) (u1 : u < 12) : pw (D u) ↔ pw (D2 u) := by rw [h u u0 (by omega)]
theorem PVt_v {D2 : Int → Int} (h : vis D D2) (hp : PVt D v) : PVt D2 v := by
  obtain ⟨a1, a2, a3, a4⟩ := hp
  refine ⟨a1, a2, (pw_v h a1 a2).mp a3, fun u u0 u1 hu => ?_⟩
  rw [← h u u0 (by omega), ← h v a1 (by omega)]
  exact a4 u u0 u1 ((pw_v h u0 u1).mpr hu)
theorem PV0_v {D2 : Int → Int} (h : vis D D2) (hp : PV0 D) : PV0 D2 := fun u u0 u1 hu => hp u u0 u1 ((pw_v h u0 u1).mpr hu)
theorem SL_v {D2 : Int → Int} (h : vis D D2) (v0 : 0 ≤ v) (v1 : v < 13) (hp : SL D v S) : SL D2 v S := ⟨hp.1, fun i i0 i1 hv => by rw [← h i i0 i1, ← h v v0 v1]; exact hp.2 i i0 i1 hv⟩
theorem SVK_v {D2 : Int → Int} (h : vis D D2) (v0 : 0 ≤ v) (v1 : v < 13) (hp : SVK s V D v S) : SVK s V D2 v S := ⟨SL_v h v0 v1 hp.1, hp.2⟩
/-- what a way of EQUATING says, read as the reference reads it -/
theorem EQ_rng (h : EQT s V F G e s2 V2) (hn : ¬ (sbK V F ∧ sbK V G)) : e = -9 := by
  rcases h with ⟨z, _⟩ | ⟨D, hd, _⟩
  · exact z
  · exact absurd ⟨hd.1, hd.2.1⟩ hn
theorem EQ_pl (h : EQT s V F G e s2 V2) (hd : dif V F G D) (hz : fZ D) : (D 12 = 0 → e = 0 ∧ sEq s V s2 V2) ∧ (D 12 ≠ 0 → e = -10) := by
  rcases h with ⟨_, z⟩ | ⟨D2, hd2, hc⟩
  · exact absurd ⟨hd.1, hd.2.1⟩ z
  · have hv : vis D D2 := fun i a c => by rw [hd.2.2 i a c, hd2.2.2 i a c]
    have h12 := hv 12 (by decide) (by decide)
    have hz2 := (fZ_v hv).mp hz
    rcases hc with ⟨_, a, b, c⟩ | ⟨_, a, b⟩ | ⟨a, _⟩ | ⟨v, a, _⟩
    · exact ⟨fun _ => ⟨b, c⟩, fun z => absurd (h12.trans a) z⟩
    · exact ⟨fun z => absurd (h12.symm.trans z) a, fun _ => b⟩
    · exact absurd hz2 a
    · exact absurd hz2 a
theorem EQ_hd (h : EQT s V F G e s2 V2) (hd : dif V F G D) (hz : ¬ fZ D) (hp : PV0 D) : e = -11 := by
  rcases h with ⟨_, z⟩ | ⟨D2, hd2, hc⟩
  · exact absurd ⟨hd.1, hd.2.1⟩ z
  · have hv : vis D D2 := fun i a c => by rw [hd.2.2 i a c, hd2.2.2 i a c]
    have hz2 : ¬ fZ D2 := fun z => hz ((fZ_v hv).mpr z)
    rcases hc with ⟨a, _⟩ | ⟨a, _⟩ | ⟨_, _, b⟩ | ⟨v, _, b, _⟩
    · exact absurd a hz2
    · exact absurd a hz2
    · exact b
    · exact absurd b.2.2.1 ((PV0_v hv hp) v b.1 b.2.1)
theorem EQ_sv (h : EQT s V F G e s2 V2) (hd : dif V F G D) (hz : ¬ fZ D) (hp : PVt D v) : ((¬ ∃ S : Int → Int, SVK s V D v S) → e = -9) ∧ ∀ S : Int → Int, SVK s V D v S → e = 0 ∧ SVR s V v S s2 V2 := by
  rcases h with ⟨_, z⟩ | ⟨D2, hd2, hc⟩
  · exact absurd ⟨hd.1, hd.2.1⟩ z
  · have hv : vis D D2 := fun i a c => by rw [hd.2.2 i a c, hd2.2.2 i a c]
    have hz2 : ¬ fZ D2 := fun z => hz ((fZ_v hv).mpr z)
    have hp2 := PVt_v hv hp
    rcases hc with ⟨a, _⟩ | ⟨a, _⟩ | ⟨_, b, _⟩ | ⟨w, _, b, hc⟩
    · exact absurd a hz2
    · exact absurd a hz2
    · exact absurd hp2.2.2.1 (b v hp2.1 hp2.2.1)
    · obtain rfl := PV_u hp2 b
      have v1 : v < 13 := by have := hp.2.1; omega
      rcases hc with ⟨a, c⟩ | ⟨S2, a, c, g⟩
      · exact ⟨fun _ => a, fun S hS => absurd ⟨S, SVK_v hv hp.1 v1 hS⟩ c⟩
      · refine ⟨fun z => absurd ⟨S2, SVK_v (vis_s hv) hp.1 v1 a⟩ z, fun S hS => ⟨c, ?_⟩⟩
        have hu : vis S2 S := SL_u a.1 (SL_v hv hp.1 v1 hS.1) (pw_nz hp2.2.2.1)
        intro u u0 u1
        obtain ⟨r1, r2, r3⟩ := g u u0 u1
        refine ⟨fun z => ?_, fun z y => ?_, r3⟩
        · obtain ⟨q1, q2⟩ := r1 z
          exact ⟨fun i i0 i1 => (q1 i i0 i1).trans (hu i i0 i1), stl_v hu q2⟩
        · obtain ⟨q1, q2⟩ := r2 z y
          exact ⟨fun i i0 i1 => by rw [q1 i i0 i1, rpT_v hu i0 i1], q2⟩
/-- replacing all where all but v are free is replacing v -/
theorem sb_rp (v0 : 0 ≤ v) (v1 : v < 12) (hv : vis (V v) S) (h : ∀ w, 0 ≤ w → w < 12 → w ≠ v → F w ≠ 0 → ∀ i, 0 ≤ i → i < 13 → V w i = un w i) : ∀ i, 0 ≤ i → i < 13 → sbT V F i = rpT F v S i := by
  intro i i0 i1
  unfold sbT rpT
  have e1 : sm (fun w => F w * V w i) 12 = sm (fun w => (if w = v then F v * S i else 0) + (if w = v then 0 else F w * un w i)) 12 := by
    apply sm_c
    intro w w0 w1
    by_cases e : w = v
    · rw [e, if_pos rfl, if_pos rfl, hv i i0 i1]
      omega
    · rw [if_neg e, if_neg e]
      rcases Classical.em (F w = 0) with z | z
      · rw [z]; omega
      · rw [h w w0 (by omega) e z i i0 i1]; omega
  rw [e1, sm_a, sm_one (i := v) 12 v0 (by omega) (fun w _ _ e => if_neg e), if_pos rfl]
  by_cases e12 : i = 12
  · rw [if_pos e12, if_neg (by omega), sm_z 12 (fun w w0 w1 => ?_), e12]
    · omega
    · by_cases e : w = v
      · rw [if_pos e]
      · rw [if_neg e]
        unfold un
        rw [if_neg (by omega)]
        omega
  · rw [if_neg e12, sm_one (i := i) 12 i0 (by omega) (fun w w0 w1 e => ?_)]
    · by_cases e : i = v
      · rw [if_pos e, if_pos e]
        omega
      · rw [if_neg e, if_neg e]
        unfold un
        rw [if_pos rfl]
        omega
    · by_cases e2 : w = v
      · rw [if_pos e2]
      · rw [if_neg e2]
        unfold un
        rw [if_neg (fun z => e z.symm)]
        omega
end EQS
/-- the equations of a statement, one after another -/
def EA : List (Int → Int) → (Int → Int) → (Int → Int → Int) → Int → (Int → Int) → (Int → Int → Int) → Prop
  | F :: G :: fs => fun s V e s2 V2 => ∃ (e1 : Int) (s1 : Int → Int) (V1 : Int → Int → Int), EQT s V F G e1 s1 V1 ∧ ((e1 ≠ 0 ∧ e = e1) ∨ (e1 = 0 ∧ EA (G :: fs) s1 V1 e s2 V2))
  | _ => fun s V e s2 V2 => e = 0 ∧ sEq s V s2 V2

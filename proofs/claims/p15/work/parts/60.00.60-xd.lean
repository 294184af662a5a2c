/-! frames over all arrays -/
def cPx (S T : List Nat) (I : Nat → Nat → Int) (A : Nat → Int → Int) (J : Nat → Nat → Int) (B : Nat → Int → Int) : Prop := cSI J ∧ cSA B ∧ (∀ k j, S.contains (k * 16 + j) = false → J k j = I k j) ∧ (∀ k, T.contains k = false → True → B k = A k)
theorem cPx.po {S T : List Nat} {I J : Nat → Nat → Int} {A B : Nat → Int → Int} (h : cPx S T I A J B) : cPo S T I A J B := ⟨h.1, h.2.1, h.2.2.1, fun k hk _ => h.2.2.2 k hk trivial⟩
theorem cPx.refl {S T : List Nat} {I : Nat → Nat → Int} {A : Nat → Int → Int} (h : cSI I) (h2 : cSA A) : cPx S T I A I A := ⟨h, h2, fun _ _ _ => rfl, fun _ _ _ => rfl⟩
theorem cPx.I {S T : List Nat} {I J : Nat → Nat → Int} {A B : Nat → Int → Int} (k j : Nat) (v : Int) (h : cPx S T I A J B) (hk : S.contains (k * 16 + j) = true) (hv : cLo k j ≤ v ∧ v ≤ cHi k j) : cPx S T I A (cu J k j v) B :=
  have h1 := cPo.I k j v (cPx.po h) hk hv
  ⟨h1.1, h1.2.1, h1.2.2.1, h.2.2.2⟩
theorem cPx.A {S T : List Nat} {I J : Nat → Nat → Int} {A B : Nat → Int → Int} (k : Nat) (g : Int → Int) (h : cPx S T I A J B) (hk : T.contains k = true ∨ False) (hg : ∀ z, eLo k ≤ g z ∧ g z ≤ eHi k) : cPx S T I A J (va_up B k g) := by
  have hk2 := hk.elim id False.elim
  have h1 := cPo.A k g (cPx.po h) (Or.inl hk2) hg
  refine ⟨h1.1, h1.2.1, h1.2.2.1, fun q hq _ => ?_⟩
  rw [va_up_ne _ _ (fun e => by subst e; rw [hk2] at hq; cases hq)]
  exact h.2.2.2 q hq trivial
theorem cPx.trans {S T S' T' : List Nat} {I J I2 : Nat → Nat → Int} {A B A2 : Nat → Int → Int} (h : cPx S T I A J B) (h2 : cPx S' T' J B I2 A2) (hS : S'.all (fun x => S.contains x) = true) (hT : T'.all (fun x => T.contains x) = true) : cPx S T I A I2 A2 := by
  have h1 := cPo.trans (cPx.po h) (cPx.po h2) hS hT
  refine ⟨h1.1, h1.2.1, h1.2.2.1, fun k hk _ => ?_⟩
  refine (h2.2.2.2 k ?_ trivial).trans (h.2.2.2 k hk trivial)
  cases hc : T'.contains k with
  | false => rfl
  | true =>
    have h3 := List.all_eq_true.mp hT k (List.contains_iff_mem.mp hc)
    rw [hk] at h3; cases h3
/-- .. and with a test in the place of a list -/
def cPf (S : List Nat) (T : Nat → Bool) (I : Nat → Nat → Int) (A : Nat → Int → Int) (J : Nat → Nat → Int) (B : Nat → Int → Int) : Prop := cSI J ∧ cSA B ∧ (∀ k j, S.contains (k * 16 + j) = false → J k j = I k j) ∧ (∀ k, T k = false → True → B k = A k)
theorem cPf.refl {S : List Nat} {T : Nat → Bool} {I : Nat → Nat → Int} {A : Nat → Int → Int} (h : cSI I) (h2 : cSA A) : cPf S T I A I A := ⟨h, h2, fun _ _ _ => rfl, fun _ _ _ => rfl⟩
theorem cPf.I {S : List Nat} {T : Nat → Bool} {I J : Nat → Nat → Int} {A B : Nat → Int → Int} (k j : Nat) (v : Int) (h : cPf S T I A J B) (hk : S.contains (k * 16 + j) = true) (hv : cLo k j ≤ v ∧ v ≤ cHi k j) : cPf S T I A (cu J k j v) B := by
  have h1 : cPo S [] I B J B := ⟨h.1, h.2.1, h.2.2.1, fun _ _ _ => rfl⟩
  have h2 := cPo.I k j v h1 hk hv
  exact ⟨h2.1, h2.2.1, h2.2.2.1, h.2.2.2⟩
theorem cPf.A {S : List Nat} {T : Nat → Bool} {I J : Nat → Nat → Int} {A B : Nat → Int → Int} (k : Nat) (g : Int → Int) (h : cPf S T I A J B) (hk : T k = true ∨ False) (hg : ∀ z, eLo k ≤ g z ∧ g z ≤ eHi k) : cPf S T I A J (va_up B k g) := by
  have hk2 := hk.elim id False.elim
  refine ⟨h.1, fun q z => ?_, h.2.2.1, fun q hq _ => ?_⟩
  · by_cases e : q = k
    · subst e; rw [va_up_self]; exact hg z
    · rw [va_up_ne _ _ e]; exact h.2.1 q z
  · rw [va_up_ne _ _ (fun e => by subst e; rw [hk2] at hq; cases hq)]
    exact h.2.2.2 q hq trivial
theorem sub_c {U V : List Nat} (h : U.all (fun x => V.contains x) = true) (k : Nat) (hk : V.contains k = false) : U.contains k = false := by
  cases hc : U.contains k with
  | false => rfl
  | true =>
    have h1 := List.all_eq_true.mp h k (List.contains_iff_mem.mp hc)
    rw [hk] at h1; cases h1
theorem cPf.trans {S S' : List Nat} {T T' : Nat → Bool} {I J I2 : Nat → Nat → Int} {A B A2 : Nat → Int → Int} (h : cPf S T I A J B) (h2 : cPf S' T' J B I2 A2) (hS : S'.all (fun x => S.contains x) = true) (hT : ∀ k, T k = false → T' k = false) : cPf S T I A I2 A2 :=
  ⟨h2.1, h2.2.1, fun k j hk => (h2.2.2.1 k j (sub_c hS _ hk)).trans (h.2.2.1 k j hk), fun k hk _ => (h2.2.2.2 k (hT k hk) trivial).trans (h.2.2.2 k hk trivial)⟩
theorem cPf.transx {S S' T' : List Nat} {T : Nat → Bool} {I J I2 : Nat → Nat → Int} {A B A2 : Nat → Int → Int} (h : cPf S T I A J B) (h2 : cPx S' T' J B I2 A2) (hS : S'.all (fun x => S.contains x) = true) (hT : T'.all (fun x => T x) = true) : cPf S T I A I2 A2 := by
  refine ⟨h2.1, h2.2.1, fun k j hk => (h2.2.2.1 k j (sub_c hS _ hk)).trans (h.2.2.1 k j hk), fun k hk _ => (h2.2.2.2 k ?_ trivial).trans (h.2.2.2 k hk trivial)⟩
  cases hc : T'.contains k with
  | false => rfl
  | true =>
    have h1 := List.all_eq_true.mp hT k (List.contains_iff_mem.mp hc)
    rw [hk] at h1; cases h1
theorem cTok_f {S : List Nat} {T : Nat → Bool} {I J : Nat → Nat → Int} {A B : Nat → Int → Int} (h : cPf S T I A J B) (hA : cTok A) (hT : cRows.all (fun k => !(T (k + 1)) && !(T (k + 2))) = true) : cTok B := by
  intro k hk z
  have h1 := List.all_eq_true.mp hT k (List.contains_iff_mem.mp hk)
  simp only [Bool.and_eq_true, Bool.not_eq_true'] at h1
  rw [h.2.2.2 (k + 1) h1.1 trivial, h.2.2.2 (k + 2) h1.2 trivial]
  exact hA k hk z
/-! EXPANDING, exactly. The class's memory, seen as the reference's: a row of n tokens (X, Y, D), the macros M -/
def vI (n : Int) : Nat → Int := fun _ => n
def vA (X Y D : Int → Int) (M : Nat → Int → Int) : Nat → Int → Int := fun k => if k = 22 then X else if k = 23 then Y else if k = 24 then D else M k
abbrev xW (n : Int) (X Y : Int → Int) (q w : Int) : Prop := q < n ∧ X q = 4 ∧ Y q = w
def xAe (n : Int) (X Y : Int → Int) (q : Int) : Int := gAe (vI n) (vA X Y X (fun _ => X)) q
def xEnd (n : Int) (X Y : Int → Int) (m : Nat) (q o : Int) : Int := gEnd (vI n) (vA X Y X (fun _ => X)) m q o
theorem xEnd_stop (n : Int) (X Y : Int → Int) (m : Nat) (q o : Int) (h : ¬ (q < n ∧ (0 < o ∨ (¬ xW n X Y q 5 ∧ ¬ xW n X Y q 4)))) : xEnd n X Y m q o = q := gEnd_stop (vI n) (vA X Y X (fun _ => X)) m q o h
theorem xEnd_go (n : Int) (X Y : Int → Int) (q o o2 : Int) (h : q < n ∧ (0 < o ∨ (¬ xW n X Y q 5 ∧ ¬ xW n X Y q 4))) (h3 : xW n X Y q 3 → o2 = o + 1) (h4 : xW n X Y q 4 → o2 = o - 1) (h5 : ¬ xW n X Y q 3 → ¬ xW n X Y q 4 → o2 = o) : xEnd n X Y (n - q).toNat q o = xEnd n X Y (n - (q + 1)).toNat (q + 1) o2 := by
  refine gEnd_go (vI n) (vA X Y X (fun _ => X)) q o o2 h ?_
  show (if xW n X Y q 3 then o + 1 else o) - (if xW n X Y q 4 then 1 else 0) = o2
  by_cases a : xW n X Y q 3
  · have a4 : ¬ xW n X Y q 4 := fun z => by have := a.2.2; have := z.2.2; omega
    rw [if_pos a, if_neg a4, h3 a]; omega
  · by_cases c : xW n X Y q 4
    · rw [if_neg a, if_pos c, h4 c]
    · rw [if_neg a, if_neg c, h5 a c]; omega
/-- the end of an argument is the same where the rows are -/
theorem gEnd_c {I J : Nat → Int} {A B : Nat → Int → Int} (hn : I 1 = J 1) (hx : ∀ k, 0 ≤ k → k < I 1 → A 22 k = B 22 k ∧ A 23 k = B 23 k) : ∀ (m : Nat) (q o : Int), 0 ≤ q → gEnd I A m q o = gEnd J B m q o
  | 0, _, _, _ => rfl
  | m + 1, q, o, h => by
    have e : ∀ w, gW I A q w ↔ gW J B q w := by
      intro w
      unfold gW
      rw [← hn]
      constructor
      · rintro ⟨a, c, d⟩
        exact ⟨a, by rw [← (hx q h a).1]; exact c, by rw [← (hx q h a).2]; exact d⟩
      · rintro ⟨a, c, d⟩
        exact ⟨a, by rw [(hx q h a).1]; exact c, by rw [(hx q h a).2]; exact d⟩
    unfold gEnd
    have e3 := propext (e 3)
    have e4 := propext (e 4)
    have e5 := propext (e 5)
    simp only [e3, e4, e5, hn]
    rw [gEnd_c hn hx m (q + 1) _ (by omega)]
theorem gAe_c {I J : Nat → Int} {A B : Nat → Int → Int} (hn : I 1 = J 1) (hx : ∀ k, 0 ≤ k → k < I 1 → A 22 k = B 22 k ∧ A 23 k = B 23 k) (q : Int) (h : 0 ≤ q) : gAe I A q = gAe J B q := by
  unfold gAe
  rw [gEnd_c hn hx _ q 0 h, hn]
theorem gAq_c {I J : Nat → Int} {A B : Nat → Int → Int} (hn : I 1 = J 1) (hx : ∀ k, 0 ≤ k → k < I 1 → A 22 k = B 22 k ∧ A 23 k = B 23 k) (k : Int) (h : 0 ≤ k) : ∀ i : Nat, gAq I A k i = gAq J B k i ∧ 0 ≤ gAq I A k i
  | 0 => ⟨rfl, by show 0 ≤ k + 2; omega⟩
  | i + 1 => by
    have ih := gAq_c hn hx k h i
    have e := gAe_c hn hx (gAq I A k i) ih.2
    have l := gAe_le I A (gAq I A k i)
    refine ⟨?_, ?_⟩
    · show gAe I A (gAq I A k i) + 1 = gAe J B (gAq J B k i) + 1
      rw [e, ih.1]
    · show 0 ≤ gAe I A (gAq I A k i) + 1
      omega
theorem gW_c {I J : Nat → Int} {A B : Nat → Int → Int} (hn : I 1 = J 1) (hx : ∀ k, 0 ≤ k → k < I 1 → A 22 k = B 22 k ∧ A 23 k = B 23 k) (q w : Int) (h : 0 ≤ q) : gW I A q w ↔ gW J B q w := by
  unfold gW
  rw [← hn]
  constructor
  · rintro ⟨a, c, d⟩
    exact ⟨a, by rw [← (hx q h a).1]; exact c, by rw [← (hx q h a).2]; exact d⟩
  · rintro ⟨a, c, d⟩
    exact ⟨a, by rw [(hx q h a).1]; exact c, by rw [(hx q h a).2]; exact d⟩
theorem gAok_c {I J : Nat → Int} {A B : Nat → Int → Int} (hn : I 1 = J 1) (hx : ∀ k, 0 ≤ k → k < I 1 → A 22 k = B 22 k ∧ A 23 k = B 23 k) (k n : Int) (h : 0 ≤ k) : gAok I A k n ↔ gAok J B k n := by
  have e : ∀ i, gAo I A k n i ↔ gAo J B k n i := by
    intro i
    have q := gAq_c hn hx k h i.toNat
    have a := gAe_c hn hx (gAq I A k i.toNat) q.2
    have l := gAe_le I A (gAq I A k i.toNat)
    unfold gAo
    rw [gW_c hn hx (gAe I A (gAq I A k i.toNat)) _ (by omega), hn, a, q.1]
  unfold gAok
  rw [gW_c hn hx (k + 1) 3 (by omega)]
  constructor
  · rintro ⟨a, c⟩
    exact ⟨a, fun i i0 i1 => (e i).mp (c i i0 i1)⟩
  · rintro ⟨a, c⟩
    exact ⟨a, fun i i0 i1 => (e i).mpr (c i i0 i1)⟩
theorem gsg_c {A B : Nat → Int → Int} (n : Int) (hx : ∀ k, 0 ≤ k → k < n → A 22 k = B 22 k ∧ A 23 k = B 23 k ∧ A 24 k = B 24 k) (a c : Int) (h : 0 ≤ a) (h2 : c ≤ n) : gsg A a c = gsg B a c := by
  unfold gsg
  apply List.map_congr_left
  intro j hj
  have hj := List.mem_range.mp hj
  have e := hx (a + (j : Int)) (by omega) (by omega)
  rw [e.1, e.2.1, e.2.2]
/-- the row behind a replacement is the same where row, body and arguments are -/
theorem gnew_c {I J : Nat → Int} {A B : Nat → Int → Int} {k p q : Int} (hn : I 1 = J 1) (hx : ∀ k, 0 ≤ k → k < I 1 → A 22 k = B 22 k ∧ A 23 k = B 23 k ∧ A 24 k = B 24 k) (k0 : 0 ≤ k) (k1 : k < I 1) (p0 : 0 ≤ p) (hs : A 20 q = B 20 q)
    (hb : ∀ c, q * 40 ≤ c → c < q * 40 + A 20 q → A 18 c = B 18 c ∧ A 19 c = B 19 c ∧ (A 18 c = 2 → A 28 (A 19 c) = B 28 (A 19 c) ∧ A 29 (A 19 c) = B 29 (A 19 c) ∧ 0 ≤ A 28 (A 19 c) ∧ A 29 (A 19 c) ≤ I 1)) : gnew I A k p q = gnew J B k p q := by
  unfold gnew
  rw [gsg_c (I 1) hx 0 k (Int.le_refl 0) (by omega), gsg_c (I 1) hx p (I 1) p0 (Int.le_refl _), (hx k k0 k1).2.2, ← hs, hn]
  congr 2
  unfold gbd
  simp only [List.flatMap]
  congr 1
  apply List.map_congr_left
  intro j hj
  have hj := List.mem_range.mp hj
  have e := hb (q * 40 + (j : Int)) (by omega) (by omega)
  unfold gb1
  by_cases h2 : A 18 (q * 40 + (j : Int)) = 2
  · have e2 := e.2.2 h2
    rw [if_pos h2, if_pos (by rw [← e.1]; exact h2), ← e.2.1, ← e2.1, ← e2.2.1]
    exact gsg_c (I 1) hx _ _ e2.2.2.1 e2.2.2.2
  · rw [if_neg h2, if_neg (by rw [← e.1]; exact h2), ← e.1, ← e.2.1]
/-! arguments, bodies, rows: as functions of a row (n, X, Y, D) -/
abbrev vB (X Y : Int → Int) : Nat → Int → Int := vA X Y X (fun _ => X)
def xAq (n : Int) (X Y : Int → Int) (k : Int) (i : Nat) : Int := gAq (vI n) (vB X Y) k i
def xAo (n : Int) (X Y : Int → Int) (k m i : Int) : Prop := gAo (vI n) (vB X Y) k m i
def xAok (n : Int) (X Y : Int → Int) (k m : Int) : Prop := gAok (vI n) (vB X Y) k m
theorem xAq_s (n : Int) (X Y : Int → Int) (k i : Int) (h : 0 ≤ i) : xAq n X Y k (i + 1).toNat = xEnd n X Y (n - xAq n X Y k i.toNat).toNat (xAq n X Y k i.toNat) 0 + 1 := gAq_s (vI n) (vB X Y) k i h
theorem xAe_e (n : Int) (X Y : Int → Int) (q : Int) : xAe n X Y q = xEnd n X Y (n - q).toNat q 0 := rfl
theorem xAo_ok {n : Int} {X Y : Int → Int} {k m i q v w : Int} (hq : q = xAq n X Y k i.toNat) (hv : v = xEnd n X Y (n - q).toNat q 0) (h5 : i < m - 1 → w = 5) (h4 : ¬ i < m - 1 → w = 4) (h : xW n X Y v w) : xAo n X Y k m i := by
  have e : gAe (vI n) (vB X Y) (gAq (vI n) (vB X Y) k i.toNat) = v := by rw [hv, hq]; rfl
  unfold xAo gAo
  rw [e]
  refine ⟨h.1, ?_⟩
  by_cases c : i < m - 1
  · rw [if_pos c, ← h5 c]; exact h
  · rw [if_neg c, ← h4 c]; exact h
theorem xAo_bad {n : Int} {X Y : Int → Int} {k m i q v w : Int} (hq : q = xAq n X Y k i.toNat) (hv : v = xEnd n X Y (n - q).toNat q 0) (h5 : i < m - 1 → w = 5) (h4 : ¬ i < m - 1 → w = 4) (h : ¬ xW n X Y v w) : ¬ xAo n X Y k m i := by
  have e : gAe (vI n) (vB X Y) (gAq (vI n) (vB X Y) k i.toNat) = v := by rw [hv, hq]; rfl
  unfold xAo gAo
  rw [e]
  rintro ⟨_, z⟩
  by_cases c : i < m - 1
  · rw [if_pos c, ← h5 c] at z; exact h z
  · rw [if_neg c, ← h4 c] at z; exact h z
theorem xAok_mk {n : Int} {X Y : Int → Int} {k m : Int} (h : xW n X Y (k + 1) 3) (h2 : ∀ i, 0 ≤ i → i < m → xAo n X Y k m i) : xAok n X Y k m := ⟨h, h2⟩
theorem xAok_o {n : Int} {X Y : Int → Int} {k m : Int} (h : xAok n X Y k m) (i : Int) (h0 : 0 ≤ i) (h1 : i < m) : xAo n X Y k m i := h.2 i h0 h1
theorem xAok_w {n : Int} {X Y : Int → Int} {k m : Int} (h : xAok n X Y k m) : xW n X Y (k + 1) 3 := h.1
theorem xAq_le (n : Int) (X Y : Int → Int) (k m : Int) (h : xAok n X Y k m) (i : Nat) (hi : (i : Int) ≤ m) : k < xAq n X Y k i ∧ (0 < i → xAq n X Y k i ≤ n) := gAq_le (vI n) (vB X Y) k m h i hi
theorem xEnd_le (n : Int) (X Y : Int → Int) (m : Nat) (q o : Int) : q ≤ xEnd n X Y m q o ∧ (xEnd n X Y m q o ≤ q ∨ xEnd n X Y m q o ≤ n) := gEnd_le (vI n) (vB X Y) m q o
def xs (X Y D : Int → Int) (a b : Int) : List (Int × Int × Int) := (List.range (b - a).toNat).map (fun j : Nat => (X (a + (j : Int)), Y (a + (j : Int)), D (a + (j : Int))))
def xb1 (K V S E X Y D : Int → Int) (e c : Int) : List (Int × Int × Int) := if K c = 2 then xs X Y D (S (V c)) (E (V c)) else [(K c, V c, e)]
def xbd (K V S E X Y D : Int → Int) (e : Int) (m : Nat) : List (Int × Int × Int) := (List.range m).flatMap (fun j : Nat => xb1 K V S E X Y D e (j : Int))
theorem xs_len (X Y D : Int → Int) (a b : Int) : (xs X Y D a b).length = (b - a).toNat := by simp [xs]
theorem xs_nil (X Y D : Int → Int) (a b : Int) (h : b ≤ a) : xs X Y D a b = [] := by
  unfold xs
  rw [show (b - a).toNat = 0 by omega]
  rfl
theorem xbd_s (K V S E X Y D : Int → Int) (e i : Int) (h : 0 ≤ i) : xbd K V S E X Y D e (i + 1).toNat = xbd K V S E X Y D e i.toNat ++ xb1 K V S E X Y D e i := by
  unfold xbd
  rw [show (i + 1).toNat = i.toNat + 1 by omega, List.range_succ, List.flatMap_append]
  simp only [List.flatMap_cons, List.flatMap_nil, List.append_nil]
  rw [show ((i.toNat : Nat) : Int) = i by omega]
theorem xbd_le (K V S E X Y D : Int → Int) (e : Int) (i : Nat) : ∀ m : Nat, i ≤ m → (xbd K V S E X Y D e i).length ≤ (xbd K V S E X Y D e m).length
  | 0, h => by rw [show i = 0 by omega]; exact Nat.le_refl _
  | m + 1, h => by
    by_cases c : i = m + 1
    · rw [c]; exact Nat.le_refl _
    · have ih := xbd_le K V S E X Y D e i m (by omega)
      have es : xbd K V S E X Y D e (m + 1) = xbd K V S E X Y D e m ++ xb1 K V S E X Y D e (m : Int) := by
        unfold xbd
        rw [List.range_succ, List.flatMap_append]
        simp
      rw [es, List.length_append]
      omega
theorem xs_get (X Y D : Int → Int) (a b : Int) (i : Nat) (t : Int × Int × Int) (h : (xs X Y D a b)[i]? = some t) : (i : Int) < b - a ∧ t = (X (a + (i : Int)), Y (a + (i : Int)), D (a + (i : Int))) := by
  unfold xs at h
  rw [List.getElem?_map] at h
  by_cases c : i < (b - a).toNat
  · rw [List.getElem?_range c] at h
    simp only [Option.map_some, Option.some.injEq] at h
    exact ⟨by omega, h.symm⟩
  · rw [List.getElem?_eq_none (by rw [List.length_range]; omega)] at h
    cases h
theorem gH_xs (X Y D : Int → Int) (b : Int) : gH X Y D (xs X Y D 0 b) := by
  intro i t h _
  have h1 := xs_get X Y D 0 b i t h
  rw [h1.2, Int.zero_add]
  exact ⟨rfl, rfl, rfl⟩
/-- a piece of a row is put behind what lies there -/
theorem gH_jcp {X Y D U V W : Int → Int} {P : List (Int × Int × Int)} {sp dp m : Int} (h : gH U V W P) (hl : (P.length : Int) = dp) : gH (jcp X U sp dp m) (jcp Y V sp dp m) (jcp D W sp dp m) (P ++ xs X Y D sp (sp + m)) := by
  intro i t hi h7
  by_cases c : i < P.length
  · rw [List.getElem?_append_left c] at hi
    unfold jcp
    rw [if_neg (by omega), if_neg (by omega), if_neg (by omega)]
    exact h i t hi h7
  · rw [List.getElem?_append_right (by omega)] at hi
    have h1 := xs_get X Y D sp (sp + m) _ t hi
    unfold jcp
    rw [if_pos (by omega), if_pos (by omega), if_pos (by omega), h1.2]
    rw [show sp + ((i - P.length : Nat) : Int) = sp + ((i : Int) - dp) by omega]
    exact ⟨rfl, rfl, rfl⟩
theorem gH_ju {U V W : Int → Int} {P : List (Int × Int × Int)} {k v e dp : Int} (h : gH U V W P) (hl : (P.length : Int) = dp) : gH (ju U dp k) (ju V dp v) (ju W dp e) (P ++ [(k, v, e)]) := by
  intro i t hi h7
  by_cases c : i < P.length
  · rw [List.getElem?_append_left c] at hi
    unfold ju
    rw [if_neg (by omega), if_neg (by omega), if_neg (by omega)]
    exact h i t hi h7
  · rw [List.getElem?_append_right (by omega)] at hi
    by_cases c2 : i = P.length
    · rw [c2, Nat.sub_self] at hi
      simp only [List.getElem?_cons_zero, Option.some.injEq] at hi
      unfold ju
      rw [if_pos (by omega), if_pos (by omega), if_pos (by omega), ← hi]
      exact ⟨rfl, rfl, rfl⟩
    · rw [List.getElem?_eq_none (by simp; omega)] at hi
      cases hi
theorem gH_pre {X Y D : Int → Int} {P Q : List (Int × Int × Int)} (h : gH X Y D (P ++ Q)) : gH X Y D P := by
  intro i t hi h7
  refine h i t ?_ h7
  have : i < P.length := by
    by_cases c : i < P.length
    · exact c
    · rw [List.getElem?_eq_none (by omega)] at hi; cases hi
  rw [List.getElem?_append_left this]
  exact hi
/-- what a row's arrays hold, read off -/
theorem gH_at {X Y D : Int → Int} {P : List (Int × Int × Int)} (h : gH X Y D P) (h7 : P.length ≤ 700) : P = xs X Y D 0 (P.length : Int) := by
  apply List.ext_getElem?
  intro i
  by_cases c : i < P.length
  · have h1 := h i P[i] (List.getElem?_eq_getElem c) (by omega)
    rw [List.getElem?_eq_getElem c]
    unfold xs
    rw [List.getElem?_map, List.getElem?_range (by omega)]
    simp only [Option.map_some, Option.some.injEq, Int.zero_add]
    rw [h1.1, h1.2.1, h1.2.2]
  · rw [List.getElem?_eq_none (by omega), List.getElem?_eq_none (by rw [xs_len]; omega)]
theorem xs_c {X Y D U V W : Int → Int} {n : Int} (hx : ∀ k, 0 ≤ k → k < n → X k = U k ∧ Y k = V k ∧ D k = W k) (a c : Int) (h : 0 ≤ a) (h2 : c ≤ n) : xs X Y D a c = xs U V W a c := by
  unfold xs
  apply List.map_congr_left
  intro j hj
  have hj := List.mem_range.mp hj
  have e := hx (a + (j : Int)) (by omega) (by omega)
  rw [e.1, e.2.1, e.2.2]
/-- what becomes of a call at place k, r replacements before it: error, replacements, row -/
def xP (n : Int) (X Y D K V S E : Int → Int) (len par k : Int) : List (Int × Int × Int) := xs X Y D 0 k ++ xbd K V S E X Y D (D k + 1) len.toNat ++ xs X Y D (if par = 0 then k + 1 else xAq n X Y k par.toNat) n
def xRC (n : Int) (X Y D K V : Int → Int) (len par k r y r2 n2 : Int) (X2 Y2 D2 : Int → Int) : Prop :=
  (par = -1 → y = -4 ∧ r2 = r) ∧ (par ≠ -1 → 6 ≤ D k → y = -5 ∧ r2 = r) ∧ (par ≠ -1 → D k < 6 → par ≠ 0 → ¬ xAok n X Y k par → y = -6 ∧ r2 = r) ∧
  (par ≠ -1 → D k < 6 → (par ≠ 0 → xAok n X Y k par) → r2 = r + 1 ∧ ∃ S E : Int → Int, (∀ j, 0 ≤ j → j < par → S j = xAq n X Y k j.toNat ∧ E j = xAe n X Y (xAq n X Y k j.toNat)) ∧
    ((300 < ((xP n X Y D K V S E len par k).length : Int) ∨ 100 < r + 1) → y = -7) ∧ (¬ (300 < ((xP n X Y D K V S E len par k).length : Int) ∨ 100 < r + 1) → y = 0 ∧ n2 = ((xP n X Y D K V S E len par k).length : Int) ∧ gH X2 Y2 D2 (xP n X Y D K V S E len par k)))
abbrev XR : Type := Int × Int × Int × Int × (Int → Int) × (Int → Int)
abbrev XR.e (z : XR) : Int := z.1
abbrev XR.pl (z : XR) : Int := z.2.1
abbrev XR.r (z : XR) : Int := z.2.2.1
abbrev XR.n (z : XR) : Int := z.2.2.2.1
abbrev XR.X (z : XR) : Int → Int := z.2.2.2.2.1
abbrev XR.Y (z : XR) : Int → Int := z.2.2.2.2.2
/-- EXPANDING a row (n, X, Y, D) from place k on, r replacements before it, ends so -/
def XE_s9 (mp ml : Int → Int) (mK mV : Int → Int → Int) (R : Int → (Int → Int) → (Int → Int) → (Int → Int) → Int → Int → XR → Prop) (a09 : Int) (a19 : (Int → Int)) (a29 : (Int → Int)) (a39 : (Int → Int)) (a49 : Int) (a59 : Int) (a69 : XR) : Prop :=
  (a69 = ⟨0, a49, a59, a09, a19, a29⟩ ∧ (¬ a49 < a09)) ∨
  (a69 = ⟨-3, a49, a59, a09, a19, a29⟩ ∧ (a49 < a09) ∧ (a19 a49 = 2)) ∨
  ((a49 < a09) ∧ (a19 a49 ≠ 2) ∧ (a19 a49 ≠ 3) ∧ R a09 a19 a29 a39 (a49 + 1) a59 a69) ∨
  (∃ y : Int, ∃ r2 : Int, ∃ n2 : Int, ∃ X2 : Int → Int, ∃ Y2 : Int → Int, ∃ D2 : Int → Int, a69 = ⟨y, a49, r2, a09, a19, a29⟩ ∧ (a49 < a09) ∧ (a19 a49 = 3) ∧ (xRC a09 a19 a29 a39 (mK (a29 a49)) (mV (a29 a49)) (ml (a29 a49)) (mp (a29 a49)) a49 a59 y r2 n2 X2 Y2 D2) ∧ (y ≠ 0)) ∨
  (∃ r2 : Int, ∃ n2 : Int, ∃ X2 : Int → Int, ∃ Y2 : Int → Int, ∃ D2 : Int → Int, (a49 < a09) ∧ (a19 a49 = 3) ∧ (xRC a09 a19 a29 a39 (mK (a29 a49)) (mV (a29 a49)) (ml (a29 a49)) (mp (a29 a49)) a49 a59 0 r2 n2 X2 Y2 D2) ∧ R n2 X2 Y2 D2 a49 r2 a69)
def XE_k9 (mp ml : Int → Int) (mK mV : Int → Int → Int) : Nat → Int → (Int → Int) → (Int → Int) → (Int → Int) → Int → Int → XR → Prop
  | 0 => fun _ _ _ _ _ _ _ => False
  | k + 1 => XE_s9 mp ml mK mV (XE_k9 mp ml mK mV k)
def XE (mp ml : Int → Int) (mK mV : Int → Int → Int) (a09 : Int) (a19 : (Int → Int)) (a29 : (Int → Int)) (a39 : (Int → Int)) (a49 : Int) (a59 : Int) (a69 : XR) : Prop := ∃ k9 : Nat, XE_k9 mp ml mK mV k9 a09 a19 a29 a39 a49 a59 a69
theorem XE.done {mp ml : Int → Int} {mK mV : Int → Int → Int} {n k r : Int} {X Y D : Int → Int} (h : ¬ k < n) : XE mp ml mK mV n X Y D k r ⟨0, k, r, n, X, Y⟩ := ⟨1, Or.inl (⟨rfl, h⟩)⟩
theorem XE.stray {mp ml : Int → Int} {mK mV : Int → Int → Int} {n k r : Int} {X Y D : Int → Int} (h : k < n) (h2 : X k = 2) : XE mp ml mK mV n X Y D k r ⟨-3, k, r, n, X, Y⟩ := ⟨1, Or.inr (Or.inl (⟨rfl, h, h2⟩))⟩
theorem XE.next {mp ml : Int → Int} {mK mV : Int → Int → Int} {n k r : Int} {X Y D : Int → Int} {z : XR} (h : k < n) (h2 : X k ≠ 2) (h3 : X k ≠ 3) (hn : XE mp ml mK mV n X Y D (k + 1) r z) : XE mp ml mK mV n X Y D k r z := by
  obtain ⟨m9, hm9⟩ := hn
  exact ⟨m9 + 1, Or.inr (Or.inr (Or.inl (⟨h, h2, h3, hm9⟩)))⟩
theorem XE.err {mp ml : Int → Int} {mK mV : Int → Int → Int} {n k r y r2 n2 : Int} {X Y D X2 Y2 D2 : Int → Int} (h : k < n) (h3 : X k = 3) (hc : xRC n X Y D (mK (Y k)) (mV (Y k)) (ml (Y k)) (mp (Y k)) k r y r2 n2 X2 Y2 D2) (hy : y ≠ 0) : XE mp ml mK mV n X Y D k r ⟨y, k, r2, n, X, Y⟩ := ⟨1, Or.inr (Or.inr (Or.inr (Or.inl (⟨y, r2, n2, X2, Y2, D2, rfl, h, h3, hc, hy⟩))))⟩
theorem XE.call {mp ml : Int → Int} {mK mV : Int → Int → Int} {n k r r2 n2 : Int} {X Y D X2 Y2 D2 : Int → Int} {z : XR} (h : k < n) (h3 : X k = 3) (hc : xRC n X Y D (mK (Y k)) (mV (Y k)) (ml (Y k)) (mp (Y k)) k r 0 r2 n2 X2 Y2 D2) (hn : XE mp ml mK mV n2 X2 Y2 D2 k r2 z) : XE mp ml mK mV n X Y D k r z := by
  obtain ⟨m9, hm9⟩ := hn
  exact ⟨m9 + 1, Or.inr (Or.inr (Or.inr (Or.inr (⟨r2, n2, X2, Y2, D2, h, h3, hc, hm9⟩))))⟩
theorem XE.inv {mp ml : Int → Int} {mK mV : Int → Int → Int} {a09 : Int} {a19 : (Int → Int)} {a29 : (Int → Int)} {a39 : (Int → Int)} {a49 : Int} {a59 : Int} {a69 : XR} (h9 : XE mp ml mK mV a09 a19 a29 a39 a49 a59 a69) : XE_s9 mp ml mK mV (XE mp ml mK mV) a09 a19 a29 a39 a49 a59 a69 := by
  obtain ⟨m9, hm9⟩ := h9
  cases m9 with
  | zero => exact hm9.elim
  | succ m9 =>
    rcases hm9 with ⟨e0, h0⟩ | ⟨e0, h0, h1⟩ | ⟨h0, h1, h2, h3⟩ | ⟨x0, x1, x2, x3, x4, x5, e0, h0, h1, h2, h3⟩ | ⟨x0, x1, x2, x3, x4, h0, h1, h2, h3⟩
    · exact Or.inl (⟨e0, h0⟩)
    · exact Or.inr (Or.inl (⟨e0, h0, h1⟩))
    · exact Or.inr (Or.inr (Or.inl (⟨h0, h1, h2, ⟨m9, h3⟩⟩)))
    · exact Or.inr (Or.inr (Or.inr (Or.inl (⟨x0, x1, x2, x3, x4, x5, e0, h0, h1, h2, h3⟩))))
    · exact Or.inr (Or.inr (Or.inr (Or.inr (⟨x0, x1, x2, x3, x4, h0, h1, h2, ⟨m9, h3⟩⟩))))
section XRC
variable {n : Int} {X Y D K V S E X2 Y2 D2 : Int → Int} {len par k r r2 n2 : Int}
theorem xRC_4 (h1 : par = -1) (hr : r2 = r) : xRC n X Y D K V len par k r (-4) r2 n2 X2 Y2 D2 := ⟨fun _ => ⟨rfl, hr⟩, fun h => absurd h1 h, fun h => absurd h1 h, fun h => absurd h1 h⟩
theorem xRC_5 (h1 : par ≠ -1) (h : 6 ≤ D k) (hr : r2 = r) : xRC n X Y D K V len par k r (-5) r2 n2 X2 Y2 D2 := ⟨fun z => absurd z h1, fun _ _ => ⟨rfl, hr⟩, fun _ z => absurd h (by omega), fun _ z => absurd h (by omega)⟩
theorem xRC_6 (h1 : par ≠ -1) (h : D k < 6) (h0 : par ≠ 0) (h2 : ¬ xAok n X Y k par) (hr : r2 = r) : xRC n X Y D K V len par k r (-6) r2 n2 X2 Y2 D2 := ⟨fun z => absurd z h1, fun _ z => absurd h (by omega), fun _ _ _ _ => ⟨rfl, hr⟩, fun _ _ z => absurd (z h0) h2⟩
theorem xRC_7 (h1 : par ≠ -1) (h : D k < 6) (h2 : par ≠ 0 → xAok n X Y k par) (hr : r2 = r + 1) (hSE : ∀ j, 0 ≤ j → j < par → S j = xAq n X Y k j.toNat ∧ E j = xAe n X Y (xAq n X Y k j.toNat)) (hl : 300 < ((xP n X Y D K V S E len par k).length : Int) ∨ 100 < r + 1) : xRC n X Y D K V len par k r (-7) r2 n2 X2 Y2 D2 :=
  ⟨fun z => absurd z h1, fun _ z => absurd h (by omega), fun _ _ z0 z => absurd (h2 z0) z, fun _ _ _ => ⟨hr, S, E, hSE, fun _ => rfl, fun z => absurd hl z⟩⟩
theorem xRC_0 (h1 : par ≠ -1) (h : D k < 6) (h2 : par ≠ 0 → xAok n X Y k par) (hr : r2 = r + 1) (hSE : ∀ j, 0 ≤ j → j < par → S j = xAq n X Y k j.toNat ∧ E j = xAe n X Y (xAq n X Y k j.toNat)) (hl : ¬ (300 < ((xP n X Y D K V S E len par k).length : Int) ∨ 100 < r + 1)) (hn : n2 = ((xP n X Y D K V S E len par k).length : Int)) (hH : gH X2 Y2 D2 (xP n X Y D K V S E len par k)) : xRC n X Y D K V len par k r 0 r2 n2 X2 Y2 D2 :=
  ⟨fun z => absurd z h1, fun _ z => absurd h (by omega), fun _ _ z0 z => absurd (h2 z0) z, fun _ _ _ => ⟨hr, S, E, hSE, fun z => absurd z hl, fun _ => ⟨rfl, hn, hH⟩⟩⟩
theorem xHb (k0 : 0 ≤ k) (hs : par ≠ 0 → xAok n X Y k par) (hSE : ∀ j, 0 ≤ j → j < par → S j = xAq n X Y k j.toNat ∧ E j = xAe n X Y (xAq n X Y k j.toNat)) (hm : ∀ j, 0 ≤ j → j < len → K j = 2 → 0 ≤ V j ∧ V j < par) : ∀ j, 0 ≤ j → j < len → K j = 2 → 0 ≤ S (V j) ∧ S (V j) ≤ E (V j) ∧ E (V j) ≤ n := by
  intro j a c e
  have h1 := hm j a c e
  have h2 := hs (by omega)
  have h3 := hSE (V j) h1.1 h1.2
  have h4 := xAq_le n X Y k par h2 (V j).toNat (by omega)
  have h5 : xAe n X Y (xAq n X Y k (V j).toNat) < n := (xAok_o h2 (V j) h1.1 h1.2).1
  have h6 := xEnd_le n X Y (n - xAq n X Y k (V j).toNat).toNat (xAq n X Y k (V j).toNat) 0
  rw [← xAe_e] at h6
  rw [h3.1, h3.2]
  omega
theorem xP_e {q : Int} (k0 : 0 ≤ k) (hq : q = if par = 0 then k + 1 else xAq n X Y k par.toNat) : xs X Y D 0 k ++ xbd K V S E X Y D (D k + 1) len.toNat ++ xs X Y D q n = xP n X Y D K V S E len par k := by
  unfold xP
  rw [hq]
theorem xP_len {q : Int} (k0 : 0 ≤ k) (hq : q = if par = 0 then k + 1 else xAq n X Y k par.toNat) (hn : q ≤ n) : ((xP n X Y D K V S E len par k).length : Int) = k + n - q + ((xbd K V S E X Y D (D k + 1) len.toNat).length : Int) := by
  rw [← xP_e k0 hq, List.length_append, List.length_append, xs_len, xs_len]
  omega
end XRC
/-- arguments of a body lie below the parameters -/
def cMac (I : Nat → Nat → Int) (A : Nat → Int → Int) : Prop := ∀ z : Int, 0 ≤ z → z < 6 → A 7 z ≠ -1 → ∀ j, 0 ≤ j → j < I (14 + 4 * z.toNat) 3 → A (15 + 4 * z.toNat) j = 2 → A (16 + 4 * z.toNat) j < A 7 z
/-! depths behind a replacement; the macros stay while a row is expanded -/
theorem xs_mem {X Y D : Int → Int} {a b : Int} {t : Int × Int × Int} (h : t ∈ xs X Y D a b) : ∃ j, a ≤ j ∧ j < b ∧ t = (X j, Y j, D j) := by
  unfold xs at h
  obtain ⟨j, hj, rfl⟩ := List.mem_map.mp h
  have hj := List.mem_range.mp hj
  exact ⟨a + (j : Int), by omega, by omega, rfl⟩
theorem xP_D {n : Int} {X Y D K V S E : Int → Int} {len par k : Int} (hD : ∀ j, 0 ≤ j → j < n → 0 ≤ D j ∧ D j ≤ 6) (k0 : 0 ≤ k) (k1 : k < n) (h6 : D k < 6) (hb : ∀ j, 0 ≤ j → j < len → K j = 2 → 0 ≤ S (V j) ∧ S (V j) ≤ E (V j) ∧ E (V j) ≤ n) (hs : par ≠ 0 → xAok n X Y k par) (hp : 0 ≤ par) : ∀ t ∈ xP n X Y D K V S E len par k, 0 ≤ t.2.2 ∧ t.2.2 ≤ 6 := by
  intro t ht
  unfold xP at ht
  rcases List.mem_append.mp ht with h | h
  · rcases List.mem_append.mp h with h | h
    · obtain ⟨j, a, c, rfl⟩ := xs_mem h
      exact hD j (by omega) (by omega)
    · unfold xbd at h
      obtain ⟨j, hj, h⟩ := List.mem_flatMap.mp h
      have hj := List.mem_range.mp hj
      unfold xb1 at h
      by_cases h2 : K (j : Int) = 2
      · rw [if_pos h2] at h
        have hb1 := hb (j : Int) (by omega) (by omega) h2
        obtain ⟨i, a, c, rfl⟩ := xs_mem h
        exact hD i (by omega) (by omega)
      · rw [if_neg h2] at h
        rw [List.mem_singleton.mp h]
        have := hD k k0 k1
        exact ⟨by show 0 ≤ D k + 1; omega, by show D k + 1 ≤ 6; omega⟩
  · obtain ⟨j, a, c, rfl⟩ := xs_mem h
    refine hD j ?_ (by omega)
    by_cases hz : par = 0
    · rw [if_pos hz] at a; omega
    · rw [if_neg hz] at a
      have := xAq_le n X Y k par (hs hz) par.toNat (by omega)
      omega
theorem gH_D {X Y D : Int → Int} {P : List (Int × Int × Int)} (h : gH X Y D P) (hP : ∀ t ∈ P, 0 ≤ t.2.2 ∧ t.2.2 ≤ 6) (h7 : P.length ≤ 300) : ∀ j, 0 ≤ j → j < (P.length : Int) → 0 ≤ D j ∧ D j ≤ 6 := by
  intro j j0 j1
  obtain ⟨i, rfl⟩ := Int.eq_ofNat_of_zero_le j0
  have hi : i < P.length := by omega
  have h1 := h i P[i] (List.getElem?_eq_getElem hi) (by omega)
  rw [h1.2.2]
  exact hP _ (List.getElem_mem hi)
theorem xRC_D {n : Int} {X Y D K V X2 Y2 D2 : Int → Int} {len par k r r2 n2 : Int} (h : xRC n X Y D K V len par k r 0 r2 n2 X2 Y2 D2) (hD : ∀ j, 0 ≤ j → j < n → 0 ≤ D j ∧ D j ≤ 6) (k0 : 0 ≤ k) (k1 : k < n) (hp : -1 ≤ par) (hm : par ≠ -1 → ∀ j, 0 ≤ j → j < len → K j = 2 → 0 ≤ V j ∧ V j < par) : n2 ≤ 300 ∧ r2 = r + 1 ∧ r2 ≤ 100 ∧ ∀ j, 0 ≤ j → j < n2 → 0 ≤ D2 j ∧ D2 j ≤ 6 := by
  obtain ⟨h4, h5, h6, h7⟩ := h
  by_cases g1 : par = -1
  · exact absurd (h4 g1).1 (by omega)
  · by_cases g2 : 6 ≤ D k
    · exact absurd (h5 g1 g2).1 (by omega)
    · have g2 : D k < 6 := by omega
      by_cases g3 : par ≠ 0 → xAok n X Y k par
      · obtain ⟨hr, S, E, hSE, ha, hb⟩ := h7 g1 g2 g3
        by_cases g4 : 300 < ((xP n X Y D K V S E len par k).length : Int) ∨ 100 < r + 1
        · exact absurd (ha g4) (by omega)
        · obtain ⟨_, hn, hH⟩ := hb g4
          have g6 : ((xP n X Y D K V S E len par k).length : Int) ≤ 300 ∧ r + 1 ≤ 100 := by omega
          refine ⟨by omega, hr, by omega, ?_⟩
          rw [hn]
          exact gH_D hH (xP_D hD k0 k1 g2 (xHb k0 g3 hSE (hm g1)) g3 (by omega)) (by omega)
      · have g5 : par ≠ 0 ∧ ¬ xAok n X Y k par := by
          by_cases hz : par = 0
          · exact absurd (fun z => absurd hz z) g3
          · exact ⟨hz, fun z => g3 (fun _ => z)⟩
        exact absurd (h6 g1 g2 g5.1 g5.2).1 (by omega)
def cMe (I : Nat → Nat → Int) (A : Nat → Int → Int) (J : Nat → Nat → Int) (B : Nat → Int → Int) : Prop := B 7 = A 7 ∧ ∀ z : Int, 0 ≤ z → z < 6 → J (14 + 4 * z.toNat) 3 = I (14 + 4 * z.toNat) 3 ∧ B (15 + 4 * z.toNat) = A (15 + 4 * z.toNat) ∧ B (16 + 4 * z.toNat) = A (16 + 4 * z.toNat)
theorem cMe_of {S T : List Nat} {I J : Nat → Nat → Int} {A B : Nat → Int → Int} (h : cPx S T I A J B) (hT : [7, 15, 16, 19, 20, 23, 24, 27, 28, 31, 32, 35, 36].all (fun k => !(T.contains k)) = true) (hS : [14, 18, 22, 26, 30, 34].all (fun k => !(S.contains (k * 16 + 3))) = true) : cMe I A J B := by
  have fT : ∀ k, k ∈ [7, 15, 16, 19, 20, 23, 24, 27, 28, 31, 32, 35, 36] → B k = A k := fun k hk => h.2.2.2 k (by have := List.all_eq_true.mp hT k hk; simpa using this) trivial
  have fS : ∀ k, k ∈ [14, 18, 22, 26, 30, 34] → J k 3 = I k 3 := fun k hk => h.2.2.1 k 3 (by have := List.all_eq_true.mp hS k hk; simpa using this)
  refine ⟨fT 7 (by decide), fun z z0 z1 => ?_⟩
  rcases (show z = 0 ∨ z = 1 ∨ z = 2 ∨ z = 3 ∨ z = 4 ∨ z = 5 by omega) with rfl | rfl | rfl | rfl | rfl | rfl
  · exact ⟨fS 14 (by decide), fT 15 (by decide), fT 16 (by decide)⟩
  · exact ⟨fS 18 (by decide), fT 19 (by decide), fT 20 (by decide)⟩
  · exact ⟨fS 22 (by decide), fT 23 (by decide), fT 24 (by decide)⟩
  · exact ⟨fS 26 (by decide), fT 27 (by decide), fT 28 (by decide)⟩
  · exact ⟨fS 30 (by decide), fT 31 (by decide), fT 32 (by decide)⟩
  · exact ⟨fS 34 (by decide), fT 35 (by decide), fT 36 (by decide)⟩
theorem cMac_e {I J : Nat → Nat → Int} {A B : Nat → Int → Int} (h : cMe I A J B) (hM : cMac I A) : cMac J B := by
  intro z z0 z1 hz j j0 j1 h2
  have e := h.2 z z0 z1
  rw [e.1] at j1
  rw [e.2.1] at h2
  rw [h.1] at hz ⊢
  rw [e.2.2]
  exact hM z z0 z1 hz j j0 j1 h2
/-- expanding with the class's macros -/
def cXE (I : Nat → Nat → Int) (A : Nat → Int → Int) : Int → (Int → Int) → (Int → Int) → (Int → Int) → Int → Int → XR → Prop := XE (A 7) (fun z => I (14 + 4 * z.toNat) 3) (fun z => A (15 + 4 * z.toNat)) (fun z => A (16 + 4 * z.toNat))
theorem cXE_call {I J : Nat → Nat → Int} {A B : Nat → Int → Int} (h : cMe I A J B) {n k r r2 n2 : Int} {X Y D X2 Y2 D2 : Int → Int} {z : XR} (hk : k < n) (h3 : X k = 3) (hq : 0 ≤ Y k ∧ Y k < 6) (hc : xRC n X Y D (B (15 + 4 * (Y k).toNat)) (B (16 + 4 * (Y k).toNat)) (J (14 + 4 * (Y k).toNat) 3) (B 7 (Y k)) k r 0 r2 n2 X2 Y2 D2) (hn : cXE I A n2 X2 Y2 D2 k r2 z) : cXE I A n X Y D k r z := by
  have e := h.2 (Y k) hq.1 hq.2
  rw [e.1, e.2.1, e.2.2, h.1] at hc
  exact XE.call hk h3 hc hn
theorem cXE_err {I J : Nat → Nat → Int} {A B : Nat → Int → Int} (h : cMe I A J B) {n k r r2 n2 y : Int} {X Y D X2 Y2 D2 : Int → Int} (hk : k < n) (h3 : X k = 3) (hq : 0 ≤ Y k ∧ Y k < 6) (hc : xRC n X Y D (B (15 + 4 * (Y k).toNat)) (B (16 + 4 * (Y k).toNat)) (J (14 + 4 * (Y k).toNat) 3) (B 7 (Y k)) k r y r2 n2 X2 Y2 D2) (hy : y ≠ 0) : cXE I A n X Y D k r ⟨y, k, r2, n, X, Y⟩ := by
  have e := h.2 (Y k) hq.1 hq.2
  rw [e.1, e.2.1, e.2.2, h.1] at hc
  exact XE.err hk h3 hc hy
theorem cMac_m {I : Nat → Nat → Int} {A : Nat → Int → Int} (hM : cMac I A) (hK : cTok A) (z : Int) (z0 : 0 ≤ z) (z1 : z < 6) (hz : A 7 z ≠ -1) : ∀ j, 0 ≤ j → j < I (14 + 4 * z.toNat) 3 → A (15 + 4 * z.toNat) j = 2 → 0 ≤ A (16 + 4 * z.toNat) j ∧ A (16 + 4 * z.toNat) j < A 7 z := by
  intro j j0 j1 h2
  refine ⟨?_, hM z z0 z1 hz j j0 j1 h2⟩
  have t : gtok (A (15 + 4 * z.toNat) j) (A (16 + 4 * z.toNat) j) := by
    rcases (show z = 0 ∨ z = 1 ∨ z = 2 ∨ z = 3 ∨ z = 4 ∨ z = 5 by omega) with rfl | rfl | rfl | rfl | rfl | rfl
    · exact hK 14 rfl j
    · exact hK 18 rfl j
    · exact hK 22 rfl j
    · exact hK 26 rfl j
    · exact hK 30 rfl j
    · exact hK 34 rfl j
  unfold gtok at t
  omega
theorem hdep {X Y D U V W : Int → Int} {n : Int} (h : gH X Y D (xs U V W 0 n)) (h0 : ∀ j, 0 ≤ j → j < n → W j = 0) : ∀ j, 0 ≤ j → j < n → n ≤ 700 → 0 ≤ D j ∧ D j ≤ 6 := by
  intro j j0 j1 h7
  obtain ⟨i, rfl⟩ := Int.eq_ofNat_of_zero_le j0
  have hi : i < (xs U V W 0 n).length := by rw [xs_len]; omega
  have h1 := h i _ (List.getElem?_eq_getElem hi) (by omega)
  have h2 := xs_get U V W 0 n i _ (List.getElem?_eq_getElem hi)
  rw [h1.2.2, h2.2]
  show 0 ≤ W (0 + (i : Int)) ∧ W (0 + (i : Int)) ≤ 6
  rw [Int.zero_add, h0 i j0 j1]
  omega

/-! CARRYING OUT a statement, RUNNING a program: s, V the variables, c and nt the notes (0 the newest), d the statements carried out -/
/-- the picture lies in the notes' function, at -1 and below -/
def pic (nt : Int → Int) : Int → Int := fun z => nt (-1 - z)
def pEq (nt nt2 : Int → Int) : Prop := ∀ z, 0 ≤ z → z < 768 → pic nt2 z = pic nt z
def nE8 (nt nt2 : Int → Int) : Prop := ∀ k, 0 ≤ k → k < 8 → nt2 k = nt k
def nEq (nt nt2 : Int → Int) : Prop := nE8 nt nt2 ∧ pEq nt nt2
def vCl (v : Int) : Int := if v = 10 then 1 else 0
def CO (r : SR) (q : Int) (s : Int → Int) (V : Int → Int → Int) (c : Int) (nt : Int → Int) (e : Int) (s2 : Int → Int) (V2 : Int → Int → Int) (c2 : Int) (nt2 : Int → Int) : Prop :=
  (r = .nop q ∧ e = 0 ∧ sEq s V s2 V2 ∧ c2 = c ∧ nEq nt nt2) ∨
  (∃ (F : Int → Int) (g : Prop), r = .shw q F g ∧ sEq s V s2 V2 ∧ ((¬ g ∧ e = -9 ∧ c2 = c ∧ nEq nt nt2) ∨ (g ∧ ¬ fZ F ∧ e = -12 ∧ c2 = c ∧ nEq nt nt2) ∨ (g ∧ fZ F ∧ e = 0 ∧ c2 = c + 1 ∧ nt2 0 = F 12 ∧ (∀ k, 1 ≤ k → k < 8 → nt2 k = nt (k - 1)) ∧ pEq nt nt2))) ∨
  (∃ (v : Int) (L : List Int) (fs : List (Int → Int)) (g : Prop), r = .path q v L fs g ∧ sEq s V s2 V2 ∧ c2 = c ∧ nE8 nt nt2 ∧ ((¬ g ∧ e = -9 ∧ pEq nt nt2) ∨ (g ∧ 12 < L.length ∧ e = -7 ∧ pEq nt nt2) ∨ (g ∧ L.length ≤ 12 ∧ TN fs e ∧ (e ≠ 0 → pEq nt nt2) ∧ (e = 0 → ptd (vCl v) (pls (pN fs) L) (pic nt) (pic nt2))))) ∨
  (∃ (fs : List (Int → Int)) (g : Prop), r = .eqs q fs g ∧ c2 = c ∧ nEq nt nt2 ∧ ((¬ g ∧ e = -9 ∧ sEq s V s2 V2) ∨ (g ∧ ∃ (s3 : Int → Int) (V3 : Int → Int → Int), EA fs s V e s3 V3 ∧ (e = 0 → sEq s3 V3 s2 V2) ∧ (e ≠ 0 → sEq s V s2 V2))))
abbrev RR : Type := Int × Int × (Int → Int) × (Int → Int → Int) × Int × (Int → Int) × Int
abbrev RR.e (z : RR) : Int := z.1
abbrev RR.pl (z : RR) : Int := z.2.1
abbrev RR.s (z : RR) : Int → Int := z.2.2.1
abbrev RR.V (z : RR) : Int → Int → Int := z.2.2.2.1
abbrev RR.c (z : RR) : Int := z.2.2.2.2.1
abbrev RR.nt (z : RR) : Int → Int := z.2.2.2.2.2.1
abbrev RR.d (z : RR) : Int := z.2.2.2.2.2.2
def RN_s9 (n : Int) (X Y : Int → Int) (R : Int → (Int → Int) → (Int → Int → Int) → Int → (Int → Int) → Int → RR → Prop) (a09 : Int) (a19 : (Int → Int)) (a29 : (Int → Int → Int)) (a39 : Int) (a49 : (Int → Int)) (a59 : Int) (a69 : RR) : Prop :=
  (a69 = ⟨0, n, a19, a29, a39, a49, a59⟩ ∧ (¬ a09 < n)) ∨
  (∃ ce : Int, ∃ pl : Int, a69 = ⟨ce, pl, a19, a29, a39, a49, a59⟩ ∧ (a09 < n) ∧ (ST n X Y a29 a09 (.err ce pl))) ∨
  (∃ q : Int, ∃ e : Int, ∃ c2 : Int, ∃ s2 : Int → Int, ∃ nt2 : Int → Int, ∃ V2 : Int → Int → Int, ∃ r : SR, a69 = ⟨e, q - 1, s2, V2, c2, nt2, a59⟩ ∧ (a09 < n) ∧ (ST n X Y a29 a09 r) ∧ (CO r q a19 a29 a39 a49 e s2 V2 c2 nt2) ∧ (e ≠ 0)) ∨
  (∃ q : Int, ∃ c2 : Int, ∃ s2 : Int → Int, ∃ nt2 : Int → Int, ∃ V2 : Int → Int → Int, ∃ r : SR, (a09 < n) ∧ (ST n X Y a29 a09 r) ∧ (CO r q a19 a29 a39 a49 0 s2 V2 c2 nt2) ∧ R q s2 V2 c2 nt2 (a59 + 1) a69)
def RN_k9 (n : Int) (X Y : Int → Int) : Nat → Int → (Int → Int) → (Int → Int → Int) → Int → (Int → Int) → Int → RR → Prop
  | 0 => fun _ _ _ _ _ _ _ => False
  | k + 1 => RN_s9 n X Y (RN_k9 n X Y k)
def RN (n : Int) (X Y : Int → Int) (a09 : Int) (a19 : (Int → Int)) (a29 : (Int → Int → Int)) (a39 : Int) (a49 : (Int → Int)) (a59 : Int) (a69 : RR) : Prop := ∃ k9 : Nat, RN_k9 n X Y k9 a09 a19 a29 a39 a49 a59 a69
theorem RN.done {n : Int} {X Y : Int → Int} {p c d : Int} {s nt : Int → Int} {V : Int → Int → Int} (h : ¬ p < n) : RN n X Y p s V c nt d ⟨0, n, s, V, c, nt, d⟩ := ⟨1, Or.inl (⟨rfl, h⟩)⟩
theorem RN.syn {n : Int} {X Y : Int → Int} {p c d ce pl : Int} {s nt : Int → Int} {V : Int → Int → Int} (h : p < n) (k : ST n X Y V p (.err ce pl)) : RN n X Y p s V c nt d ⟨ce, pl, s, V, c, nt, d⟩ := ⟨1, Or.inr (Or.inl (⟨ce, pl, rfl, h, k⟩))⟩
theorem RN.bad {n : Int} {X Y : Int → Int} {p c d q e c2 : Int} {s nt s2 nt2 : Int → Int} {V V2 : Int → Int → Int} {r : SR} (h : p < n) (k : ST n X Y V p r) (hc : CO r q s V c nt e s2 V2 c2 nt2) (he : e ≠ 0) : RN n X Y p s V c nt d ⟨e, q - 1, s2, V2, c2, nt2, d⟩ := ⟨1, Or.inr (Or.inr (Or.inl (⟨q, e, c2, s2, nt2, V2, r, rfl, h, k, hc, he⟩)))⟩
theorem RN.ok {n : Int} {X Y : Int → Int} {p c d q c2 : Int} {s nt s2 nt2 : Int → Int} {V V2 : Int → Int → Int} {r : SR} {z : RR} (h : p < n) (k : ST n X Y V p r) (hc : CO r q s V c nt 0 s2 V2 c2 nt2) (kk : RN n X Y q s2 V2 c2 nt2 (d + 1) z) : RN n X Y p s V c nt d z := by
  obtain ⟨m9, hm9⟩ := kk
  exact ⟨m9 + 1, Or.inr (Or.inr (Or.inr (⟨q, c2, s2, nt2, V2, r, h, k, hc, hm9⟩)))⟩
theorem RN.inv {n : Int} {X Y : Int → Int} {a09 : Int} {a19 : (Int → Int)} {a29 : (Int → Int → Int)} {a39 : Int} {a49 : (Int → Int)} {a59 : Int} {a69 : RR} (h9 : RN n X Y a09 a19 a29 a39 a49 a59 a69) : RN_s9 n X Y (RN n X Y) a09 a19 a29 a39 a49 a59 a69 := by
  obtain ⟨m9, hm9⟩ := h9
  cases m9 with
  | zero => exact hm9.elim
  | succ m9 =>
    rcases hm9 with ⟨e0, h0⟩ | ⟨x0, x1, e0, h0, h1⟩ | ⟨x0, x1, x2, x3, x4, x5, x6, e0, h0, h1, h2, h3⟩ | ⟨x0, x1, x2, x3, x4, x5, h0, h1, h2, h3⟩
    · exact Or.inl (⟨e0, h0⟩)
    · exact Or.inr (Or.inl (⟨x0, x1, e0, h0, h1⟩))
    · exact Or.inr (Or.inr (Or.inl (⟨x0, x1, x2, x3, x4, x5, x6, e0, h0, h1, h2, h3⟩)))
    · exact Or.inr (Or.inr (Or.inr (⟨x0, x1, x2, x3, x4, x5, h0, h1, h2, ⟨m9, h3⟩⟩)))
section RNS
variable {n : Int} {X Y : Int → Int} {V V2 : Int → Int → Int} {p q c e c2 d : Int} {s s2 nt nt2 : Int → Int} {r : SR}
theorem EA_VI : ∀ {fs : List (Int → Int)} {s s2 : Int → Int} {V V2 : Int → Int → Int}, VI s V → EA fs s V 0 s2 V2 → VI s2 V2
  | [], _, _, _, _, h, hE => VI_same h hE.2
  | [_], _, _, _, _, h, hE => VI_same h hE.2
  | F :: G :: fs, s, s2, V, V2, h, hE => by
    obtain ⟨e1, s1, V1, a, b⟩ := hE
    rcases b with ⟨n1, n2⟩ | ⟨n1, n2⟩
    · exact absurd n2.symm n1
    · rw [n1] at a
      exact EA_VI (VI_eq h a) n2
theorem CO_VI (h : VI s V) (hc : CO r q s V c nt e s2 V2 c2 nt2) : VI s2 V2 := by
  rcases hc with ⟨_, _, a, _⟩ | ⟨F, g, _, a, _⟩ | ⟨v, L, fs, g, _, a, _⟩ | ⟨fs, g, _, _, _, ⟨_, _, a⟩ | ⟨_, s3, V3, a, b, c⟩⟩
  · exact VI_same h a
  · exact VI_same h a
  · exact VI_same h a
  · exact VI_same h a
  · by_cases z : e = 0
    · rw [z] at a
      exact VI_same (EA_VI h a) (b z)
    · exact VI_same h (c z)
/-! what a statement's derivation says, by its first word -/
theorem ST_nop (h : ST n X Y V p r) (w : xW n X Y p 6) : r = .nop (p + 1) := by
  have hh9 := ST.inv h
  clear h
  rcases hh9 with ⟨e09, _⟩ | ⟨_, _, _, e09, h2, _, _⟩ | ⟨_, _, e09, h2, _⟩ | ⟨_, _, _, e09, h2, _, _⟩ | ⟨_, _, _, _, _, e09, hv, h2, _, _⟩ | ⟨_, _, _, e09, hv, h2, _⟩ | ⟨_, _, _, _, _, e09, hv, h2, _, _⟩ | ⟨_, _, _, e09, h6, _, _, _, _, _⟩ | ⟨_, _, e09, h6, _, _, _, _⟩ | ⟨_, _, _, e09, h6, _, _, _, _, _⟩
  · cases e09 <;> (rfl)
  · cases e09 <;> (exact absurd h2 (xW_ne w (by decide)))
  · cases e09 <;> (exact absurd h2 (xW_ne w (by decide)))
  · cases e09 <;> (exact absurd h2 (xW_ne w (by decide)))
  · cases e09 <;> (exact absurd h2 (by rcases hv with rfl | rfl <;> exact xW_ne w (by decide)))
  · cases e09 <;> (exact absurd h2 (by rcases hv with rfl | rfl <;> exact xW_ne w (by decide)))
  · cases e09 <;> (exact absurd h2 (by rcases hv with rfl | rfl <;> exact xW_ne w (by decide)))
  · cases e09 <;> (exact absurd w h6)
  · cases e09 <;> (exact absurd w h6)
  · cases e09 <;> (exact absurd w h6)
theorem ST_shw (h : ST n X Y V p r) (w : xW n X Y p 12) : ∃ rs : ER, EX n X Y V (p + 1) True rs ∧ (∀ c pl, rs = .err c pl → r = .err c pl) ∧ (∀ q F g, rs = .ok q F g → (xW n X Y q 6 → r = .shw (q + 1) F g) ∧ (¬ xW n X Y q 6 → r = .err (-8) q)) := by
  have hh9 := ST.inv h
  clear h
  rcases hh9 with ⟨e09, h2⟩ | ⟨_, _, _, e09, _, k, h6⟩ | ⟨_, _, e09, _, k⟩ | ⟨_, _, _, e09, _, k, h6⟩ | ⟨_, _, _, _, _, e09, hv, h2, _, _⟩ | ⟨_, _, _, e09, hv, h2, _⟩ | ⟨_, _, _, _, _, e09, hv, h2, _, _⟩ | ⟨_, _, _, e09, _, h2, _, _, _, _⟩ | ⟨_, _, e09, _, h2, _, _, _⟩ | ⟨_, _, _, e09, _, h2, _, _, _, _⟩
  · cases e09 <;> (exact absurd h2 (xW_ne w (by decide)))
  · cases e09 <;> (exact ⟨_, k, fun c pl e => (by cases e), fun q F g e => by cases e; exact ⟨fun _ => rfl, fun z => absurd h6 z⟩⟩)
  · cases e09 <;> (exact ⟨_, k, fun c pl e => by cases e; rfl, fun q F g e => by cases e⟩)
  · cases e09 <;> (exact ⟨_, k, fun c pl e => (by cases e), fun q F g e => by cases e; exact ⟨fun z => absurd z h6, fun _ => rfl⟩⟩)
  · cases e09 <;> (exact absurd h2 (by rcases hv with rfl | rfl <;> exact xW_ne w (by decide)))
  · cases e09 <;> (exact absurd h2 (by rcases hv with rfl | rfl <;> exact xW_ne w (by decide)))
  · cases e09 <;> (exact absurd h2 (by rcases hv with rfl | rfl <;> exact xW_ne w (by decide)))
  · cases e09 <;> (exact absurd w h2)
  · cases e09 <;> (exact absurd w h2)
  · cases e09 <;> (exact absurd w h2)
theorem ST_path {v : Int} (h : ST n X Y V p r) (hv : v = 10 ∨ v = 11) (w : xW n X Y p v) : ∃ rp : QR, PH n X Y V (p + 1) rp ∧ (∀ c pl, rp = .err c pl → r = .err c pl) ∧ (∀ q L fs g, rp = .ok q L fs g → (xW n X Y q 6 → r = .path (q + 1) v L fs g) ∧ (¬ xW n X Y q 6 → r = .err (-8) q)) := by
  have hh9 := ST.inv h
  clear h
  rcases hh9 with ⟨e09, h2⟩ | ⟨_, _, _, e09, h2, _, _⟩ | ⟨_, _, e09, h2, _⟩ | ⟨_, _, _, e09, h2, _, _⟩ | ⟨_, _, _, _, _, e09, hv2, h2, k, h6⟩ | ⟨_, _, _, e09, hv2, h2, k⟩ | ⟨_, _, _, _, _, e09, hv2, h2, k, h6⟩ | ⟨_, _, _, e09, _, _, h10, h11, _, _⟩ | ⟨_, _, e09, _, _, h10, h11, _⟩ | ⟨_, _, _, e09, _, _, h10, h11, _, _⟩
  · cases e09 <;> (exact absurd h2 (by rcases hv with rfl | rfl <;> exact xW_ne w (by decide)))
  · cases e09 <;> (exact absurd h2 (by rcases hv with rfl | rfl <;> exact xW_ne w (by decide)))
  · cases e09 <;> (exact absurd h2 (by rcases hv with rfl | rfl <;> exact xW_ne w (by decide)))
  · cases e09 <;> (exact absurd h2 (by rcases hv with rfl | rfl <;> exact xW_ne w (by decide)))
  · cases e09 <;> (exact ⟨_, k, fun c pl e => (by cases e), fun q L fs g e => by cases e; exact ⟨fun _ => by rw [h2.2.2.symm.trans w.2.2], fun z => absurd h6 z⟩⟩)
  · cases e09 <;> (exact ⟨_, k, fun c pl e => by cases e; rfl, fun q L fs g e => by cases e⟩)
  · cases e09 <;> (exact ⟨_, k, fun c pl e => (by cases e), fun q L fs g e => by cases e; exact ⟨fun z => absurd z h6, fun _ => rfl⟩⟩)
  · cases e09 <;> (exact absurd w (by rcases hv with rfl | rfl; exact h10; exact h11))
  · cases e09 <;> (exact absurd w (by rcases hv with rfl | rfl; exact h10; exact h11))
  · cases e09 <;> (exact absurd w (by rcases hv with rfl | rfl; exact h10; exact h11))
theorem ST_eqs (h : ST n X Y V p r) (h6 : ¬ xW n X Y p 6) (h12 : ¬ xW n X Y p 12) (h10 : ¬ xW n X Y p 10) (h11 : ¬ xW n X Y p 11) : ∃ rq : FQ, EQ n X Y V p rq ∧ (∀ c pl, rq = .err c pl → r = .err c pl) ∧ (∀ q fs g, rq = .ok q fs g → (xW n X Y q 6 → r = .eqs (q + 1) fs g) ∧ (¬ xW n X Y q 6 → r = .err (-8) q)) := by
  have hh9 := ST.inv h
  clear h
  rcases hh9 with ⟨e09, h2⟩ | ⟨_, _, _, e09, h2, _, _⟩ | ⟨_, _, e09, h2, _⟩ | ⟨_, _, _, e09, h2, _, _⟩ | ⟨_, _, _, _, _, e09, hv, h2, _, _⟩ | ⟨_, _, _, e09, hv, h2, _⟩ | ⟨_, _, _, _, _, e09, hv, h2, _, _⟩ | ⟨_, _, _, e09, _, _, _, _, k, he⟩ | ⟨_, _, e09, _, _, _, _, k⟩ | ⟨_, _, _, e09, _, _, _, _, k, he⟩
  · cases e09 <;> (exact absurd h2 h6)
  · cases e09 <;> (exact absurd h2 h12)
  · cases e09 <;> (exact absurd h2 h12)
  · cases e09 <;> (exact absurd h2 h12)
  · cases e09 <;> (exact absurd h2 (by rcases hv with rfl | rfl; exact h10; exact h11))
  · cases e09 <;> (exact absurd h2 (by rcases hv with rfl | rfl; exact h10; exact h11))
  · cases e09 <;> (exact absurd h2 (by rcases hv with rfl | rfl; exact h10; exact h11))
  · cases e09 <;> (exact ⟨_, k, fun c pl e => (by cases e), fun q fs g e => by cases e; exact ⟨fun _ => rfl, fun z => absurd he z⟩⟩)
  · cases e09 <;> (exact ⟨_, k, fun c pl e => by cases e; rfl, fun q fs g e => by cases e⟩)
  · cases e09 <;> (exact ⟨_, k, fun c pl e => (by cases e), fun q fs g e => by cases e; exact ⟨fun z => absurd z he, fun _ => rfl⟩⟩)
theorem RN_end {z : RR} (h : RN n X Y p s V c nt d z) (hp : ¬ p < n) : z = ⟨0, n, s, V, c, nt, d⟩ := by
  have hh9 := RN.inv h
  clear h
  rcases hh9 with ⟨e09, _⟩ | ⟨_, _, e09, h, _⟩ | ⟨_, _, _, _, _, _, _, e09, h, _, _, _⟩ | ⟨_, _, _, _, _, _, h, _, _, _⟩
  · cases e09 <;> (rfl)
  · cases e09 <;> (exact absurd h hp)
  · cases e09 <;> (exact absurd h hp)
  · (exact absurd h hp)
/-- the next statement of a run -/
def RNx (n : Int) (X Y : Int → Int) (r : SR) (q e : Int) (s : Int → Int) (V : Int → Int → Int) (c : Int) (nt : Int → Int) (d : Int) (s2 : Int → Int) (V2 : Int → Int → Int) (c2 : Int) (nt2 : Int → Int) (z : RR) : Prop :=
  (∃ ce pl : Int, r = .err ce pl ∧ z = ⟨ce, pl, s, V, c, nt, d⟩) ∨ (CO r q s V c nt e s2 V2 c2 nt2 ∧ (e ≠ 0 → z = ⟨e, q - 1, s2, V2, c2, nt2, d⟩) ∧ (e = 0 → RN n X Y q s2 V2 c2 nt2 (d + 1) z))
theorem RN_next {z : RR} (h : RN n X Y p s V c nt d z) (hp : p < n) : ∃ (r : SR) (q e c2 : Int) (s2 nt2 : Int → Int) (V2 : Int → Int → Int), ST n X Y V p r ∧ RNx n X Y r q e s V c nt d s2 V2 c2 nt2 z := by
  have hh9 := RN.inv h
  clear h
  rcases hh9 with ⟨e09, h⟩ | ⟨_, _, e09, _, k⟩ | ⟨_, _, _, _, _, _, _, e09, _, k, hc, he⟩ | ⟨_, _, _, _, _, _, _, k, hc, kk⟩
  · cases e09 <;> (exact absurd hp h)
  · cases e09 <;> (exact ⟨_, 0, 0, 0, s, s, V, k, Or.inl ⟨_, _, rfl, rfl⟩⟩)
  · cases e09 <;> (exact ⟨_, _, _, _, _, _, _, k, Or.inr ⟨hc, fun _ => rfl, fun y => absurd y he⟩⟩)
  · (exact ⟨_, _, _, _, _, _, _, k, Or.inr ⟨hc, fun y => absurd rfl y, fun _ => kk⟩⟩)
end RNS
/-- the reference's variables and notes -/
def gRl (s : Int → Int) (V : Int → Int → Int) (c : Int) (nt : Int → Int) (I : Nat → Int) (A : Nat → Int → Int) : Prop := gVs s V A ∧ I 7 = c ∧ (∀ k, 0 ≤ k → k < 8 → A 32 k = nt k) ∧ ∀ z, 0 ≤ z → z < 768 → A 45 z = pic nt z
theorem gVs_q {s s2 : Int → Int} {V V2 : Int → Int → Int} {A : Nat → Int → Int} (h : gVs s V A) (hs : sEq s V s2 V2) : gVs s2 V2 A := by
  refine ⟨fun u u0 u1 => (h.1 u u0 u1).trans (hs u u0 u1).1.symm, fun u u0 u1 => ?_⟩
  obtain ⟨n1, n2, n3⟩ := h.2 u u0 u1
  have q := (hs u u0 u1).2
  exact ⟨inr_v q n1, fun z i i0 i1 => by rw [q i i0 i1]; exact n2 z i i0 i1, fun z i i0 i1 => by rw [q i i0 i1]; exact n3 z i i0 i1⟩
theorem gVs_m {s : Int → Int} {V : Int → Int → Int} {A B : Nat → Int → Int} (h : gVs s V A) (hm : gSm A B) : gVs s V B := by
  refine ⟨fun u u0 u1 => (hm.1 u u0 u1).trans (h.1 u u0 u1), fun u u0 u1 => ?_⟩
  obtain ⟨n1, n2, n3⟩ := h.2 u u0 u1
  rw [hm.1 u u0 u1]
  exact ⟨n1, n2, fun z i i0 i1 => by rw [hm.2 _ (by omega) (by omega)]; exact n3 z i i0 i1⟩
/-- what statement leaves -/
def stQ (r : SR) (q e : Int) (s : Int → Int) (V : Int → Int → Int) (c : Int) (nt : Int → Int) (s2 : Int → Int) (V2 : Int → Int → Int) (c2 : Int) (nt2 : Int → Int) (I J : Nat → Int) (B : Nat → Int → Int) : Prop :=
  (∀ ce pl, r = .err ce pl → J 5 = ce ∧ J 6 = pl ∧ gRl s V c nt J B) ∧ (CO r q s V c nt e s2 V2 c2 nt2 → J 5 = e ∧ (e ≠ 0 → J 6 = q - 1) ∧ (e = 0 → J 4 = q) ∧ gRl s2 V2 c2 nt2 J B)
section STQ
variable {n : Int} {X Y : Int → Int} {r : SR} {q e c c2 : Int} {s nt s2 nt2 : Int → Int} {V V2 : Int → Int → Int} {I J : Nat → Int} {A B : Nat → Int → Int}
theorem st_nop {p : Int} (hr : r = .nop p) (h5 : J 5 = 0) (h4 : J 4 = p) (hl : gRl s V c nt J B) : stQ r q e s V c nt s2 V2 c2 nt2 I J B := by
  subst hr
  refine ⟨fun ce pl z => (by cases z), fun hc => ?_⟩
  rcases hc with ⟨a, b, d, f, g⟩ | ⟨F, g, a, _⟩ | ⟨v, L, fs, g, a, _⟩ | ⟨fs, g, a, _⟩
  · cases a
    exact ⟨by rw [h5, b], fun z => absurd b z, fun _ => h4, gVs_q hl.1 d, by rw [hl.2.1, f], fun k k0 k1 => by rw [hl.2.2.1 k k0 k1, g.1 k k0 k1], fun k k0 k1 => by rw [hl.2.2.2 k k0 k1, g.2 k k0 k1]⟩
  · cases a
  · cases a
  · cases a
theorem gRl_n {I0 J0 : Nat → Int} (hl : gRl s V c nt I A) (h30 : B 30 = A 30 ∧ B 31 = A 31 ∧ B 45 = A 45) (hn : nSm I A J B) : gRl s V c nt J B := ⟨⟨fun u u0 u1 => by rw [h30.1]; exact hl.1.1 u u0 u1, by unfold gVr; rw [h30.1, h30.2.1]; exact hl.1.2⟩, by rw [hn.1]; exact hl.2.1, fun k k0 k1 => by rw [hn.2 k k0 k1]; exact hl.2.2.1 k k0 k1, by rw [h30.2.2]; exact hl.2.2.2⟩
theorem gRl_q (hl : gRl s V c nt J B) (hs : sEq s V s2 V2) (h1 : c2 = c) (h2 : nEq nt nt2) : gRl s2 V2 c2 nt2 J B := ⟨gVs_q hl.1 hs, by rw [hl.2.1, h1], fun k k0 k1 => by rw [hl.2.2.1 k k0 k1, h2.1 k k0 k1], fun k k0 k1 => by rw [hl.2.2.2 k k0 k1, h2.2 k k0 k1]⟩
theorem st_shw {rs : ER} (h30 : B 30 = A 30 ∧ B 31 = A 31 ∧ B 45 = A 45) (hl : gRl s V c nt I A) (h1 : ∀ c pl, rs = .err c pl → r = .err c pl) (h2 : ∀ q F g, rs = .ok q F g → (xW n X Y q 6 → r = .shw (q + 1) F g) ∧ (¬ xW n X Y q 6 → r = .err (-8) q)) (hq : shQ n X Y rs I A J B) : stQ r q e s V c nt s2 V2 c2 nt2 I J B := by
  rcases rs with ⟨q0, F, g⟩ | ⟨ce, pl⟩
  · obtain ⟨a1, a2⟩ := hq.2 q0 F g rfl
    obtain ⟨b1, b2⟩ := h2 q0 F g rfl
    by_cases w : xW n X Y q0 6
    · have hr := b1 w
      subst hr
      obtain ⟨c4, c9, c12, c0⟩ := a2 w
      refine ⟨fun ce pl z => (by cases z), fun hc => ?_⟩
      rcases hc with ⟨a, _⟩ | ⟨F2, g2, a, hs, hc⟩ | ⟨v, L, fs, g2, a, _⟩ | ⟨fs, g2, a, _⟩
      · cases a
      · cases a
        rcases hc with ⟨x, y, u, v⟩ | ⟨x, y, u, v, w2⟩ | ⟨x, y, u, v, w2, t, pp⟩
        · obtain ⟨z1, z2, z3⟩ := c9 x
          exact ⟨by rw [z1, y], fun _ => by omega, fun z => by omega, gRl_q (gRl_n (I0 := I) (J0 := J) hl h30 z3) hs u v⟩
        · obtain ⟨z1, z2, z3⟩ := c12 x y
          exact ⟨by rw [z1, u], fun _ => by omega, fun z => by omega, gRl_q (gRl_n (I0 := I) (J0 := J) hl h30 z3) hs v w2⟩
        · obtain ⟨z1, z2, z3, z4⟩ := c0 x y
          refine ⟨by rw [z1, u], fun z => absurd u z, fun _ => c4, gVs_q ⟨fun u u0 u1 => by rw [h30.1]; exact hl.1.1 u u0 u1, by unfold gVr; rw [h30.1, h30.2.1]; exact hl.1.2⟩ hs, by rw [z2, hl.2.1, v], fun k k0 k1 => ?_, fun k k0 k1 => by rw [h30.2.2, hl.2.2.2 k k0 k1, pp k k0 k1]⟩
          by_cases k9 : k = 0
          · rw [k9, z3, w2]
          · rw [z4 k (by omega) k1, t k (by omega) k1]
            exact hl.2.2.1 (k - 1) (by omega) (by omega)
      · cases a
      · cases a
    · have hr := b2 w
      subst hr
      obtain ⟨z1, z2, z3⟩ := a1 w
      refine ⟨fun ce pl z => by cases z; exact ⟨z1, z2, gRl_n (I0 := I) (J0 := J) hl h30 z3⟩, fun hc => ?_⟩
      rcases hc with ⟨a, _⟩ | ⟨F2, g2, a, _⟩ | ⟨v, L, fs, g2, a, _⟩ | ⟨fs, g2, a, _⟩ <;> cases a
  · have hr := h1 ce pl rfl
    subst hr
    obtain ⟨z1, z2, z3⟩ := hq.1 ce pl rfl
    refine ⟨fun ce pl z => by cases z; exact ⟨z1, z2, gRl_n (I0 := I) (J0 := J) hl h30 z3⟩, fun hc => ?_⟩
    rcases hc with ⟨a, _⟩ | ⟨F2, g2, a, _⟩ | ⟨v, L, fs, g2, a, _⟩ | ⟨fs, g2, a, _⟩ <;> cases a
/-- the same but for the picture -/
theorem gRl_p (hv : gVs s V B) (h7 : J 7 = c) (hk : ∀ k, 0 ≤ k → k < 8 → B 32 k = nt k) (hs : sEq s V s2 V2) (h1 : c2 = c) (h2 : nE8 nt nt2) (hp : ∀ z, 0 ≤ z → z < 768 → B 45 z = pic nt2 z) : gRl s2 V2 c2 nt2 J B := ⟨gVs_q hv hs, by rw [h7, h1], fun k k0 k1 => by rw [hk k k0 k1, h2 k k0 k1], hp⟩
theorem st_path {rp : QR} {v : Int} (hv : gVs s V B) (h7 : J 7 = c) (hk : ∀ k, 0 ≤ k → k < 8 → B 32 k = nt k) (h45 : ∀ z, 0 ≤ z → z < 768 → A 45 z = pic nt z) (h1 : ∀ c pl, rp = .err c pl → r = .err c pl) (h2 : ∀ q L fs g, rp = .ok q L fs g → (xW n X Y q 6 → r = .path (q + 1) v L fs g) ∧ (¬ xW n X Y q 6 → r = .err (-8) q)) (e9 : Int) (he : CO r q s V c nt e s2 V2 c2 nt2 → ∀ q L fs g, r = .path q v L fs g → g → L.length ≤ 12 → e9 = e) (hq : phQ n X Y rp e9 (vCl v) A J B) : stQ r q e s V c nt s2 V2 c2 nt2 I J B := by
  have hsame : B 45 = A 45 → gRl s V c nt J B := fun e => ⟨hv, h7, hk, fun z z0 z1 => by rw [e]; exact h45 z z0 z1⟩
  rcases rp with ⟨q0, L, fs, g⟩ | ⟨ce, pl⟩
  · obtain ⟨a1, a2⟩ := hq.2 q0 L fs g rfl
    obtain ⟨b1, b2⟩ := h2 q0 L fs g rfl
    by_cases w : xW n X Y q0 6
    · have hr := b1 w
      obtain ⟨c4, c9, c7, c0⟩ := a2 w
      refine ⟨fun ce pl z => (by rw [hr] at z; cases z), fun hc => ?_⟩
      have he9 := he hc _ _ _ _ hr
      subst hr
      rcases hc with ⟨a, _⟩ | ⟨F2, g2, a, _⟩ | ⟨v2, L2, fs2, g2, a, hs, x1, x2, hc⟩ | ⟨fs2, g2, a, _⟩
      · cases a
      · cases a
      · cases a
        have hp1 : B 45 = A 45 → pEq nt nt2 → gRl s2 V2 c2 nt2 J B := fun e pp => gRl_p hv h7 hk hs x1 x2 (fun z z0 z1 => by rw [e, h45 z z0 z1, pp z z0 z1])
        rcases hc with ⟨x, y, pp⟩ | ⟨x, y, u, pp⟩ | ⟨x, y, u, pp, pt⟩
        · obtain ⟨z1, z2, z3⟩ := c9 x
          exact ⟨by rw [z1, y], fun _ => by omega, fun z => by omega, hp1 z3 pp⟩
        · obtain ⟨z1, z2, z3⟩ := c7 x y
          exact ⟨by rw [z1, u], fun _ => by omega, fun z => by omega, hp1 z3 pp⟩
        · obtain ⟨z1, z2, z3⟩ := c0 x y
          have e8 := he9 x y
          refine ⟨by rw [z1, e8], fun z => by have := (z2 (by rw [e8]; exact z)).1; omega, fun _ => c4, ?_⟩
          by_cases ez : e = 0
          · refine gRl_p hv h7 hk hs x1 x2 (fun z k0 k1 => ?_)
            rw [z3 (by rw [e8]; exact ez) z k0 k1, pt ez z k0 k1, h45 z k0 k1]
          · exact hp1 (z2 (by rw [e8]; exact ez)).2 (pp ez)
      · cases a
    · have hr := b2 w
      subst hr
      obtain ⟨z1, z2, z3⟩ := a1 w
      refine ⟨fun ce pl z => by cases z; exact ⟨z1, z2, hsame z3⟩, fun hc => ?_⟩
      rcases hc with ⟨a, _⟩ | ⟨F2, g2, a, _⟩ | ⟨v, L, fs, g2, a, _⟩ | ⟨fs, g2, a, _⟩ <;> cases a
  · have hr := h1 ce pl rfl
    subst hr
    obtain ⟨z1, z2, z3⟩ := hq.1 ce pl rfl
    refine ⟨fun ce pl z => by cases z; exact ⟨z1, z2, hsame z3⟩, fun hc => ?_⟩
    rcases hc with ⟨a, _⟩ | ⟨F2, g2, a, _⟩ | ⟨v, L, fs, g2, a, _⟩ | ⟨fs, g2, a, _⟩ <;> cases a
theorem st_eqs {rq : FQ} (hv : gVs s V A) (hn : J 7 = c ∧ (∀ k, 0 ≤ k → k < 8 → B 32 k = nt k) ∧ ∀ z, 0 ≤ z → z < 768 → B 45 z = pic nt z) (h1 : ∀ c pl, rq = .err c pl → r = .err c pl) (h2 : ∀ q fs g, rq = .ok q fs g → (xW n X Y q 6 → r = .eqs (q + 1) fs g) ∧ (¬ xW n X Y q 6 → r = .err (-8) q)) {e9 : Int} {s9 : Int → Int} {V8 : Int → Int → Int} (he : CO r q s V c nt e s2 V2 c2 nt2 → ∀ q fs g, r = .eqs q fs g → g → e9 = e ∧ (e = 0 → sEq s9 V8 s2 V2) ∧ (e ≠ 0 → sEq s V s2 V2)) (hq : qQ n X Y rq e9 s9 V8 A J B) : stQ r q e s V c nt s2 V2 c2 nt2 I J B := by
  rcases rq with ⟨q0, fs, g⟩ | ⟨ce, pl⟩
  · obtain ⟨a1, a2⟩ := hq.2 q0 fs g rfl
    obtain ⟨b1, b2⟩ := h2 q0 fs g rfl
    by_cases w : xW n X Y q0 6
    · have hr := b1 w
      obtain ⟨c4, c9, c0⟩ := a2 w
      refine ⟨fun ce pl z => (by rw [hr] at z; cases z), fun hc => ?_⟩
      have he9 := he hc _ _ _ hr
      subst hr
      rcases hc with ⟨a, _⟩ | ⟨F2, g2, a, _⟩ | ⟨v2, L2, fs2, g2, a, _⟩ | ⟨fs2, g2, a, x1, x2, hc⟩
      · cases a
      · cases a
      · cases a
      · cases a
        have hnn : J 7 = c2 ∧ (∀ k, 0 ≤ k → k < 8 → B 32 k = nt2 k) ∧ ∀ z, 0 ≤ z → z < 768 → B 45 z = pic nt2 z := ⟨by rw [hn.1, x1], fun k k0 k1 => by rw [hn.2.1 k k0 k1, x2.1 k k0 k1], fun k k0 k1 => by rw [hn.2.2 k k0 k1, x2.2 k k0 k1]⟩
        rcases hc with ⟨x, y, u⟩ | ⟨x, _⟩
        · obtain ⟨z1, z2, z3⟩ := c9 x
          exact ⟨by rw [z1, y], fun _ => by omega, fun z => by omega, gVs_q (gVs_m hv z3) u, hnn⟩
        · obtain ⟨z1, z2, z3⟩ := c0 x
          obtain ⟨y1, y2, y3⟩ := he9 x
          refine ⟨by rw [z1, y1], fun z => by have := (z2 (by rw [y1]; exact z)).1; omega, fun _ => c4, ?_, hnn⟩
          by_cases z : e = 0
          · exact gVs_q (z3 (by rw [y1]; exact z)) (y2 z)
          · exact gVs_q (gVs_m hv (z2 (by rw [y1]; exact z)).2) (y3 z)
    · have hr := b2 w
      subst hr
      obtain ⟨z1, z2, z3⟩ := a1 w
      refine ⟨fun ce pl z => by cases z; exact ⟨z1, z2, gVs_m hv z3, hn⟩, fun hc => ?_⟩
      rcases hc with ⟨a, _⟩ | ⟨F2, g2, a, _⟩ | ⟨v, L, fs, g2, a, _⟩ | ⟨fs, g2, a, _⟩ <;> cases a
  · have hr := h1 ce pl rfl
    subst hr
    obtain ⟨z1, z2, z3⟩ := hq.1 ce pl rfl
    refine ⟨fun ce pl z => by cases z; exact ⟨z1, z2, gVs_m hv z3, hn⟩, fun hc => ?_⟩
    rcases hc with ⟨a, _⟩ | ⟨F2, g2, a, _⟩ | ⟨v, L, fs, g2, a, _⟩ | ⟨fs, g2, a, _⟩ <;> cases a
theorem co_path {rp : QR} {v : Int} (h2 : ∀ q L fs g, rp = .ok q L fs g → (xW n X Y q 6 → r = .path (q + 1) v L fs g) ∧ (¬ xW n X Y q 6 → r = .err (-8) q)) (hC : (∃ ce pl : Int, r = .err ce pl) ∨ CO r q s V c nt e s2 V2 c2 nt2) : ∃ e8 : Int, (∀ q L fs g, rp = .ok q L fs g → xW n X Y q 6 → g → L.length ≤ 12 → TN fs e8) ∧ (CO r q s V c nt e s2 V2 c2 nt2 → ∀ q L fs g, r = .path q v L fs g → g → L.length ≤ 12 → e8 = e) := by
  refine ⟨e, fun q0 L fs g hr w hg hl => ?_, fun _ _ _ _ _ _ _ _ => rfl⟩
  have h := (h2 q0 L fs g hr).1 w
  subst h
  rcases hC with ⟨ce, pl, z⟩ | hc
  · cases z
  · rcases hc with ⟨a, _⟩ | ⟨F2, g2, a, _⟩ | ⟨v2, L2, fs2, g2, a, hs, x1, x2, hc⟩ | ⟨fs2, g2, a, _⟩
    · cases a
    · cases a
    · cases a
      rcases hc with ⟨x, _⟩ | ⟨_, y, _⟩ | ⟨_, _, u, _⟩
      · exact absurd hg x
      · omega
      · exact u
    · cases a
theorem co_eqs {rq : FQ} (hs30 : ∀ u, 0 ≤ u → u < 12 → A 30 u = s u) (h2 : ∀ q fs g, rq = .ok q fs g → (xW n X Y q 6 → r = .eqs (q + 1) fs g) ∧ (¬ xW n X Y q 6 → r = .err (-8) q)) (hC : (∃ ce pl : Int, r = .err ce pl) ∨ CO r q s V c nt e s2 V2 c2 nt2) : ∃ (e8 : Int) (s8 : Int → Int) (V8 : Int → Int → Int), (∀ q fs g, rq = .ok q fs g → xW n X Y q 6 → g → EA fs (A 30) V e8 s8 V8) ∧ (CO r q s V c nt e s2 V2 c2 nt2 → ∀ q fs g, r = .eqs q fs g → g → e8 = e ∧ (e = 0 → sEq s8 V8 s2 V2) ∧ (e ≠ 0 → sEq s V s2 V2)) := by
  rcases hC with ⟨ce, pl, z⟩ | hc
  · subst z
    refine ⟨0, s, V, fun q0 fs g hr w hg => ?_, fun _ _ _ _ y => by cases y⟩
    have h := (h2 q0 fs g hr).1 w
    cases h
  · rcases hc with ⟨a, _⟩ | ⟨F2, g2, a, _⟩ | ⟨v2, L2, fs2, g2, a, _⟩ | ⟨fs2, g2, a, x1, x2, hc⟩
    · subst a
      refine ⟨0, s, V, fun q0 fs g hr w hg => ?_, fun _ _ _ _ y => by cases y⟩
      have h := (h2 q0 fs g hr).1 w
      cases h
    · subst a
      refine ⟨0, s, V, fun q0 fs g hr w hg => ?_, fun _ _ _ _ y => by cases y⟩
      have h := (h2 q0 fs g hr).1 w
      cases h
    · subst a
      refine ⟨0, s, V, fun q0 fs g hr w hg => ?_, fun _ _ _ _ y => by cases y⟩
      have h := (h2 q0 fs g hr).1 w
      cases h
    · subst a
      rcases hc with ⟨x, y, u⟩ | ⟨x, s3, V3, y, u, t⟩
      · refine ⟨0, s, V, fun q0 fs g hr w hg => ?_, fun _ _ _ _ h hg => ?_⟩
        · have h := (h2 q0 fs g hr).1 w
          cases h
          exact absurd hg x
        · cases h
          exact absurd hg x
      · refine ⟨e, s3, V3, fun q0 fs g hr w hg => ?_, fun _ _ _ _ h hg => ⟨rfl, u, t⟩⟩
        have h := (h2 q0 fs g hr).1 w
        cases h
        exact EA_s hs30 y
end STQ

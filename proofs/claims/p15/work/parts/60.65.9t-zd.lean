/-! a statement takes tokens; the class's notes; CARRYING OUT, from what the reader keeps -/
section ADV
variable {n : Int} {X Y : Int → Int} {V : Int → Int → Int}
theorem RE_m : ∀ (k9 : Nat) (st : ES) (r : ER), RE_k9 n X Y V k9 st r → ∀ q F g, r = .ok q F g → ps st ≤ q := by
  intro k9
  induction k9 with
  | zero => exact fun _ _ h => h.elim
  | succ k9 ih =>
    intro st r h
    rcases h with ⟨p0, S0, g0, e09, h, k⟩ | ⟨p0, S0, g0, e09, h, h2, h3, hd, k⟩ | ⟨p0, S0, g0, e09, e19, h, h2, h3⟩ | ⟨p0, S0, g0, e09, e19, h, h2, h3, hd⟩ | ⟨p0, S0, g0, e09, h, h2, h3, k⟩ | ⟨p0, S0, g0, F0, e09, h, h2, h3, hF, k⟩ | ⟨p0, S0, g0, F0, e09, h, hF, k⟩ | ⟨p0, S0, g0, e09, h, hd, k⟩ | ⟨p0, S0, g0, e09, e19, h, hd⟩ | ⟨p0, S0, g0, e09, e19, h1, h2, h3, h4⟩ | ⟨p0, S0, g0, F0, F20, e09, hF, hb, k⟩ | ⟨p0, c0, S0, g0, g20, F0, F20, e09, hg, hF, k⟩ | ⟨p0, S0, g0, F0, F20, e09, hF, k⟩ | ⟨p0, S0, g0, F0, F20, U0, e09, hF, hb, k⟩ | ⟨p0, S0, g0, F0, F20, U0, e09, hF, hb, k⟩ | ⟨p0, S0, g0, F0, e09, h, k⟩ | ⟨p0, S0, g0, F0, e09, h, k⟩ | ⟨p0, S0, g0, F0, e09, h, k⟩ | ⟨p0, S0, g0, g20, F0, e09, h0, h1, hg, k⟩ | ⟨p0, S0, g0, F0, e09, h, k⟩ | ⟨p0, S0, g0, F0, e09, e19, h⟩ | ⟨p0, c0, S0, g0, F0, U0, e09, h, hU, k⟩ | ⟨p0, c0, S0, g0, F0, e09, e19, h⟩ | ⟨p0, c0, S0, g0, g20, F0, F20, U0, e09, h, hg, hF, k⟩ | ⟨p0, c0, S0, g0, F0, U0, e09, e19, h⟩ | ⟨p0, g0, F0, e09, e19⟩
    · cases e09 <;> (exact fun q F g e => by have i : p0 + 1 ≤ q := ih _ _ k q F g e; exact (show p0 ≤ q by omega))
    · cases e09 <;> (exact fun q F g e => by have i : p0 + 2 + 1 ≤ q := ih _ _ k q F g e; exact (show p0 ≤ q by omega))
    · cases e09 <;> cases e19 <;> (exact fun q F g e => by cases e)
    · cases e09 <;> cases e19 <;> (exact fun q F g e => by cases e)
    · cases e09 <;> (exact fun q F g e => by have i : p0 + 1 ≤ q := ih _ _ k q F g e; exact (show p0 ≤ q by omega))
    · cases e09 <;> (exact fun q F g e => by have i : p0 + 1 ≤ q := ih _ _ k q F g e; exact (show p0 ≤ q by omega))
    · cases e09 <;> (exact fun q F g e => by have i : p0 + 1 ≤ q := ih _ _ k q F g e; exact (show p0 ≤ q by omega))
    · cases e09 <;> (exact fun q F g e => by have i : p0 + 1 ≤ q := ih _ _ k q F g e; exact (show p0 ≤ q by omega))
    · cases e09 <;> cases e19 <;> (exact fun q F g e => by cases e)
    · cases e09 <;> cases e19 <;> (exact fun q F g e => by cases e)
    · cases e09 <;> (exact fun q F g e => by have i : p0 ≤ q := ih _ _ k q F g e; exact (show p0 ≤ q by omega))
    · cases e09 <;> (exact fun q F g e => by have i : p0 ≤ q := ih _ _ k q F g e; exact (show p0 ≤ q by omega))
    · cases e09 <;> (exact fun q F g e => by have i : p0 ≤ q := ih _ _ k q F g e; exact (show p0 ≤ q by omega))
    · cases e09 <;> (exact fun q F g e => by have i : p0 ≤ q := ih _ _ k q F g e; exact (show p0 ≤ q by omega))
    · cases e09 <;> (exact fun q F g e => by have i : p0 ≤ q := ih _ _ k q F g e; exact (show p0 ≤ q by omega))
    · cases e09 <;> (exact fun q F g e => by have i : p0 ≤ q := ih _ _ k q F g e; exact (show p0 ≤ q by omega))
    · cases e09 <;> (exact fun q F g e => by have i : p0 + 1 ≤ q := ih _ _ k q F g e; exact (show p0 ≤ q by omega))
    · cases e09 <;> (exact fun q F g e => by have i : p0 + 1 ≤ q := ih _ _ k q F g e; exact (show p0 ≤ q by omega))
    · cases e09 <;> (exact fun q F g e => by have i : p0 ≤ q := ih _ _ k q F g e; exact (show p0 ≤ q by omega))
    · cases e09 <;> (exact fun q F g e => by have i : p0 + 1 ≤ q := ih _ _ k q F g e; exact (show p0 ≤ q by omega))
    · cases e09 <;> cases e19 <;> (exact fun q F g e => by cases e)
    · cases e09 <;> (exact fun q F g e => by have i : p0 + 1 ≤ q := ih _ _ k q F g e; exact (show p0 ≤ q by omega))
    · cases e09 <;> cases e19 <;> (exact fun q F g e => by cases e)
    · cases e09 <;> (exact fun q F g e => by have i : p0 + 1 ≤ q := ih _ _ k q F g e; exact (show p0 ≤ q by omega))
    · cases e09 <;> cases e19 <;> (exact fun q F g e => by cases e)
    · cases e09 <;> cases e19 <;> (exact fun q F g e => (by cases e; exact Int.le_refl _))
theorem EX_m {p : Int} {g : Prop} {r : ER} (h : EX n X Y V p g r) : ∀ q F g, r = .ok q F g → p ≤ q := by
  obtain ⟨⟨k9, h1⟩, h2⟩ := h
  exact RE_m k9 _ _ h1
theorem PA_m {p : Int} {g : Prop} {r : PRs} (h : PA n X Y V p g r) : ∀ q F1 F2 g, r = .ok q F1 F2 g → p ≤ q := by
  rcases h with ⟨e09, h⟩ | ⟨c0, pl0, e09, h, k⟩ | ⟨q0, g10, F0, e09, h, k, h5⟩ | ⟨q0, c0, pl0, g10, F0, e09, h, k, h5, k2⟩ | ⟨q0, q20, g10, g20, F0, F20, e09, h, k, h5, k2, h4⟩ | ⟨q0, q20, g10, g20, F0, F20, e09, h, k, h5, k2, h4⟩
  · cases e09 <;> (exact fun q F1 F2 g e => by cases e)
  · cases e09 <;> (exact fun q F1 F2 g e => by cases e)
  · cases e09 <;> (exact fun q F1 F2 g e => by cases e)
  · cases e09 <;> (exact fun q F1 F2 g e => by cases e)
  · cases e09 <;> (exact fun q F1 F2 g e => by cases e)
  · cases e09 <;> (exact fun q F1 F2 g e => by cases e; have i := EX_m k _ _ _ rfl; have i2 := EX_m k2 _ _ _ rfl; omega)
theorem PL_m : ∀ (k9 : Nat) (p : Int) (L : List Int) (fs : List (Int → Int)) (g : Prop) (r : QR), PL_k9 n X Y V k9 p L fs g r → ∀ q L2 fs2 g2, r = .ok q L2 fs2 g2 → p ≤ q := by
  intro k9
  induction k9 with
  | zero => exact fun _ _ _ _ _ h => h.elim
  | succ k9 ih =>
    intro p L fs g r h
    rcases h with ⟨e09, h, h9⟩ | ⟨e09, h, h7⟩ | ⟨q0, g20, F10, F20, h, h9, k, kk⟩ | ⟨c0, pl0, e09, h, h9, k⟩ | ⟨q10, q20, q30, g10, g20, g30, F10, F20, F30, F40, F50, F60, h, k, h2, k2, h3, k3, kk⟩ | ⟨c0, pl0, e09, h, k⟩ | ⟨q10, g10, F10, F20, e09, h, k, h2⟩ | ⟨q10, c0, pl0, g10, F10, F20, e09, h, k, h2, k2⟩ | ⟨q10, q20, g10, g20, F10, F20, F30, F40, e09, h, k, h2, k2, h3⟩ | ⟨q10, q20, c0, pl0, g10, g20, F10, F20, F30, F40, e09, h, k, h2, k2, h3, k3⟩
    · cases e09 <;> (exact fun q L2 fs2 g2 e => (by cases e; omega))
    · cases e09 <;> (exact fun q L2 fs2 g2 e => by cases e)
    · (exact fun q L2 fs2 g2 e => by have i := PA_m k _ _ _ _ rfl; have j := ih _ _ _ _ _ kk q L2 fs2 g2 e; omega)
    · cases e09 <;> (exact fun q L2 fs2 g2 e => by cases e)
    · (exact fun q L2 fs2 g2 e => by have i := PA_m k _ _ _ _ rfl; have i2 := PA_m k2 _ _ _ _ rfl; have i3 := PA_m k3 _ _ _ _ rfl; have j := ih _ _ _ _ _ kk q L2 fs2 g2 e; omega)
    · cases e09 <;> (exact fun q L2 fs2 g2 e => by cases e)
    · cases e09 <;> (exact fun q L2 fs2 g2 e => by cases e)
    · cases e09 <;> (exact fun q L2 fs2 g2 e => by cases e)
    · cases e09 <;> (exact fun q L2 fs2 g2 e => by cases e)
    · cases e09 <;> (exact fun q L2 fs2 g2 e => by cases e)
theorem PH_m {p : Int} {r : QR} (h : PH n X Y V p r) : ∀ q L fs g, r = .ok q L fs g → p ≤ q := by
  rcases h with ⟨c0, pl0, e09, k⟩ | ⟨q0, g0, F10, F20, k, kk⟩
  · cases e09 <;> (exact fun q L fs g e => by cases e)
  · (exact fun q L fs g e => by have i := PA_m k _ _ _ _ rfl; obtain ⟨k9, kk⟩ := kk; have j := PL_m k9 _ _ _ _ _ kk q L fs g e; omega)
theorem EQL_m : ∀ (k9 : Nat) (p : Int) (fs : List (Int → Int)) (g : Prop) (r : FQ), EQL_k9 n X Y V k9 p fs g r → ∀ q fs2 g2, r = .ok q fs2 g2 → p ≤ q := by
  intro k9
  induction k9 with
  | zero => exact fun _ _ _ _ h => h.elim
  | succ k9 ih =>
    intro p fs g r h
    rcases h with ⟨q0, g10, F0, h, k, kk⟩ | ⟨c0, pl0, e09, h, k⟩ | ⟨e09, h, h1⟩ | ⟨e09, h, h1⟩
    · (exact fun q fs2 g2 e => by have i := EX_m k _ _ _ rfl; have j := ih _ _ _ _ kk q fs2 g2 e; omega)
    · cases e09 <;> (exact fun q fs2 g2 e => by cases e)
    · cases e09 <;> (exact fun q fs2 g2 e => by cases e)
    · cases e09 <;> (exact fun q fs2 g2 e => (by cases e; omega))
theorem EQ_m {p : Int} {r : FQ} (h : EQ n X Y V p r) : ∀ q fs g, r = .ok q fs g → p ≤ q := by
  rcases h with ⟨c0, pl0, e09, k⟩ | ⟨q0, g0, F0, k, kk⟩
  · cases e09 <;> (exact fun q fs g e => by cases e)
  · (exact fun q fs g e => by have i := EX_m k _ _ _ rfl; obtain ⟨k9, kk⟩ := kk; have j := EQL_m k9 _ _ _ _ kk q fs g e; omega)
def okA (p : Int) (r : SR) : Prop := (∀ q, r = .nop q → p < q) ∧ (∀ q F g, r = .shw q F g → p < q) ∧ (∀ q v L fs g, r = .path q v L fs g → p < q) ∧ (∀ q fs g, r = .eqs q fs g → p < q)
theorem okA_e {p c pl : Int} : okA p (.err c pl) := ⟨fun q e => (by cases e), fun q F g e => (by cases e), fun q v L fs g e => (by cases e), fun q fs g e => by cases e⟩
theorem ST_m {p : Int} {r : SR} (h : ST n X Y V p r) : okA p r := by
  rcases h with ⟨e09, h⟩ | ⟨q0, F0, g0, e09, h, k, h6⟩ | ⟨c0, pl0, e09, h, k⟩ | ⟨q0, F0, g0, e09, h, k, h6⟩ | ⟨q0, v0, L0, fs0, g0, e09, hv, h, k, h6⟩ | ⟨v0, c0, pl0, e09, hv, h, k⟩ | ⟨q0, v0, L0, fs0, g0, e09, hv, h, k, h6⟩ | ⟨q0, fs0, g0, e09, h6, h12, h10, h11, k, he⟩ | ⟨c0, pl0, e09, h6, h12, h10, h11, k⟩ | ⟨q0, fs0, g0, e09, h6, h12, h10, h11, k, he⟩
  · cases e09 <;> (exact ⟨fun q e => (by cases e; omega), fun q F g e => (by cases e), fun q v L fs g e => (by cases e), fun q fs g e => by cases e⟩)
  · cases e09 <;> (have i := EX_m k _ _ _ rfl; exact ⟨fun q e => (by cases e), fun q F g e => (by cases e; omega), fun q v L fs g e => (by cases e), fun q fs g e => by cases e⟩)
  · cases e09 <;> (exact okA_e)
  · cases e09 <;> (exact okA_e)
  · cases e09 <;> (have i := PH_m k _ _ _ _ rfl; exact ⟨fun q e => (by cases e), fun q F g e => (by cases e), fun q v L fs g e => (by cases e; omega), fun q fs g e => by cases e⟩)
  · cases e09 <;> (exact okA_e)
  · cases e09 <;> (exact okA_e)
  · cases e09 <;> (have i := EQ_m k _ _ _ rfl; exact ⟨fun q e => (by cases e), fun q F g e => (by cases e), fun q v L fs g e => (by cases e), fun q fs g e => (by cases e; omega)⟩)
  · cases e09 <;> (exact okA_e)
  · cases e09 <;> (exact okA_e)
theorem CO_m {p q c e c2 : Int} {r : SR} {s nt s2 nt2 : Int → Int} {V1 V2 : Int → Int → Int} (h : CO r q s V1 c nt e s2 V2 c2 nt2) (hs : ST n X Y V p r) : p < q := by
  have k := ST_m hs
  rcases h with ⟨a, _⟩ | ⟨F2, g2, a, _⟩ | ⟨v2, L2, fs2, g2, a, _⟩ | ⟨fs2, g2, a, _⟩
  · exact k.1 _ a
  · exact k.2.1 _ _ _ a
  · exact k.2.2.1 _ _ _ _ _ a
  · exact k.2.2.2 _ _ _ a
/-- what a statement's forms are -/
theorem ST_q {p q : Int} {fs : List (Int → Int)} {g : Prop} (h : ST n X Y V p (.eqs q fs g)) : (g → aIn fs) ∧ 2 ≤ fs.length := by
  have hh9 := ST.inv h
  clear h
  rcases hh9 with ⟨e09, _⟩ | ⟨_, _, _, e09, _, _, _⟩ | ⟨_, _, e09, _, _⟩ | ⟨_, _, _, e09, _, _, _⟩ | ⟨_, _, _, _, _, e09, _, _, _, _⟩ | ⟨_, _, _, e09, _, _, _⟩ | ⟨_, _, _, _, _, e09, _, _, _, _⟩ | ⟨_, _, _, e09, h6, h12, h10, h11, k, he⟩ | ⟨_, _, e09, _, _, _, _, _⟩ | ⟨_, _, _, e09, _, _, _, _, _, _⟩
  · cases e09
  · cases e09
  · cases e09
  · cases e09
  · cases e09
  · cases e09
  · cases e09
  · cases e09 <;> (exact EQ_say k)
  · cases e09
  · cases e09
theorem ST_p {p q v : Int} {L : List Int} {fs : List (Int → Int)} {g : Prop} (h : ST n X Y V p (.path q v L fs g)) : (g → aIn fs) ∧ fs.length = 2 + nLg L ∧ aLg L := by
  have hh9 := ST.inv h
  clear h
  rcases hh9 with ⟨e09, _⟩ | ⟨_, _, _, e09, _, _, _⟩ | ⟨_, _, e09, _, _⟩ | ⟨_, _, _, e09, _, _, _⟩ | ⟨_, _, _, _, _, e09, hv, h, k, h6⟩ | ⟨_, _, _, e09, _, _, _⟩ | ⟨_, _, _, _, _, e09, _, _, _, _⟩ | ⟨_, _, _, e09, _, _, _, _, _, _⟩ | ⟨_, _, e09, _, _, _, _, _⟩ | ⟨_, _, _, e09, _, _, _, _, _, _⟩
  · cases e09
  · cases e09
  · cases e09
  · cases e09
  · cases e09 <;> (exact PH_say k)
  · cases e09
  · cases e09
  · cases e09
  · cases e09
  · cases e09
end ADV
/-- a row that is expanded without an error is expanded to its end -/
theorem XE_pl {mp ml : Int → Int} {mK mV : Int → Int → Int} : ∀ (k9 : Nat) (n : Int) (X Y D : Int → Int) (k r : Int) (z : XR), XE_k9 mp ml mK mV k9 n X Y D k r z → 0 ≤ k → k ≤ n → z.e = 0 → z.pl = z.n := by
  intro k9
  induction k9 with
  | zero => exact fun _ _ _ _ _ _ _ h => h.elim
  | succ k9 ih =>
    intro n X Y D k r z h k0 k1 he
    rcases h with ⟨e09, h⟩ | ⟨e09, h, h2⟩ | ⟨h, h2, h3, hn⟩ | ⟨y0, r20, n20, X20, Y20, D20, e09, h, h3, hc, hy⟩ | ⟨r20, n20, X20, Y20, D20, h, h3, hc, hn⟩
    · cases e09 <;> (show k = n; omega)
    · cases e09 <;> (have h9 : (-3 : Int) = 0 := he; omega)
    · (exact ih _ _ _ _ _ _ _ hn (by omega) (by omega) he)
    · cases e09 <;> (exact absurd he hy)
    · refine ih _ _ _ _ _ _ _ hn k0 ?_ he
      have q := hc.2.2.2
      by_cases p1 : mp (Y k) = -1
      · exact absurd (hc.1 p1).1 (by decide)
      · by_cases p2 : D k < 6
        · by_cases p3 : mp (Y k) ≠ 0 → xAok n X Y k (mp (Y k))
          · obtain ⟨_, S, E, _, a, c⟩ := q p1 p2 p3
            by_cases p4 : (300 < ((xP n X Y D (mK (Y k)) (mV (Y k)) S E (ml (Y k)) (mp (Y k)) k).length : Int) ∨ 100 < r + 1)
            · exact absurd (a p4) (by decide)
            · rw [(c p4).2.1]
              unfold xP
              rw [List.length_append, List.length_append, xs_len]
              omega
          · have p5 : mp (Y k) ≠ 0 ∧ ¬ xAok n X Y k (mp (Y k)) := by
              by_cases p6 : mp (Y k) = 0
              · exact absurd (fun z => absurd p6 z) p3
              · exact ⟨p6, fun z => p3 (fun _ => z)⟩
            exact absurd (hc.2.2.1 p1 p2 p5.1 p5.2).1 (by decide)
        · exact absurd (hc.2.1 p1 (by omega)).1 (by decide)
theorem cXE_pl {I : Nat → Nat → Int} {A : Nat → Int → Int} {n : Int} {X Y D : Int → Int} {z : XR} (h : cXE I A n X Y D 0 0 z) (hn : 0 ≤ n) (he : z.e = 0) : z.pl = z.n := by
  obtain ⟨k9, h⟩ := h
  exact XE_pl k9 _ _ _ _ _ _ _ h (Int.le_refl 0) hn he
/-! the class's notes, the newest first -/
def cN (I : Nat → Nat → Int) (A : Nat → Int → Int) : Int → Int := fun k => if k < 0 then A 469 (-1 - k) else A 471 ((I 0 7 - 1 - k) % 8)
theorem cN_e {I J : Nat → Nat → Int} {A B : Nat → Int → Int} (h : J 0 7 = I 0 7) (h2 : B 471 = A 471) (h3 : B 469 = A 469) : cN J B = cN I A := by
  unfold cN
  rw [h, h2, h3]
theorem cN_p {I : Nat → Nat → Int} {A : Nat → Int → Int} {z : Int} (h : 0 ≤ z) : pic (cN I A) z = A 469 z := by
  unfold pic cN
  show (if -1 - z < 0 then A 469 (-1 - (-1 - z)) else _) = A 469 z
  rw [if_pos (by omega), show -1 - (-1 - z) = z by omega]
theorem cN_k {I : Nat → Nat → Int} {A : Nat → Int → Int} {k : Int} (h : 0 ≤ k) : cN I A k = A 471 ((I 0 7 - 1 - k) % 8) := if_neg (by omega)
theorem nEq_r {nt nt2 : Int → Int} (h : nt2 = nt) : nEq nt nt2 := ⟨fun _ _ _ => by rw [h], fun _ _ _ => by rw [h]⟩
theorem pEq_c {I J : Nat → Nat → Int} {A B : Nat → Int → Int} (h : B 469 = A 469) : pEq (cN I A) (cN J B) := fun z z0 _ => by rw [cN_p z0, cN_p z0, h]
theorem nE8_c {I J : Nat → Nat → Int} {A B : Nat → Int → Int} (h : J 0 7 = I 0 7) (h2 : B 471 = A 471) : nE8 (cN I A) (cN J B) := fun k k0 _ => by rw [cN_k k0, cN_k k0, h, h2]
theorem ptd_c {I J : Nat → Nat → Int} {A B : Nat → Int → Int} {f : Int} {Ps : List Pc} (h : ptd f Ps (A 469) (B 469)) : ptd f Ps (pic (cN I A)) (pic (cN J B)) := fun z z0 z1 => by rw [cN_p z0, cN_p z0]; exact h z z0 z1
theorem sEq_r {s s2 : Int → Int} {V V2 : Int → Int → Int} (h : s2 = s) (h2 : V2 = V) : sEq s V s2 V2 := fun _ _ _ => ⟨by rw [h], by rw [h2]; exact fun _ _ _ => rfl⟩
theorem cN_note {I J : Nat → Nat → Int} {A B : Nat → Int → Int} {x : Int} (h : J 0 7 = I 0 7 + 1) (h2 : B 471 = ju (A 471) (I 0 7 % 8) x) (h3 : B 469 = A 469) : cN J B 0 = x ∧ (∀ k, 1 ≤ k → k < 8 → cN J B k = cN I A (k - 1)) ∧ pEq (cN I A) (cN J B) := by
  refine ⟨?_, fun k k0 k1 => ?_, pEq_c h3⟩
  · rw [cN_k (by omega), h, h2, show I 0 7 + 1 - 1 - 0 = I 0 7 by omega]
    exact ju_self _ _ _
  · rw [cN_k (by omega), cN_k (by omega), h, h2, ju_ne _ _ (by omega), show I 0 7 + 1 - 1 - k = I 0 7 - 1 - (k - 1) by omega]
def tCO (k : Nat) : Bool := tEA k || (decide (465 ≤ k) && decide (k < 472))
theorem tCO_e {k : Nat} (h : tCO k = false) : tEA k = false := by
  unfold tCO at h
  simp at h
  exact h.1
theorem ctP {k : Nat} (h : k < 465 ∨ 471 ≤ k) : [465, 466, 467, 469, 470].contains k = false := by
  simp
  omega
theorem tEA_f {k : Nat} (h : k < 44 ∨ (74 ≤ k ∧ k < 434) ∨ 460 ≤ k) : tEA k = false := by
  unfold tEA tVar tBef
  simp
  omega
theorem tCO_f {k : Nat} (h : k < 44 ∨ (74 ≤ k ∧ k < 434)) : tCO k = false := by
  unfold tCO
  rw [tEA_f (by omega)]
  simp
  omega
def tRun (k : Nat) : Bool := tKept k || tCO k || (decide (9 ≤ k) && decide (k < 14)) || (decide (40 ≤ k) && decide (k < 43))
theorem tRun_k {k : Nat} (h : tRun k = false) : tKept k = false := by
  unfold tRun at h
  simp at h
  exact h.1.1.1
theorem tRun_c {k : Nat} (h : tRun k = false) : tCO k = false := by
  unfold tRun at h
  simp at h
  exact h.1.1.2
theorem tKept_f {k : Nat} (h : k < 76 ∨ 433 ≤ k) : tKept k = false := by
  unfold tKept
  simp
  omega
theorem ctX {k : Nat} (h : 43 ≤ k) : [9, 10, 11, 12, 13, 40, 41, 42].contains k = false := by
  simp
  omega
section COS
variable {n : Int} {X Y : Int → Int} {V V2 : Int → Int → Int} {p c y c2 : Int} {s nt s2 nt2 : Int → Int} {I : Nat → Nat → Int} {A : Nat → Int → Int}
theorem co_rng (h : cSR n X Y V p I A) (h7 : ¬ I 38 7 = 1) (hs : sEq s V s2 V2) (hc : c2 = c) (hn : nEq nt nt2) : ∃ r : SR, ST n X Y V p r ∧ CO r (I 38 2) s V c nt (-9) s2 V2 c2 nt2 := by
  rcases h with ⟨_, _, e⟩ | ⟨_, F, k, _⟩ | ⟨_, L, fs, k, _⟩ | ⟨_, fs, k, _⟩
  · exact absurd e h7
  · exact ⟨_, k, Or.inr (Or.inl ⟨F, _, rfl, hs, Or.inl ⟨h7, rfl, hc, hn⟩⟩)⟩
  · exact ⟨_, k, Or.inr (Or.inr (Or.inl ⟨_, L, fs, _, rfl, hs, hc, hn.1, Or.inl ⟨h7, rfl, hn.2⟩⟩))⟩
  · exact ⟨_, k, Or.inr (Or.inr (Or.inr ⟨fs, _, rfl, hc, hn, Or.inl ⟨h7, rfl, hs⟩⟩))⟩
theorem co_nop (h : cSR n X Y V p I A) (h2 : ¬ I 38 4 = 2) (h10 : ¬ I 38 4 = 10) (h11 : ¬ I 38 4 = 11) (h12 : ¬ I 38 4 = 12) (hs : sEq s V s2 V2) (hc : c2 = c) (hn : nEq nt nt2) : ∃ r : SR, ST n X Y V p r ∧ CO r (I 38 2) s V c nt 0 s2 V2 c2 nt2 := by
  rcases h with ⟨_, k, _⟩ | ⟨e, _⟩ | ⟨e, _⟩ | ⟨e, _⟩
  · exact ⟨_, k, Or.inl ⟨rfl, rfl, hs, hc, hn⟩⟩
  · exact absurd e h12
  · exact absurd e (fun z => z.elim h10 h11)
  · exact absurd e h2
theorem co_shw (h : cSR n X Y V p I A) (h4 : I 38 4 = 12) (h7 : I 38 7 = 1) (hs : sEq s V s2 V2) (hz : fZ (A 76) → y = 0 ∧ c2 = c + 1 ∧ nt2 0 = A 76 12 ∧ (∀ k, 1 ≤ k → k < 8 → nt2 k = nt (k - 1)) ∧ pEq nt nt2) (hu : ¬ fZ (A 76) → y = -12 ∧ c2 = c ∧ nEq nt nt2) : ∃ r : SR, ST n X Y V p r ∧ CO r (I 38 2) s V c nt y s2 V2 c2 nt2 := by
  rcases h with ⟨e, _⟩ | ⟨_, F, k, v⟩ | ⟨e, _⟩ | ⟨e, _⟩
  · omega
  · refine ⟨_, k, Or.inr (Or.inl ⟨F, _, rfl, hs, Or.inr ?_⟩)⟩
    by_cases z : fZ (A 76)
    · obtain ⟨a, b, c3, d⟩ := hz z
      exact Or.inr ⟨h7, (fZ_v v).mp z, a, b, by rw [c3]; exact v 12 (by decide) (by decide), d⟩
    · obtain ⟨a, b, c3⟩ := hu z
      exact Or.inl ⟨h7, fun q => z ((fZ_v v).mpr q), a, b, c3⟩
  · omega
  · omega
theorem cSR_path (h : cSR n X Y V p I A) (h4 : I 38 4 = 10 ∨ I 38 4 = 11) : ∃ (L : List Int) (fs : List (Int → Int)), ST n X Y V p (.path (I 38 2) (I 38 4) L fs (I 38 7 = 1)) ∧ cKp A fs ∧ cLg A L ∧ I 38 6 = (fs.length : Int) ∧ I 38 9 = (L.length : Int) ∧ (fs.length : Int) ≤ 2 + 6 * I 38 9 ∧ fs.length = 2 + nLg L ∧ aLg L := by
  rcases h with ⟨e, _⟩ | ⟨e, _⟩ | ⟨_, L, fs, k, a, b, c, d⟩ | ⟨e, _⟩
  · omega
  · omega
  · have q := (ST_p k).2
    have q1 := q.1
    have q2 := nLg_le L
    exact ⟨L, fs, k, a, b, c, d, by omega, q.1, q.2⟩
  · omega
theorem cSR_eqs (h : cSR n X Y V p I A) (h4 : I 38 4 = 2) (h7 : I 38 7 = 1) : ∃ fs : List (Int → Int), ST n X Y V p (.eqs (I 38 2) fs (I 38 7 = 1)) ∧ cKp A fs ∧ I 38 6 = (fs.length : Int) ∧ 2 ≤ fs.length ∧ ∀ z : Int, 0 ≤ z → z < (fs.length : Int) → inr (A (76 + 2 * z.toNat)) := by
  rcases h with ⟨e, _⟩ | ⟨e, _⟩ | ⟨e, _⟩ | ⟨_, fs, k, a, b⟩
  · omega
  · omega
  · omega
  · have q := ST_q k
    refine ⟨fs, k, a, b, q.2, fun z z0 z1 => ?_⟩
    have zl : z.toNat < fs.length := by omega
    exact inr_v (a z.toNat _ (List.getElem?_eq_getElem zl)) (q.1 h7 _ (List.getElem_mem zl))
theorem co_pth {L : List Int} {fs : List (Int → Int)} (k : ST n X Y V p (.path (I 38 2) (I 38 4) L fs (I 38 7 = 1))) (h7 : I 38 7 = 1) (h9 : I 38 9 = (L.length : Int)) (hs : sEq s V s2 V2) (hc : c2 = c) (hn : nE8 nt nt2) (h1 : 12 < I 38 9 → y = -7) (h2 : I 38 9 ≤ 12 → TN fs y) (h3 : y ≠ 0 → pEq nt nt2) (h4 : y = 0 → ptd (vCl (I 38 4)) (pls (pN fs) L) (pic nt) (pic nt2)) : ∃ r : SR, ST n X Y V p r ∧ CO r (I 38 2) s V c nt y s2 V2 c2 nt2 := by
  refine ⟨_, k, Or.inr (Or.inr (Or.inl ⟨_, L, fs, _, rfl, hs, hc, hn, ?_⟩))⟩
  by_cases z : 12 < I 38 9
  · exact Or.inr (Or.inl ⟨h7, by omega, h1 z, h3 (by rw [h1 z]; decide)⟩)
  · exact Or.inr (Or.inr ⟨h7, by omega, h2 (by omega), h3, h4⟩)
theorem co_eq {fs : List (Int → Int)} {s3 : Int → Int} {V3 : Int → Int → Int} (k : ST n X Y V p (.eqs (I 38 2) fs (I 38 7 = 1))) (h7 : I 38 7 = 1) (hE : EA fs s V y s3 V3) (h0 : y = 0 → s2 = s3 ∧ V2 = V3) (h1 : y ≠ 0 → sEq s V s2 V2) (hc : c2 = c) (hn : nEq nt nt2) : ∃ r : SR, ST n X Y V p r ∧ CO r (I 38 2) s V c nt y s2 V2 c2 nt2 :=
  ⟨_, k, Or.inr (Or.inr (Or.inr ⟨fs, _, rfl, hc, hn, Or.inr ⟨h7, s3, V3, hE, fun z => sEq_r (h0 z).1 (h0 z).2, h1⟩⟩))⟩
end COS

/-! THE EXACT RELATION of the two objects -/
def qX (n : Int) (I : Nat → Nat → Int) (A : Nat → Int → Int) (J : Nat → Int) (B : Nat → Int → Int) : Prop :=
  lR n I A J B ∧ (0 ≤ I 0 8 ∧ I 0 8 ≤ n) ∧ cMac I A ∧ (∀ j, 0 ≤ j → j < I 1 3 → A 4 j = 0) ∧ VI (A 44) (cV A) ∧
  gMr (A 7) (fun z => I (14 + 4 * z.toNat) 3) (fun z => A (15 + 4 * z.toNat)) (fun z => A (16 + 4 * z.toNat)) B ∧ gRl (A 44) (cV A) (I 0 7) (cN I A) J B ∧ I 0 9 = J 3 ∧ I 0 8 = J 8 ∧ I 5 6 = J 2
def cFr (I : Nat → Nat → Int) (A : Nat → Int → Int) (I1 : Nat → Nat → Int) (A1 : Nat → Int → Int) : Prop := I1 0 7 = I 0 7 ∧ I1 0 8 = I 0 8 ∧ I1 0 9 = I 0 9 ∧ I1 5 6 = I 5 6 ∧ A1 471 = A 471 ∧ A1 44 = A 44 ∧ cV A1 = cV A ∧ A1 469 = A 469
def gFr (J : Nat → Int) (B : Nat → Int → Int) (J1 : Nat → Int) (B1 : Nat → Int → Int) : Prop := J1 2 = J 2 ∧ J1 3 = J 3 ∧ J1 7 = J 7 ∧ J1 8 = J 8 ∧ B1 30 = B 30 ∧ B1 31 = B 31 ∧ B1 32 = B 32 ∧ B1 45 = B 45
section LXS
variable {n n' : Int} {I I1 : Nat → Nat → Int} {A A1 : Nat → Int → Int} {J J1 : Nat → Int} {B B1 : Nat → Int → Int} {S T : List Nat}
theorem cPx_nil (h : cPx [] [] I A I1 A1) : I1 = I ∧ A1 = A := ⟨funext fun k => funext fun j => h.2.2.1 k j rfl, funext fun k => h.2.2.2 k rfl trivial⟩
theorem gPo_nil (h : gPo [] [] J B J1 B1) : J1 = J ∧ B1 = B := ⟨funext fun k => h.2.2.1 k rfl, funext fun k => h.2.2.2 k rfl⟩
theorem cV_same (h : cVf A1 (cV A)) : cV A1 = cV A := by
  funext v
  by_cases c : v < 12
  · rw [cV_e c, cV_e c]
    by_cases v0 : 0 ≤ v
    · exact (h v v0 c).trans (cV_e c)
    · rw [show v.toNat = (0 : Int).toNat by omega]
      exact (h 0 (by decide) (by decide)).trans (cV_e (by decide))
  · unfold cV
    rw [if_neg c, if_neg c]
theorem cFr_of (h : cPx S T I A I1 A1) (hS : [7, 8, 9, 86].all (fun x => !(S.contains x)) = true) (hT : [44, 469, 471].all (fun x => !(T.contains x)) = true) (hV : [47, 49, 51, 53, 55, 57, 59, 61, 63, 65, 67, 69].all (fun k => !(T.contains k)) = true) : cFr I A I1 A1 := by
  have fS : ∀ x, x ∈ [7, 8, 9, 86] → S.contains x = false := fun x hx => by have := List.all_eq_true.mp hS x hx; simpa using this
  have fT : ∀ x, x ∈ [44, 469, 471] → T.contains x = false := fun x hx => by have := List.all_eq_true.mp hT x hx; simpa using this
  exact ⟨h.2.2.1 0 7 (fS 7 (by decide)), h.2.2.1 0 8 (fS 8 (by decide)), h.2.2.1 0 9 (fS 9 (by decide)), h.2.2.1 5 6 (fS 86 (by decide)), h.2.2.2 471 (fT 471 (by decide)) trivial, h.2.2.2 44 (fT 44 (by decide)) trivial, cV_same (cVf_of h hV (cVf_V A)), h.2.2.2 469 (fT 469 (by decide)) trivial⟩
theorem lR_n (h : lR n I A J B) (hn : n ≤ n') : lR n' I A J B := by
  obtain ⟨⟨a1, a2, a3, a4⟩, hb⟩ := h
  exact ⟨⟨a1, a2, a3, by omega⟩, hb⟩
theorem qX_n (h : qX n I A J B) (hn : n ≤ n') : qX n' I A J B := by
  obtain ⟨h0, h8, hb⟩ := h
  exact ⟨lR_n h0 hn, ⟨h8.1, by omega⟩, hb⟩
theorem cMac_z (h : cMac I A) (e : cMe I A I1 A1) : cMac I1 A1 := by
  intro z z0 z1 hz j j0 j1 hk
  obtain ⟨e1, e2, e3⟩ := e.2 z z0 z1
  rw [e.1] at hz ⊢
  rw [e1] at j1
  rw [e2] at hk
  rw [e3]
  exact h z z0 z1 hz j j0 j1 hk
theorem gMr_e (h : gMr (A 7) (fun z => I (14 + 4 * z.toNat) 3) (fun z => A (15 + 4 * z.toNat)) (fun z => A (16 + 4 * z.toNat)) B) (e : cMe I A I1 A1) (g : B1 18 = B 18 ∧ B1 19 = B 19 ∧ B1 20 = B 20 ∧ B1 21 = B 21) : gMr (A1 7) (fun z => I1 (14 + 4 * z.toNat) 3) (fun z => A1 (15 + 4 * z.toNat)) (fun z => A1 (16 + 4 * z.toNat)) B1 := by
  intro q q0 q1
  obtain ⟨e1, e2, e3⟩ := e.2 q q0 (by omega)
  have k := h q q0 q1
  show (A1 7 q = -1 → B1 20 q < 0) ∧ (A1 7 q ≠ -1 → 0 ≤ B1 20 q ∧ B1 21 q = A1 7 q ∧ B1 20 q = I1 (14 + 4 * q.toNat) 3 ∧ ∀ c, 0 ≤ c → c < I1 (14 + 4 * q.toNat) 3 → B1 18 (q * 40 + c) = A1 (15 + 4 * q.toNat) c ∧ B1 19 (q * 40 + c) = A1 (16 + 4 * q.toNat) c)
  rw [e.1, e1, e2, e3, g.1, g.2.1, g.2.2.1, g.2.2.2]
  exact k
theorem qX_fr (h : qX n I A J B) (hl : lR n' I1 A1 J1 B1) (hn : n ≤ n') (c : cFr I A I1 A1) (g : gFr J B J1 B1) (hD : ∀ j, 0 ≤ j → j < I1 1 3 → A1 4 j = 0) (hM : cMac I1 A1) (hr : gMr (A1 7) (fun z => I1 (14 + 4 * z.toNat) 3) (fun z => A1 (15 + 4 * z.toNat)) (fun z => A1 (16 + 4 * z.toNat)) B1) : qX n' I1 A1 J1 B1 := by
  obtain ⟨_, h8, _, _, hv, _, hg, h9, h88, h56⟩ := h
  obtain ⟨c7, c8, c9, c56, c471, c44, ccv, c469⟩ := c
  obtain ⟨g2, g3, g7, g8, g30, g31, g32, g45⟩ := g
  refine ⟨hl, by omega, hM, hD, by rw [c44, ccv]; exact hv, hr, ?_, by omega, by omega, by omega⟩
  rw [c44, ccv, cN_e c7 c471 c469, c7]
  exact ⟨⟨fun u u0 u1 => by rw [g30]; exact hg.1.1 u u0 u1, by unfold gVr; rw [g30, g31]; exact hg.1.2⟩, by rw [g7]; exact hg.2.1, fun k k0 k1 => by rw [g32]; exact hg.2.2.1 k k0 k1, by rw [g45]; exact hg.2.2.2⟩
/-! macro -/
theorem qX_mac {q m : Int} (hD : mDf q m I A I1 A1) (hM : cMac I A) (hq : 0 ≤ q ∧ q ≤ 5) (hm : 0 ≤ m ∧ m ≤ 3) (hc : ¬ cRef (A 2) (A 3) (I 1 3) m) : cMac I1 A1 := by
  intro z z0 z1 hz j j0 j1 hk
  obtain ⟨e, f⟩ := hD.2 z z0 z1
  rw [hD.1] at hz ⊢
  by_cases c : z = q
  · obtain ⟨e1, e2⟩ := e c
    rw [e1] at j1
    obtain ⟨e3, e4⟩ := e2 j j0 j1
    rw [e3] at hk
    rw [e4, c, ju_self]
    apply Classical.byContradiction
    intro w
    exact hc ⟨j, j0, j1, hk, by omega⟩
  · obtain ⟨f1, f2, f3⟩ := f c
    rw [ju_ne _ _ c] at hz ⊢
    rw [f1] at j1
    rw [f2] at hk
    rw [f3]
    exact hM z z0 z1 hz j j0 j1 hk
theorem qX_gmr {q m : Int} {X9 Y9 : Int → Int} (hD : mDf q m I A I1 A1) (hr : gMr (A 7) (fun z => I (14 + 4 * z.toNat) 3) (fun z => A (15 + 4 * z.toNat)) (fun z => A (16 + 4 * z.toNat)) B) (hg : gMac B) (hq : 0 ≤ q ∧ q ≤ 5) (hm : 0 ≤ m ∧ m ≤ 3) (hj : 0 ≤ J 0 ∧ J 0 ≤ 40) (hlen : I 1 3 = J 0) (hin : ∀ z, 0 ≤ z → z < J 0 → A 2 z = B 16 z ∧ A 3 z = B 17 z)
    (hX : ∀ z, X9 z = if q * 40 ≤ z ∧ z < q * 40 + J 0 then B 16 (z - q * 40) else B 18 z) (hY : ∀ z, Y9 z = if q * 40 ≤ z ∧ z < q * 40 + J 0 then B 17 (z - q * 40) else B 19 z) : gMr (A1 7) (fun z => I1 (14 + 4 * z.toNat) 3) (fun z => A1 (15 + 4 * z.toNat)) (fun z => A1 (16 + 4 * z.toNat)) (va_up (va_up (va_up (va_up B 18 X9) 19 Y9) 20 (ju (B 20) q (J 0))) 21 (ju (B 21) q m)) := by
  intro z z0 z1
  obtain ⟨e, f⟩ := hD.2 z z0 (by omega)
  show (A1 7 z = -1 → ju (B 20) q (J 0) z < 0) ∧ (A1 7 z ≠ -1 → 0 ≤ ju (B 20) q (J 0) z ∧ ju (B 21) q m z = A1 7 z ∧ ju (B 20) q (J 0) z = I1 (14 + 4 * z.toNat) 3 ∧ ∀ c, 0 ≤ c → c < I1 (14 + 4 * z.toNat) 3 → X9 (z * 40 + c) = A1 (15 + 4 * z.toNat) c ∧ Y9 (z * 40 + c) = A1 (16 + 4 * z.toNat) c)
  rw [hD.1]
  by_cases c : z = q
  · obtain ⟨e1, e2⟩ := e c
    subst c
    rw [ju_self, ju_self, ju_self, e1]
    refine ⟨fun w => by omega, fun _ => ⟨hj.1, rfl, by omega, fun k k0 k1 => ?_⟩⟩
    obtain ⟨e3, e4⟩ := e2 k k0 k1
    obtain ⟨i3, i4⟩ := hin k k0 (by omega)
    rw [hX, hY, if_pos ⟨by omega, by omega⟩, if_pos ⟨by omega, by omega⟩, e3, e4, i3, i4, show z * 40 + k - z * 40 = k by omega]
    exact ⟨rfl, rfl⟩
  · obtain ⟨f1, f2, f3⟩ := f c
    rw [ju_ne _ _ c, ju_ne _ _ c, ju_ne _ _ c, f1, f2, f3]
    have k := hr z z0 z1
    have hb := hg z z0 z1
    refine ⟨k.1, fun w => ?_⟩
    obtain ⟨k1, k2, k3, k4⟩ := k.2 w
    refine ⟨k1, k2, k3, fun t t0 t1 => ?_⟩
    have k3' : B 20 z = I (14 + 4 * z.toNat) 3 := k3
    have hc : ¬ (q * 40 ≤ z * 40 + t ∧ z * 40 + t < q * 40 + J 0) := by
      have h40 := hb.2.1
      omega
    rw [hX, hY, if_neg hc, if_neg hc]
    exact k4 t t0 t1
/-! forget -/
theorem qX_forget {X9 : Int → Int} (h : qX n I A J B) (hn : n ≤ n') (hp : cPf [] tV43 I A I1 A1) (hf : ∀ u, 0 ≤ u → u < 12 → A1 44 u = 0 ∧ ∀ z, 0 ≤ z → z < 13 → A1 (47 + 2 * u.toNat) z = if z = u then 65536 else 0) (hX : ∀ z, X9 z = if 0 ≤ z ∧ z < 12 then 0 else B 30 z) (hb : gPo [] [30] J B J (va_up B 30 X9)) : qX n' I1 A1 J (va_up B 30 X9) := by
  obtain ⟨⟨⟨a1, a2, a3, a4⟩, ⟨b1, b2, b3, b4⟩, hlen, hin⟩, h8, hM, hD, hv, hr, hg, h9, h88, h56⟩ := h
  have eI : I1 = I := funext fun k => funext fun j => hp.2.2.1 k j rfl
  subst eI
  have eA : ∀ k, (k < 44 ∨ 70 ≤ k) → A1 k = A k := fun k hk => hp.2.2.2 k (tV43_f hk) trivial
  have hcV : ∀ u, 0 ≤ u → u < 12 → ∀ z, 0 ≤ z → z < 13 → cV A1 u z = if z = u then 65536 else 0 := fun u u0 u1 z z0 z1 => by rw [cV_e u1]; exact (hf u u0 u1).2 z z0 z1
  have hin2 : ∀ u, 0 ≤ u → u < 12 → inr (cV A1 u) := fun u u0 u1 z z0 z1 => by rw [hcV u u0 u1 z z0 z1]; split <;> (show gin _) <;> (constructor <;> decide)
  have hme : cMe I1 A I1 A1 := ⟨eA 7 (by omega), fun z z0 z1 => ⟨rfl, eA _ (by omega), eA _ (by omega)⟩⟩
  refine ⟨⟨⟨hp.1, hp.2.1, cTok_f hp a3 rfl, by omega⟩, ⟨hb.1, hb.2.1, b3, b4⟩, hlen, ?_⟩, ⟨h8.1, by omega⟩, cMac_z hM hme, ?_, ?_, gMr_e hr hme ⟨rfl, rfl, rfl, rfl⟩, ?_, h9, h88, h56⟩
  · rw [eA 2 (by omega), eA 3 (by omega)]
    exact hin
  · rw [eA 4 (by omega)]
    exact hD
  · intro u u0 u1
    have s0 := (hf u u0 u1).1
    exact ⟨hin2 u u0 u1, Or.inl s0, fun _ i i0 i1 => hcV u u0 u1 i i0 i1, fun z => by omega, fun z => by omega, fun w w0 w1 _ => (hf w w0 w1).1⟩
  · refine ⟨⟨fun u u0 u1 => ?_, fun u u0 u1 => ⟨hin2 u u0 u1, fun _ i i0 i1 => hcV u u0 u1 i i0 i1, fun z => ?_⟩⟩, hg.2.1, fun k k0 k1 => ?_, fun k k0 k1 => ?_⟩
    · show X9 u = A1 44 u
      rw [hX, if_pos ⟨u0, u1⟩, (hf u u0 u1).1]
    · have z : X9 u ≠ 0 := z
      rw [hX, if_pos ⟨u0, u1⟩] at z
      exact absurd rfl z
    · rw [cN_e (I := I1) (J := I1) (A := A) (B := A1) rfl (eA 471 (by omega)) (eA 469 (by omega))]
      exact hg.2.2.1 k k0 k1
    · rw [cN_e (I := I1) (J := I1) (A := A) (B := A1) rfl (eA 471 (by omega)) (eA 469 (by omega))]
      exact hg.2.2.2 k k0 k1
/-! clean -/
theorem qX_clean {X9 : Int → Int} (h : qX n I A J B) (hl : lR n' I1 A1 J (va_up B 45 X9)) (hn : n ≤ n') (hp : cPx [] [469] I A I1 A1) (hf : ∀ u, 0 ≤ u → u < 768 → A1 469 u = 0) (hX : ∀ z, X9 z = if 0 ≤ z ∧ z < 768 then 0 else B 45 z) : qX n' I1 A1 J (va_up B 45 X9) := by
  obtain ⟨_, h8, hM, hD, hv, hr, hg, h9, h88, h56⟩ := h
  have eI : I1 = I := funext fun k => funext fun j => hp.2.2.1 k j rfl
  subst eI
  have e44 : A1 44 = A 44 := hp.2.2.2 44 rfl trivial
  have ecv : cV A1 = cV A := cV_same (cVf_of hp rfl (cVf_V A))
  have hme : cMe I1 A I1 A1 := cMe_of hp rfl rfl
  refine ⟨hl, ⟨h8.1, by omega⟩, cMac_z hM hme, ?_, by rw [e44, ecv]; exact hv, gMr_e hr hme ⟨rfl, rfl, rfl, rfl⟩, ?_, h9, h88, h56⟩
  · rw [hp.2.2.2 4 rfl trivial]
    exact hD
  · rw [e44, ecv]
    refine ⟨hg.1, hg.2.1, fun k k0 k1 => ?_, fun z z0 z1 => ?_⟩
    · have h9 := hg.2.2.1 k k0 k1
      rw [cN_k k0] at h9
      rw [cN_k k0, hp.2.2.2 471 rfl trivial]
      exact h9
    · show X9 z = _
      rw [hX, if_pos ⟨z0, z1⟩, cN_p z0, hf z z0 z1]
/-! run -/
theorem RN_VI {m : Int} {X Y : Int → Int} : ∀ (k9 : Nat) (p : Int) (s : Int → Int) (V : Int → Int → Int) (c : Int) (nt : Int → Int) (d : Int) (z : RR), RN_k9 m X Y k9 p s V c nt d z → VI s V → VI z.s z.V := by
  intro k9
  induction k9 with
  | zero => exact fun _ _ _ _ _ _ _ h => h.elim
  | succ k9 ih =>
    intro p s V c nt d z h hv
    rcases h with ⟨e09, h⟩ | ⟨ce0, pl0, e09, h, k⟩ | ⟨q0, e0, c20, s20, nt20, V20, r0, e09, h, k, hc, he⟩ | ⟨q0, c20, s20, nt20, V20, r0, h, k, hc, kk⟩
    · cases e09 <;> (exact hv)
    · cases e09 <;> (exact hv)
    · cases e09 <;> (exact CO_VI hv hc)
    · (exact ih _ _ _ _ _ _ _ kk (CO_VI hv hc))
theorem tRun_f {k : Nat} (h : k < 9 ∨ (14 ≤ k ∧ k < 40)) : tRun k = false := by
  unfold tRun
  rw [tCO_f (by omega), tKept_f (by omega)]
  simp
  omega
theorem gH_rd3 {X Y D U V W : Int → Int} {m j : Int} (h : gH X Y D (xs U V W 0 m)) (hn : m ≤ 700) (j0 : 0 ≤ j) (j1 : j < m) : X j = U j ∧ Y j = V j ∧ D j = W j := by
  obtain ⟨i, rfl⟩ := Int.eq_ofNat_of_zero_le j0
  have hl : i < (xs U V W 0 m).length := by rw [xs_len]; omega
  have hg := List.getElem?_eq_getElem hl
  have h1 := xs_get U V W 0 m i _ hg
  have h2 := h i _ hg (by omega)
  rw [h1.2, Int.zero_add] at h2
  exact h2
/-- what the class's run ends with -/
def rnE (y : Int) (z : XR) (zz : RR) (I : Nat → Nat → Int) (A : Nat → Int → Int) (I1 : Nat → Nat → Int) (A1 : Nat → Int → Int) : Prop :=
  RN z.n z.X z.Y 0 (A 44) (cV A) (I 0 7) (cN I A) (I 0 8) zz ∧ y = zz.e ∧ I1 0 9 = zz.pl ∧ A1 44 = zz.s ∧ cV A1 = zz.V ∧ I1 0 7 = zz.c ∧ cN I1 A1 = zz.nt ∧ I1 0 8 = zz.d
theorem rnE_ex {y : Int} {z : XR} (h : z.e = 0 → ∃ zz : RR, rnE y z zz I A I1 A1) : ∃ zz : RR, z.e = 0 → rnE y z zz I A I1 A1 := by
  by_cases e : z.e = 0
  · obtain ⟨zz, k⟩ := h e
    exact ⟨zz, fun _ => k⟩
  · exact ⟨⟨0, 0, A 44, cV A, 0, cN I A, 0⟩, fun q => absurd q e⟩
theorem qX_run {y y2 : Int} {z : XR} {zz : RR} (h : qX n I A J B) (hn : n + 300 ≤ n') (hp : cPf [7, 8, 9, 19, 85, 86, 131, 627, 610, 611, 612, 614, 615, 617, 7427] tRun I A I1 A1) (ht : cTok A1) (q1 : I1 1 3 = 0) (q2 : I1 0 7 ≤ I 0 7 + 300) (q3 : 0 ≤ I1 0 8 ∧ I1 0 8 ≤ I 0 8 + 300) (q5 : I1 5 6 = z.r)
    (q6 : z.e ≠ 0 → y = z.e ∧ I1 0 9 = z.pl ∧ A1 44 = A 44 ∧ cV A1 = cV A ∧ I1 0 7 = I 0 7 ∧ A1 471 = A 471 ∧ I1 0 8 = I 0 8 ∧ A1 469 = A 469) (q7 : z.e = 0 → rnE y z zz I A I1 A1)
    (hb : gPo [0, 1, 2, 3, 4, 5, 6, 7, 8, 9, 10, 11, 12, 13, 14, 15] [22, 23, 24, 25, 26, 27, 28, 29, 30, 31, 32, 33, 34, 35, 36, 37, 38, 39, 40, 41, 42, 43, 44, 45] J B J1 B1) (r0 : J1 0 = 0) (r2 : J1 2 = z.r) (r3 : z.e ≠ 0 → y2 = z.e ∧ J1 3 = z.pl ∧ gRl (A 44) (cV A) (I 0 7) (cN I A) J1 B1 ∧ J1 8 = J 8) (r4 : z.e = 0 → y2 = zz.e ∧ J1 3 = zz.pl ∧ gRl zz.s zz.V zz.c zz.nt J1 B1 ∧ J1 8 = zz.d) : y2 = y ∧ qX n' I1 A1 J1 B1 := by
  obtain ⟨⟨⟨a1, a2, a3, a4⟩, ⟨b1, b2, b3, b4⟩, hlen, hin⟩, h8, hM, hD, hv, hr, hg, h9, h88, h56⟩ := h
  have hme : cMe I A I1 A1 := ⟨hp.2.2.2 7 (tRun_f (by omega)) trivial, fun z z0 z1 => ⟨hp.2.2.1 _ 3 (by simp; omega), hp.2.2.2 _ (tRun_f (by omega)) trivial, hp.2.2.2 _ (tRun_f (by omega)) trivial⟩⟩
  have hl : lR n' I1 A1 J1 B1 := ⟨⟨hp.1, hp.2.1, ht, by omega⟩, ⟨hb.1, hb.2.1, by unfold gMac; rw [hb.2.2.2 18 rfl, hb.2.2.2 19 rfl, hb.2.2.2 20 rfl, hb.2.2.2 21 rfl]; exact b3, fun k h0 h1 => by rw [r0] at h1; omega⟩, by rw [q1, r0], fun z h0 h1 => by rw [r0] at h1; omega⟩
  have hgm := gMr_e hr hme ⟨hb.2.2.2 18 rfl, hb.2.2.2 19 rfl, hb.2.2.2 20 rfl, hb.2.2.2 21 rfl⟩
  have hd1 : ∀ j, 0 ≤ j → j < I1 1 3 → A1 4 j = 0 := fun j j0 j1 => by rw [q1] at j1; omega
  have h81 : 0 ≤ I1 0 8 ∧ I1 0 8 ≤ n' := ⟨q3.1, by omega⟩
  by_cases e : z.e = 0
  · obtain ⟨k1, k2, k3, k4, k5, k6, k7, k8⟩ := q7 e
    obtain ⟨s1, s2, s3, s4⟩ := r4 e
    refine ⟨by rw [s1, k2], hl, h81, cMac_z hM hme, hd1, ?_, hgm, ?_, by rw [k3, s2], by rw [k8, s4], by rw [q5, r2]⟩
    · rw [k4, k5]
      obtain ⟨k9, k1⟩ := k1
      exact RN_VI k9 _ _ _ _ _ _ _ k1 hv
    · rw [k4, k5, k6, k7]
      exact s3
  · obtain ⟨k2, k3, k4, k5, k6, k7, k8, k9⟩ := q6 e
    obtain ⟨s1, s2, s3, s4⟩ := r3 e
    refine ⟨by rw [s1, k2], hl, h81, cMac_z hM hme, hd1, by rw [k4, k5]; exact hv, hgm, ?_, by rw [k3, s2], by rw [k8, s4]; exact h88, by rw [q5, r2]⟩
    rw [k4, k5, cN_e k6 k7 k9, k6]
    exact s3
end LXS
/-! what is seen -/
section SEE
variable {n : Int} {I : Nat → Nat → Int} {A : Nat → Int → Int} {J : Nat → Int} {B : Nat → Int → Int} {v u y : Int}
theorem gSt_r (h : qX n I A J B) : ∀ z, 0 ≤ z → z < 12 → 0 ≤ B 30 z ∧ B 30 z ≤ 2 := fun z z0 z1 => by
  have e := h.2.2.2.2.2.2.1.1.1 z z0 z1
  have k := (h.2.2.2.2.1 z z0 z1).2.1
  omega
theorem eq_state (h : qX n I A J B) (hy : y = if v < 0 ∨ 11 < v then -1 else A 44 v) : (if v < 0 ∨ 11 < v then -1 else B 30 v) = y := by
  rw [hy]
  by_cases c : v < 0 ∨ 11 < v
  · rw [if_pos c, if_pos c]
  · rw [if_neg c, if_neg c]
    exact h.2.2.2.2.2.2.1.1.1 v (by omega) (by omega)
theorem eq_number (h : qX n I A J B) (hy : y = if v < 0 ∨ 11 < v ∨ A 44 v = 0 then 1000000000000000 else cV A v 12) : (if v < 0 ∨ 11 < v ∨ B 30 v = 0 then 1000000000000000 else B 31 (v * 13 + 12)) = y := by
  rw [hy]
  by_cases c : v < 0 ∨ 11 < v
  · rw [if_pos (by omega), if_pos (by omega)]
  · have e := h.2.2.2.2.2.2.1.1.1 v (by omega) (by omega)
    rw [← e]
    by_cases c2 : B 30 v = 0
    · rw [if_pos (by omega), if_pos (by omega)]
    · rw [if_neg (by omega), if_neg (by omega)]
      exact ((h.2.2.2.2.2.2.1.1.2 v (by omega) (by omega)).2.2 c2 12 (by decide) (by decide)).symm
theorem eq_factor (h : qX n I A J B) (hy : y = if v < 0 ∨ 11 < v ∨ u < 0 ∨ 11 < u ∨ ¬ A 44 v = 1 then 1000000000000000 else cV A v u) : (if v < 0 ∨ 11 < v ∨ u < 0 ∨ 11 < u ∨ ¬ B 30 v = 1 then 1000000000000000 else B 31 (v * 13 + u)) = y := by
  rw [hy]
  by_cases c : v < 0 ∨ 11 < v
  · rw [if_pos (by omega), if_pos (by omega)]
  · have e := h.2.2.2.2.2.2.1.1.1 v (by omega) (by omega)
    rw [← e]
    by_cases c2 : u < 0 ∨ 11 < u ∨ ¬ B 30 v = 1
    · rw [if_pos (by omega), if_pos (by omega)]
    · rw [if_neg (by omega), if_neg (by omega)]
      exact ((h.2.2.2.2.2.2.1.1.2 v (by omega) (by omega)).2.2 (by omega) u (by omega) (by omega)).symm
theorem eq_shown (h : qX n I A J B) (hy : y = if v < 0 ∨ 7 < v ∨ I 0 7 ≤ v then 1000000000000000 else cN I A v) : (if v < 0 ∨ 7 < v ∨ J 7 ≤ v then 1000000000000000 else B 32 v) = y := by
  have e := h.2.2.2.2.2.2.1.2.1
  rw [hy, e]
  by_cases c : v < 0 ∨ 7 < v ∨ I 0 7 ≤ v
  · rw [if_pos c, if_pos c]
  · rw [if_neg c, if_neg c]
    exact h.2.2.2.2.2.2.1.2.2.1 v (by omega) (by omega)
theorem eq_black (h : qX n I A J B) (hy : y = if v < 0 ∨ 31 < v ∨ u < 0 ∨ 23 < u then 0 else A 469 (u * 32 + v)) : (if v < 0 ∨ 31 < v ∨ u < 0 ∨ 23 < u then 0 else B 45 (u * 32 + v)) = y := by
  rw [hy]
  by_cases c : v < 0 ∨ 31 < v ∨ u < 0 ∨ 23 < u
  · rw [if_pos c, if_pos c]
  · rw [if_neg c, if_neg c, h.2.2.2.2.2.2.1.2.2.2 (u * 32 + v) (by omega) (by omega)]
    exact cN_p (by omega)
theorem ctA_c {q s c d r : Int} {P Q b b2 : Int → Int} (h : ∀ z, 0 ≤ z → z < 768 → P z = Q z) (hb : ∀ z, 0 ≤ z → z < 6 → b z = b2 z) : ctA q s P c d r b = ctA q s Q c d r b2 := by
  unfold ctA
  rw [cnN_c h 768 (Nat.le_refl _), edN_c h 768 (Nat.le_refl _), edN_c h 768 (Nat.le_refl _), edN_c h 768 (Nat.le_refl _), edN_c h 768 (Nat.le_refl _)]
  by_cases k : 9 ≤ q ∧ q ≤ 14
  · rw [if_pos k, if_pos k, hb (q - 9) (by omega) (by omega)]
  · rw [if_neg k, if_neg k]
theorem eq_count {q : Int} (h : qX n I A J B) : ctA q (J 0) (B 45) (J 7) (J 8) (J 2) (fun z => if B 20 z < 0 then -2 else B 20 z) = ctA q (I 1 3) (A 469) (I 0 7) (I 0 8) (I 5 6) (fun z => if A 7 z = -1 then -2 else I (14 + 4 * z.toNat) 3) := by
  have e0 := h.1.2.2.1
  have e7 := h.2.2.2.2.2.2.1.2.1
  have e8 := h.2.2.2.2.2.2.2.2.1
  have e2 := h.2.2.2.2.2.2.2.2.2
  rw [e0, e8, e2, e7]
  refine ctA_c (fun z z0 z1 => ?_) (fun z z0 z1 => ?_)
  · rw [h.2.2.2.2.2.2.1.2.2.2 z z0 z1]
    exact cN_p z0
  · have k := h.2.2.2.2.2.1 z z0 (by omega)
    by_cases m : A 7 z = -1
    · rw [if_pos (k.1 m), if_pos m]
    · obtain ⟨k1, k2, k3, k4⟩ := k.2 m
      rw [if_neg (by omega), if_neg m]
      exact k3
end SEE

/-! THE REFERENCE follows a derivation of EXPANDING -/
def gMr (mp ml : Int → Int) (mK mV : Int → Int → Int) (A : Nat → Int → Int) : Prop := ∀ q, 0 ≤ q → q ≤ 5 → (mp q = -1 → A 20 q < 0) ∧ (mp q ≠ -1 → 0 ≤ A 20 q ∧ A 21 q = mp q ∧ A 20 q = ml q ∧ ∀ c, 0 ≤ c → c < ml q → A 18 (q * 40 + c) = mK q c ∧ A 19 (q * 40 + c) = mV q c)
/-- two rows hold the same tokens -/
def gAg (n : Int) (X Y D : Int → Int) (A : Nat → Int → Int) : Prop := ∀ j, 0 ≤ j → j < n → X j = A 22 j ∧ Y j = A 23 j ∧ D j = A 24 j
theorem gAg_w {n : Int} {X Y D : Int → Int} {I : Nat → Int} {A : Nat → Int → Int} (h : gAg n X Y D A) (hn : n = I 1) (k m : Int) (h0 : 0 ≤ k) : xAok n X Y k m ↔ gAok I A k m := by
  subst hn
  exact gAok_c (I := vI (I 1)) (A := vB X Y) (J := I) (B := A) rfl (fun j j0 j1 => ⟨(h j j0 j1).1, (h j j0 j1).2.1⟩) k m h0
theorem gAg_q {n : Int} {X Y D : Int → Int} {I : Nat → Int} {A : Nat → Int → Int} (h : gAg n X Y D A) (hn : n = I 1) (k : Int) (h0 : 0 ≤ k) (i : Nat) : xAq n X Y k i = gAq I A k i ∧ xAe n X Y (xAq n X Y k i) = gAe I A (gAq I A k i) := by
  subst hn
  have e := gAq_c (I := vI (I 1)) (A := vB X Y) (J := I) (B := A) rfl (fun j j0 j1 => ⟨(h j j0 j1).1, (h j j0 j1).2.1⟩) k h0 i
  have e2 := gAe_c (I := vI (I 1)) (A := vB X Y) (J := I) (B := A) rfl (fun j j0 j1 => ⟨(h j j0 j1).1, (h j j0 j1).2.1⟩) (gAq (vI (I 1)) (vB X Y) k i) e.2
  refine ⟨e.1, ?_⟩
  show gAe (vI (I 1)) (vB X Y) (gAq (vI (I 1)) (vB X Y) k i) = _
  rw [e2, e.1]
theorem gsg_xs (A : Nat → Int → Int) (a b : Int) : gsg A a b = xs (A 22) (A 23) (A 24) a b := rfl
/-- the row behind a replacement, in both -/
theorem xnew_e {n : Int} {X Y D S E K V U W : Int → Int} {I : Nat → Int} {A : Nat → Int → Int} {len par k q : Int} (h : gAg n X Y D A) (hn : n = I 1) (k0 : 0 ≤ k) (k1 : k < n) (hp : A 21 q = par) (hl : A 20 q = len) (p0 : 0 ≤ par)
    (hb : ∀ c, 0 ≤ c → c < len → A 18 (q * 40 + c) = K c ∧ A 19 (q * 40 + c) = V c) (hm : ∀ c, 0 ≤ c → c < len → K c = 2 → 0 ≤ V c ∧ V c < par) (hs : par ≠ 0 → xAok n X Y k par)
    (hSE : ∀ j, 0 ≤ j → j < par → S j = xAq n X Y k j.toNat ∧ E j = xAe n X Y (xAq n X Y k j.toNat)) (hUW : ∀ j, 0 ≤ j → j < par → U j = gAq I A k j.toNat ∧ W j = gAe I A (gAq I A k j.toNat)) :
    gnew I (va_up (va_up A 28 U) 29 W) k (gpl I A k par) q = xP n X Y D K V S E len par k := by
  have ag : ∀ j, 0 ≤ j → j < n → A 22 j = X j ∧ A 23 j = Y j ∧ A 24 j = D j := fun j j0 j1 => ⟨(h j j0 j1).1.symm, (h j j0 j1).2.1.symm, (h j j0 j1).2.2.symm⟩
  have e1 : gpl I A k par = if par = 0 then k + 1 else xAq n X Y k par.toNat := by
    unfold gpl
    by_cases c : par = 0
    · rw [if_neg (by omega), if_pos c]
    · rw [if_pos (by omega), if_neg c, (gAg_q h hn k k0 par.toNat).1]
  have p1 : 0 ≤ gpl I A k par := by
    rw [e1]
    by_cases c : par = 0
    · rw [if_pos c]; omega
    · rw [if_neg c]
      have := xAq_le n X Y k par (hs c) par.toNat (by omega)
      omega
  have hb9 := xHb k0 hs hSE hm
  unfold gnew xP
  show xs (A 22) (A 23) (A 24) 0 k ++ gbd (va_up (va_up A 28 U) 29 W) q (A 24 k + 1) (A 20 q).toNat ++ xs (A 22) (A 23) (A 24) (gpl I A k par) (I 1) = _
  rw [xs_c ag 0 k (Int.le_refl 0) (by omega), xs_c ag (gpl I A k par) (I 1) p1 (by omega), (ag k k0 k1).2.2, e1, hl, hn]
  congr 2
  unfold gbd xbd
  simp only [List.flatMap]
  congr 1
  apply List.map_congr_left
  intro j hj
  have hj := List.mem_range.mp hj
  have e := hb (j : Int) (by omega) (by omega)
  unfold gb1 xb1
  show (if A 18 (q * 40 + (j : Int)) = 2 then xs (A 22) (A 23) (A 24) (U (A 19 (q * 40 + (j : Int)))) (W (A 19 (q * 40 + (j : Int)))) else [(A 18 (q * 40 + (j : Int)), A 19 (q * 40 + (j : Int)), D k + 1)]) = _
  rw [e.1, e.2]
  by_cases h2 : K (j : Int) = 2
  · have m9 := hm (j : Int) (by omega) (by omega) h2
    have b9 := hb9 (j : Int) (by omega) (by omega) h2
    have u9 := hUW (V (j : Int)) m9.1 m9.2
    have s9 := hSE (V (j : Int)) m9.1 m9.2
    have q9 := gAg_q h hn k k0 (V (j : Int)).toNat
    have eU : U (V (j : Int)) = S (V (j : Int)) := by rw [u9.1, s9.1, q9.1]
    have eW : W (V (j : Int)) = E (V (j : Int)) := by rw [u9.2, s9.2, q9.2]
    rw [if_pos h2, if_pos h2, eU, eW]
    exact xs_c ag _ _ b9.1 (by omega)
  · rw [if_neg h2, if_neg h2]
def cCall (k q : Int) (I : Nat → Int) (A : Nat → Int → Int) (rv : Option Value) (I2 : Nat → Int) (A2 : Nat → Int → Int) : Prop := rv = none ∧ (A 20 q < 0 → I2 = va_up (va_up I 5 (-4)) 6 k ∧ A2 = A) ∧ (¬ A 20 q < 0 → A 24 k = 6 → I2 = va_up (va_up I 5 (-5)) 6 k ∧ A2 = A) ∧ (¬ A 20 q < 0 → ¬ A 24 k = 6 → 0 < A 21 q → ¬ gAok I A k (A 21 q) → I2 = va_up (va_up I 5 (-6)) 6 k ∧ ∃ X Y : Int → Int, A2 = va_up (va_up A 28 X) 29 Y) ∧ (¬ A 20 q < 0 → ¬ A 24 k = 6 → (0 < A 21 q → gAok I A k (A 21 q)) → ∃ (X Y : Int → Int) (B : Nat → Int → Int), (∀ j, 0 ≤ j → j < A 21 q → X j = gAq I A k j.toNat ∧ Y j = gAe I A (gAq I A k j.toNat)) ∧ (∀ z, z ≠ 22 → z ≠ 23 → z ≠ 24 → z ≠ 25 → z ≠ 26 → z ≠ 27 → z ≠ 28 → z ≠ 29 → B z = A z) ∧ gH (B 22) (B 23) (B 24) (gnew I (va_up (va_up A 28 X) 29 Y) k (gpl I A k (A 21 q)) q) ∧ A2 = B ∧ (300 < ((gnew I (va_up (va_up A 28 X) 29 Y) k (gpl I A k (A 21 q)) q).length : Int) ∨ I 2 + 1 = 101 → I2 = va_up (va_up (va_up (va_up I 2 (I 2 + 1)) 1 ((gnew I (va_up (va_up A 28 X) 29 Y) k (gpl I A k (A 21 q)) q).length : Int)) 5 (-7)) 6 k) ∧ (¬ (300 < ((gnew I (va_up (va_up A 28 X) 29 Y) k (gpl I A k (A 21 q)) q).length : Int) ∨ I 2 + 1 = 101) → I2 = va_up (va_up I 2 (I 2 + 1)) 1 ((gnew I (va_up (va_up A 28 X) 29 Y) k (gpl I A k (A 21 q)) q).length : Int)))
def wCall (I : Nat → Int) (A : Nat → Int → Int) (rv : Option Value) (I2 : Nat → Int) (A2 : Nat → Int → Int) : Prop := rv = none ∧ gPo [1, 2, 5, 6] [22, 23, 24, 25, 26, 27, 28, 29] I A I2 A2 ∧ (I2 5 = 0 → gT I2 A2 ∧ (∀ j, 0 ≤ j → j < I2 1 → 0 ≤ A2 24 j ∧ A2 24 j ≤ 6) ∧ I2 2 = I 2 + 1 ∧ I2 2 ≤ 100)
theorem call_w (k q : Int) (I : Nat → Int) (A : Nat → Int → Int) (hT : gT I A) (hI : gSI I) (hA : gSA A) (hd : ∀ j, 0 ≤ j → j < I 1 → 0 ≤ A 24 j ∧ A 24 j ≤ 6) (hM : gMac A) (k0 : 0 ≤ k) (k1 : k < I 1) (q0 : 0 ≤ q) (q1 : q ≤ 5) (he : I 5 = 0) (h20 : 0 ≤ I 2) (h21 : I 2 ≤ 100) (rv : Option Value) (J : Nat → Int) (B : Nat → Int → Int) (h : cCall k q I A rv J B) : wCall I A rv J (gNm B) := by
  have t1 := hT.2.1
  have hR : gRw I A := ⟨hT.1, by omega, hT.2.2⟩
  obtain ⟨m0, m1, m2, m3, m4⟩ := hM q q0 q1
  have hdk := hd k k0 k1
  have stop : ∀ (J : Nat → Int) (e : Int), gSI J → (∀ x, [1, 2, 5, 6].contains x = false → J x = I x) → -13 ≤ e → e < 0 → gSI (va_up (va_up J 5 e) 6 k) ∧ (∀ x, [1, 2, 5, 6].contains x = false → va_up (va_up J 5 e) 6 k x = I x) ∧ va_up (va_up J 5 e) 6 k 5 ≠ 0 := by
    intro J e hJ hS e0 e1
    have h := gPo.I 6 k (gPo.I (S := [1, 2, 5, 6]) (T := []) (I := I) (A := A) (J := J) (B := A) 5 e ⟨hJ, hA, hS, fun _ _ => rfl⟩ rfl (show (-13 : Int) ≤ e ∧ e ≤ 0 by omega)) rfl (show (-2147483648 : Int) ≤ k ∧ k ≤ 2147483647 by omega)
    exact ⟨h.1, h.2.2.1, by show e ≠ 0; omega⟩
  obtain ⟨h1, ha, hb, hc, hs⟩ := h
  refine ⟨h1, ?_⟩
  by_cases g1 : A 20 q < 0
  · obtain ⟨rfl, rfl⟩ := ha g1
    have st := stop I (-4) hI (fun _ _ => rfl) (by omega) (by omega)
    exact ⟨gPo_nm st.1 hA st.2.1 (fun _ _ => rfl) rfl, fun z => absurd z st.2.2⟩
  · by_cases g2 : A 24 k = 6
    · obtain ⟨rfl, rfl⟩ := hb g1 g2
      have st := stop I (-5) hI (fun _ _ => rfl) (by omega) (by omega)
      exact ⟨gPo_nm st.1 hA st.2.1 (fun _ _ => rfl) rfl, fun z => absurd z st.2.2⟩
    · by_cases g3 : 0 < A 21 q → gAok I A k (A 21 q)
      · obtain ⟨X, Y, B2, hxy, hfr, hH, rfl, h5, h6⟩ := hs g1 g2 g3
        clear hs hc ha hb
        have hfr2 : ∀ x, [22, 23, 24, 25, 26, 27, 28, 29].contains x = false → B x = A x := by
          intro x hx
          have hx2 : x ∉ [22, 23, 24, 25, 26, 27, 28, 29] := fun hm => by rw [List.contains_iff_mem.mpr hm] at hx; cases hx
          simp only [List.mem_cons, List.not_mem_nil, or_false, not_or] at hx2
          exact hfr x hx2.1 hx2.2.1 hx2.2.2.1 hx2.2.2.2.1 hx2.2.2.2.2.1 hx2.2.2.2.2.2.1 hx2.2.2.2.2.2.2.1 hx2.2.2.2.2.2.2.2
        have pl : k < gpl I A k (A 21 q) ∧ gpl I A k (A 21 q) ≤ I 1 := by
          unfold gpl
          by_cases hn : 0 < A 21 q
          · rw [if_pos hn]
            have := gAq_le I A k (A 21 q) (g3 hn) (A 21 q).toNat (by omega)
            omega
          · rw [if_neg hn]; omega
        have har : ∀ c, q * 40 ≤ c → c < q * 40 + A 20 q → A 18 c = 2 → 0 ≤ X (A 19 c) ∧ Y (A 19 c) ≤ I 1 := by
          intro c c0 c1 c2
          have z1 := (m4 c c0 c1).2 c2
          have z2 := (m4 c c0 c1).1
          unfold gtok at z2
          have gk := g3 (by omega)
          have z3 := hxy (A 19 c) (by omega) z1
          have z4 := gAq_le I A k (A 21 q) gk (A 19 c).toNat (by omega)
          have z5 := (gk.2 (A 19 c) (by omega) z1).1
          rw [z3.1, z3.2]
          omega
        have hok : ∀ t ∈ gnew I (va_up (va_up A 28 X) 29 Y) k (gpl I A k (A 21 q)) q, gok3 t := by
          exact gnew_ok (A := va_up (va_up A 28 X) 29 Y) hT.2.2 hd (by omega) (by omega) (by show 0 ≤ A 24 k + 1; omega) (by show A 24 k + 1 ≤ 6; omega) (fun c c0 c1 => ⟨(m4 c c0 c1).1, har c c0 c1⟩)
        have hln : (gnew I (va_up (va_up A 28 X) 29 Y) k (gpl I A k (A 21 q)) q).length ≤ 13000 := gnew_len (A := va_up (va_up A 28 X) 29 Y) t1 (by omega) (by omega) m1 har
        generalize hP : gnew I (va_up (va_up A 28 X) 29 Y) k (gpl I A k (A 21 q)) q = P at hok hH h5 h6 hln
        have hJ : gPo [1, 2, 5, 6] [] I A (va_up (va_up I 2 (I 2 + 1)) 1 (P.length : Int)) A := gPo.I 1 _ (gPo.I 2 _ (gPo.refl hI hA) rfl (show (-2147483648 : Int) ≤ I 2 + 1 ∧ I 2 + 1 ≤ 2147483647 by omega)) rfl (show (-2147483648 : Int) ≤ (P.length : Int) ∧ (P.length : Int) ≤ 2147483647 by omega)
        by_cases g4 : 300 < (P.length : Int) ∨ I 2 + 1 = 101
        · have e := h5 g4
          subst e
          have st := stop _ (-7) hJ.1 hJ.2.2.1 (by omega) (by omega)
          exact ⟨gPo_nm st.1 hA st.2.1 hfr2 rfl, fun z => absurd z st.2.2⟩
        · have e := h6 g4
          subst e
          refine ⟨gPo_nm hJ.1 hA hJ.2.2.1 hfr2 rfl, fun _ => ⟨⟨by show 0 ≤ (P.length : Int); omega, by show (P.length : Int) ≤ 300; omega, fun j j0 j1 => ?_⟩, fun j j0 j1 => ?_, rfl, by show I 2 + 1 ≤ 100; omega⟩⟩
          · have j1 : j < (P.length : Int) := j1
            obtain ⟨n, rfl⟩ := Int.eq_ofNat_of_zero_le j0
            have hn : n < P.length := by omega
            have hg := hH n P[n] (List.getElem?_eq_getElem hn) (by omega)
            have ho := (hok P[n] (List.getElem_mem hn)).1
            have ho2 := ho
            unfold gtok at ho2
            rw [gNm_v (A := B) (k := 22) (z := (n : Int)) (by rw [hg.1]; show (-2147483648 : Int) ≤ _ ∧ _ ≤ (2147483647 : Int); omega), gNm_v (A := B) (k := 23) (z := (n : Int)) (by rw [hg.2.1]; show (-2147483648 : Int) ≤ _ ∧ _ ≤ (2147483647 : Int); omega), hg.1, hg.2.1]
            exact ho
          · have j1 : j < (P.length : Int) := j1
            obtain ⟨n, rfl⟩ := Int.eq_ofNat_of_zero_le j0
            have hn : n < P.length := by omega
            have hg := hH n P[n] (List.getElem?_eq_getElem hn) (by omega)
            have ho := (hok P[n] (List.getElem_mem hn)).2
            rw [gNm_v (A := B) (k := 24) (z := (n : Int)) (by rw [hg.2.2]; show (-2147483648 : Int) ≤ _ ∧ _ ≤ (2147483647 : Int); omega), hg.2.2]
            exact ho
      · have g5 : 0 < A 21 q ∧ ¬ gAok I A k (A 21 q) := by
          by_cases hn : 0 < A 21 q
          · exact ⟨hn, fun z => g3 (fun _ => z)⟩
          · exact absurd (fun z => absurd z hn) g3
        obtain ⟨rfl, X, Y, rfl⟩ := hc g1 g2 g5.1 g5.2
        have st := stop I (-6) hI (fun _ _ => rfl) (by omega) (by omega)
        exact ⟨gPo_nm st.1 hA st.2.1 (fun x hx => (gup_o (T := [22, 23, 24, 25, 26, 27, 28, 29]) rfl hx).trans (gup_o (T := [22, 23, 24, 25, 26, 27, 28, 29]) rfl hx)) rfl, fun z => absurd z st.2.2⟩
theorem call_x (k q : Int) (I : Nat → Int) (A : Nat → Int → Int) (hT : gT I A) (hd : ∀ j, 0 ≤ j → j < I 1 → 0 ≤ A 24 j ∧ A 24 j ≤ 6) (hM : gMac A) (k0 : 0 ≤ k) (k1 : k < I 1) (q0 : 0 ≤ q) (q1 : q ≤ 5) (he : I 5 = 0) (h21 : I 2 ≤ 100) (rv : Option Value) (J : Nat → Int) (B : Nat → Int → Int) (h : cCall k q I A rv J B)
    {mp ml : Int → Int} {mK mV : Int → Int → Int} {X Y D X2 Y2 D2 : Int → Int} {y r2 n2 : Int} (hmr : gMr mp ml mK mV A) (hag : gAg (I 1) X Y D A) (hrc : xRC (I 1) X Y D (mK q) (mV q) (ml q) (mp q) k (I 2) y r2 n2 X2 Y2 D2) :
    J 5 = y ∧ J 2 = r2 ∧ (y ≠ 0 → J 6 = k) ∧ (y = 0 → J 1 = n2 ∧ gAg n2 X2 Y2 D2 (gNm B)) := by
  obtain ⟨h1, ha, hb, hc, hs⟩ := h
  obtain ⟨m0, m1, m2, m3, m4⟩ := hM q q0 q1
  obtain ⟨r4, r5, r6, r7⟩ := hrc
  have t1 := hT.2.1
  have hdk := hd k k0 k1
  have hDk := (hag k k0 k1).2.2
  have hm := hmr q q0 q1
  by_cases g1 : A 20 q < 0
  · have p1 : mp q = -1 := by
      by_cases c : mp q = -1
      · exact c
      · exact absurd (hm.2 c).1 (by clear hs ha hb hc r4 r5 r6 r7; omega)
    obtain ⟨rfl, rfl⟩ := ha g1
    obtain ⟨rfl, rfl⟩ := r4 p1
    exact ⟨rfl, rfl, fun _ => rfl, fun z => absurd z (by decide)⟩
  · have p1 : mp q ≠ -1 := fun z => g1 (hm.1 z)
    obtain ⟨l0, hp, hl, hbd⟩ := hm.2 p1
    by_cases g2 : A 24 k = 6
    · obtain ⟨rfl, rfl⟩ := hb g1 g2
      obtain ⟨rfl, rfl⟩ := r5 p1 (by rw [hDk, g2]; exact Int.le_refl _)
      exact ⟨rfl, rfl, fun _ => rfl, fun z => absurd z (by decide)⟩
    · have d6 : D k < 6 := by clear hs ha hb hc r4 r5 r6 r7; omega
      have aok := gAg_w hag rfl k (mp q) k0
      by_cases g3 : 0 < A 21 q → gAok I A k (A 21 q)
      · have g9 : mp q ≠ 0 → xAok (I 1) X Y k (mp q) := fun z => aok.mpr (by rw [← hp]; exact g3 (by clear hs ha hb hc r4 r5 r6 r7; omega))
        obtain ⟨U, W, B2, hxy, hfr, hH, rfl, h5, h6⟩ := hs g1 g2 g3
        obtain ⟨rfl, S, E, hSE, r8, r9⟩ := r7 p1 d6 g9
        clear hs ha hb hc r4 r5 r6 r7
        have pl : k < gpl I A k (A 21 q) ∧ gpl I A k (A 21 q) ≤ I 1 := by
          unfold gpl
          by_cases hn : 0 < A 21 q
          · rw [if_pos hn]
            have := gAq_le I A k (A 21 q) (g3 hn) (A 21 q).toNat (by omega)
            omega
          · rw [if_neg hn]; omega
        have har : ∀ c, q * 40 ≤ c → c < q * 40 + A 20 q → A 18 c = 2 → 0 ≤ U (A 19 c) ∧ W (A 19 c) ≤ I 1 := by
          intro c c0 c1 c2
          have z1 := (m4 c c0 c1).2 c2
          have z2 := (m4 c c0 c1).1
          unfold gtok at z2
          have gk := g3 (by omega)
          have z3 := hxy (A 19 c) (by omega) z1
          have z4 := gAq_le I A k (A 21 q) gk (A 19 c).toNat (by omega)
          have z5 := (gk.2 (A 19 c) (by omega) z1).1
          rw [z3.1, z3.2]
          omega
        have hok : ∀ t ∈ gnew I (va_up (va_up A 28 U) 29 W) k (gpl I A k (A 21 q)) q, gok3 t := by
          exact gnew_ok (A := va_up (va_up A 28 U) 29 W) hT.2.2 hd (by omega) (by omega) (by show 0 ≤ A 24 k + 1; omega) (by show A 24 k + 1 ≤ 6; omega) (fun c c0 c1 => ⟨(m4 c c0 c1).1, har c c0 c1⟩)
        rw [hp] at hH h5 h6 hxy hok
        have hmm : ∀ c, 0 ≤ c → c < ml q → mK q c = 2 → 0 ≤ mV q c ∧ mV q c < mp q := by
          intro c c0 c1 c2
          have e := hbd c c0 c1
          have z := m4 (q * 40 + c) (by omega) (by omega)
          have z2 := z.1
          unfold gtok at z2
          have z3 := z.2 (by rw [e.1]; exact c2)
          rw [e.2] at z3 z2
          rw [e.1] at z2
          omega
        have e := xnew_e (S := S) (E := E) hag rfl k0 k1 hp hl (by omega) hbd hmm g9 hSE hxy
        rw [e] at hH h5 h6 hok
        generalize hP : xP (I 1) X Y D (mK q) (mV q) S E (ml q) (mp q) k = P at hH h5 h6 r8 r9 hok
        by_cases g4 : 300 < (P.length : Int) ∨ I 2 + 1 = 101
        · have ej := h5 g4
          subst ej
          have ey := r8 (by omega)
          subst ey
          exact ⟨rfl, rfl, fun _ => rfl, fun z => absurd z (by decide)⟩
        · have ej := h6 g4
          obtain ⟨rfl, en, hH2⟩ := r9 (by omega)
          subst ej
          refine ⟨he, rfl, fun z => absurd rfl z, fun _ => ⟨en.symm, ?_⟩⟩
          intro j j0 j1
          rw [en] at j1
          obtain ⟨n, rfl⟩ := Int.eq_ofNat_of_zero_le j0
          have hn : n < P.length := by omega
          have hg := hH n P[n] (List.getElem?_eq_getElem hn) (by omega)
          have hg2 := hH2 n P[n] (List.getElem?_eq_getElem hn) (by omega)
          have ho := hok P[n] (List.getElem_mem hn)
          have ho1 := ho.1
          have ho2 := ho.2
          unfold gtok at ho1
          rw [gNm_v (A := B) (k := 22) (z := (n : Int)) (by rw [hg.1]; show (-2147483648 : Int) ≤ _ ∧ _ ≤ (2147483647 : Int); omega), gNm_v (A := B) (k := 23) (z := (n : Int)) (by rw [hg.2.1]; show (-2147483648 : Int) ≤ _ ∧ _ ≤ (2147483647 : Int); omega), gNm_v (A := B) (k := 24) (z := (n : Int)) (by rw [hg.2.2]; show (-2147483648 : Int) ≤ _ ∧ _ ≤ (2147483647 : Int); omega), hg.1, hg.2.1, hg.2.2]
          exact hg2
      · have g5 : 0 < A 21 q ∧ ¬ gAok I A k (A 21 q) := by
          by_cases hn : 0 < A 21 q
          · exact ⟨hn, fun z => g3 (fun _ => z)⟩
          · exact absurd (fun z => absurd z hn) g3
        have g6 : ¬ xAok (I 1) X Y k (mp q) := fun z => g5.2 (by rw [hp]; exact aok.mp z)
        obtain ⟨rfl, U, W, rfl⟩ := hc g1 g2 g5.1 g5.2
        obtain ⟨rfl, rfl⟩ := r6 p1 d6 (by clear hs ha hb hc r4 r5 r6 r7; omega) g6
        exact ⟨rfl, rfl, fun _ => rfl, fun z => absurd z (by decide)⟩
/-- call, with what it does to a derivation -/
theorem y_GM_call (G : jG) (d m : Nat) (k q : Int) (I : Nat → Int) (A : Nat → Int → Int) (hT : gT I A) (hI : gSI I) (hA : gSA A) (hd : ∀ j, 0 ≤ j → j < I 1 → 0 ≤ A 24 j ∧ A 24 j ≤ 6) (hM : gMac A) (k0 : 0 ≤ k) (k1 : k < I 1) (q0 : 0 ≤ q) (q1 : q ≤ 5) (he : I 5 = 0) (h20 : 0 ≤ I 2) (h21 : I 2 ≤ 100)
    (mp ml : Int → Int) (mK mV : Int → Int → Int) (X Y D : Int → Int) (hmr : gMr mp ml mK mV A) (hag : gAg (I 1) X Y D A) :
    gct G Y_GM_call (d + 2) m [.int (jI k), .int (jI q)] I A (fun rv I2 A2 => rv = none ∧ gPo [1, 2, 5, 6] [22, 23, 24, 25, 26, 27, 28, 29] I A I2 A2 ∧ ((I2 5 = 0 → gT I2 A2 ∧ (∀ j, 0 ≤ j → j < I2 1 → 0 ≤ A2 24 j ∧ A2 24 j ≤ 6) ∧ I2 2 = I 2 + 1 ∧ I2 2 ≤ 100) ∧
      ∀ (X2 Y2 D2 : Int → Int) (y r2 n2 : Int), xRC (I 1) X Y D (mK q) (mV q) (ml q) (mp q) k (I 2) y r2 n2 X2 Y2 D2 → I2 5 = y ∧ I2 2 = r2 ∧ (y ≠ 0 → I2 6 = k) ∧ (y = 0 → I2 1 = n2 ∧ gAg n2 X2 Y2 D2 A2))) := by
  have hR : gRw I A := ⟨hT.1, by have := hT.2.1; omega, hT.2.2⟩
  refine gct_mono (c_GM_call G d m k q I A hR hT.2.1 hd hM k0 k1 q0 q1 he h20 h21) (fun rv J B h => Or.inr ?_)
  have hw := call_w k q I A hT hI hA hd hM k0 k1 q0 q1 he h20 h21 rv J B h
  exact ⟨hw.1, hw.2.1, hw.2.2, fun X2 Y2 D2 y r2 n2 hrc => call_x k q I A hT hd hM k0 k1 q0 q1 he h21 rv J B h hmr hag hrc⟩
/-- what a derivation says of the next step -/
theorem XE_end {mp ml : Int → Int} {mK mV : Int → Int → Int} {n k r : Int} {X Y D : Int → Int} {z : XR} (h : XE mp ml mK mV n X Y D k r z) (hk : ¬ k < n) : z = ⟨0, k, r, n, X, Y⟩ := by
  have hh9 := XE.inv h
  clear h
  rcases hh9 with ⟨e09, _⟩ | ⟨e09, h, _⟩ | ⟨h, _, _, _⟩ | ⟨_, _, _, _, _, _, e09, h, _, _, _⟩ | ⟨_, _, _, _, _, h, _, _, _⟩
  · cases e09 <;> (rfl)
  · cases e09 <;> (exact absurd h hk)
  · (exact absurd h hk)
  · cases e09 <;> (exact absurd h hk)
  · (exact absurd h hk)
theorem XE_st {mp ml : Int → Int} {mK mV : Int → Int → Int} {n k r : Int} {X Y D : Int → Int} {z : XR} (h : XE mp ml mK mV n X Y D k r z) (hk : k < n) (h2 : X k = 2) : z = ⟨-3, k, r, n, X, Y⟩ := by
  have hh9 := XE.inv h
  clear h
  rcases hh9 with ⟨e09, h⟩ | ⟨e09, _, _⟩ | ⟨_, h, _, _⟩ | ⟨_, _, _, _, _, _, e09, _, h, _, _⟩ | ⟨_, _, _, _, _, _, h, _, _⟩
  · cases e09 <;> (exact absurd hk h)
  · cases e09 <;> (rfl)
  · (exact absurd h2 h)
  · cases e09 <;> (rw [h2] at h; exact absurd h (by decide))
  · (rw [h2] at h; exact absurd h (by decide))
theorem XE_nx {mp ml : Int → Int} {mK mV : Int → Int → Int} {n k r : Int} {X Y D : Int → Int} {z : XR} (h : XE mp ml mK mV n X Y D k r z) (hk : k < n) (h2 : X k ≠ 2) (h3 : X k ≠ 3) : XE mp ml mK mV n X Y D (k + 1) r z := by
  have hh9 := XE.inv h
  clear h
  rcases hh9 with ⟨e09, h⟩ | ⟨e09, _, h⟩ | ⟨_, _, _, h⟩ | ⟨_, _, _, _, _, _, e09, _, h, _, _⟩ | ⟨_, _, _, _, _, _, h, _, _⟩
  · cases e09 <;> (exact absurd hk h)
  · cases e09 <;> (exact absurd h h2)
  · (exact h)
  · cases e09 <;> (exact absurd h h3)
  · (exact absurd h h3)
theorem XE_ca {mp ml : Int → Int} {mK mV : Int → Int → Int} {n k r : Int} {X Y D : Int → Int} {z : XR} (h : XE mp ml mK mV n X Y D k r z) (hk : k < n) (h3 : X k = 3) : ∃ (y r2 n2 : Int) (X2 Y2 D2 : Int → Int), xRC n X Y D (mK (Y k)) (mV (Y k)) (ml (Y k)) (mp (Y k)) k r y r2 n2 X2 Y2 D2 ∧ (y ≠ 0 → z = ⟨y, k, r2, n, X, Y⟩) ∧ (y = 0 → XE mp ml mK mV n2 X2 Y2 D2 k r2 z) := by
  have hh9 := XE.inv h
  clear h
  rcases hh9 with ⟨e09, h⟩ | ⟨e09, _, h⟩ | ⟨_, _, h, _⟩ | ⟨_, _, _, _, _, _, e09, _, _, hc, hy⟩ | ⟨_, _, _, _, _, _, _, hc, hn⟩
  · cases e09 <;> (exact absurd hk h)
  · cases e09 <;> (rw [h3] at h; exact absurd h (by decide))
  · (exact absurd h3 h)
  · cases e09 <;> (exact ⟨_, _, _, _, _, _, hc, fun _ => rfl, fun z => absurd z hy⟩)
  · (exact ⟨_, _, _, _, _, _, hc, fun z => absurd rfl z, fun _ => hn⟩)

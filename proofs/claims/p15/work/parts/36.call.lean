/-! the tokens behind a replacement; call, weakly -/
def gok3 (t : Int × Int × Int) : Prop := gtok t.1 t.2.1 ∧ 0 ≤ t.2.2 ∧ t.2.2 ≤ 6
theorem gsg_ok {A : Nat → Int → Int} {a b N : Int} (h0 : 0 ≤ a) (hb : b ≤ N) (hT : ∀ k, 0 ≤ k → k < N → gtok (A 22 k) (A 23 k)) (hd : ∀ k, 0 ≤ k → k < N → 0 ≤ A 24 k ∧ A 24 k ≤ 6) : ∀ t ∈ gsg A a b, gok3 t := by
  intro t ht
  unfold gsg at ht
  obtain ⟨j, hj, rfl⟩ := List.mem_map.mp ht
  have hj := List.mem_range.mp hj
  exact ⟨hT _ (by omega) (by omega), hd _ (by omega) (by omega)⟩
theorem gnew_ok {I : Nat → Int} {A : Nat → Int → Int} {k p q : Int} (hR : ∀ k, 0 ≤ k → k < I 1 → gtok (A 22 k) (A 23 k)) (hd : ∀ k, 0 ≤ k → k < I 1 → 0 ≤ A 24 k ∧ A 24 k ≤ 6) (k1 : k ≤ I 1) (p0 : 0 ≤ p) (e0 : 0 ≤ A 24 k + 1) (e1 : A 24 k + 1 ≤ 6)
    (hm : ∀ c, q * 40 ≤ c → c < q * 40 + A 20 q → gtok (A 18 c) (A 19 c) ∧ (A 18 c = 2 → 0 ≤ A 28 (A 19 c) ∧ A 29 (A 19 c) ≤ I 1)) : ∀ t ∈ gnew I A k p q, gok3 t := by
  intro t ht
  unfold gnew at ht
  rcases List.mem_append.mp ht with h | h
  · rcases List.mem_append.mp h with h | h
    · exact gsg_ok (Int.le_refl 0) k1 hR hd t h
    · unfold gbd at h
      obtain ⟨j, hj, h⟩ := List.mem_flatMap.mp h
      have hj := List.mem_range.mp hj
      have hc := hm (q * 40 + (j : Int)) (by omega) (by omega)
      unfold gb1 at h
      by_cases h2 : A 18 (q * 40 + (j : Int)) = 2
      · rw [if_pos h2] at h
        exact gsg_ok (hc.2 h2).1 (hc.2 h2).2 hR hd t h
      · rw [if_neg h2] at h
        rw [List.mem_singleton.mp h]
        exact ⟨hc.1, e0, e1⟩
  · exact gsg_ok p0 (Int.le_refl _) hR hd t h
theorem gsg_len (A : Nat → Int → Int) (a b : Int) : (gsg A a b).length = (b - a).toNat := by simp [gsg]
theorem gbd_len {A : Nat → Int → Int} {q e : Int} : ∀ n : Nat, (∀ j : Nat, j < n → (gb1 A (q * 40 + (j : Int)) e).length ≤ 300) → (gbd A q e n).length ≤ n * 300
  | 0, _ => by simp [gbd]
  | n + 1, h => by
    have ih := gbd_len (A := A) (q := q) (e := e) n (fun j hj => h j (by omega))
    have hn := h n (by omega)
    have es : gbd A q e (n + 1) = gbd A q e n ++ gb1 A (q * 40 + (n : Int)) e := by
      unfold gbd
      rw [List.range_succ, List.flatMap_append]
      simp
    rw [es, List.length_append]
    omega
theorem gnew_len {I : Nat → Int} {A : Nat → Int → Int} {k p q : Int} (r1 : I 1 ≤ 300) (k1 : k ≤ I 1) (p0 : 0 ≤ p) (s1 : A 20 q ≤ 40) (hm : ∀ c, q * 40 ≤ c → c < q * 40 + A 20 q → A 18 c = 2 → 0 ≤ A 28 (A 19 c) ∧ A 29 (A 19 c) ≤ I 1) : (gnew I A k p q).length ≤ 13000 := by
  unfold gnew
  rw [List.length_append, List.length_append, gsg_len, gsg_len]
  have hb := gbd_len (A := A) (q := q) (e := A 24 k + 1) (A 20 q).toNat (fun j hj => by
    unfold gb1
    by_cases h2 : A 18 (q * 40 + (j : Int)) = 2
    · rw [if_pos h2, gsg_len]
      have := hm (q * 40 + (j : Int)) (by omega) (by omega) h2
      omega
    · rw [if_neg h2]
      simp)
  have : (A 20 q).toNat * 300 ≤ 12000 := by omega
  omega
theorem w_GM_call (G : jG) (d m : Nat) (k q : Int) (I : Nat → Int) (A : Nat → Int → Int) (hT : gT I A) (hI : gSI I) (hA : gSA A) (hd : ∀ j, 0 ≤ j → j < I 1 → 0 ≤ A 24 j ∧ A 24 j ≤ 6) (hM : gMac A) (k0 : 0 ≤ k) (k1 : k < I 1) (q0 : 0 ≤ q) (q1 : q ≤ 5) (he : I 5 = 0) (h20 : 0 ≤ I 2) (h21 : I 2 ≤ 100) :
    gct G Y_GM_call (d + 2) m [.int (jI k), .int (jI q)] I A (fun rv I2 A2 => rv = none ∧ gPo [1, 2, 5, 6] [22, 23, 24, 25, 26, 27, 28, 29] I A I2 A2 ∧ (I2 5 = 0 → gT I2 A2 ∧ (∀ j, 0 ≤ j → j < I2 1 → 0 ≤ A2 24 j ∧ A2 24 j ≤ 6) ∧ I2 2 = I 2 + 1 ∧ I2 2 ≤ 100)) := by
  have t1 := hT.2.1
  have hR : gRw I A := ⟨hT.1, by omega, hT.2.2⟩
  obtain ⟨m0, m1, m2, m3, m4⟩ := hM q q0 q1
  have hdk := hd k k0 k1
  have stop : ∀ (J : Nat → Int) (e : Int), gSI J → (∀ x, [1, 2, 5, 6].contains x = false → J x = I x) → -13 ≤ e → e < 0 → gSI (va_up (va_up J 5 e) 6 k) ∧ (∀ x, [1, 2, 5, 6].contains x = false → va_up (va_up J 5 e) 6 k x = I x) ∧ va_up (va_up J 5 e) 6 k 5 ≠ 0 := by
    intro J e hJ hS e0 e1
    have h := gPo.I 6 k (gPo.I (S := [1, 2, 5, 6]) (T := []) (I := I) (A := A) (J := J) (B := A) 5 e ⟨hJ, hA, hS, fun _ _ => rfl⟩ rfl (show (-13 : Int) ≤ e ∧ e ≤ 0 by omega)) rfl (show (-2147483648 : Int) ≤ k ∧ k ≤ 2147483647 by omega)
    exact ⟨h.1, h.2.2.1, by show e ≠ 0; omega⟩
  refine gct_mono (c_GM_call G d m k q I A hR t1 hd hM k0 k1 q0 q1 he h20 h21) (fun rv J B h => Or.inr ?_)
  obtain ⟨h1, ha, hb, hc, hs⟩ := h
  refine ⟨h1, ?_⟩
  by_cases g1 : A 20 q < 0
  · obtain ⟨rfl, rfl⟩ := ha g1
    have st := stop I (-4) hI (fun _ _ => rfl) (by omega) (by omega)
    exact ⟨gPo_nm st.1 hA st.2.1 (fun _ _ => rfl) rfl, fun z => absurd z st.2.2⟩
  · by_cases g2 : A 24 k = 6
    · obtain ⟨rfl, rfl⟩ := hb g1 g2
      have st := stop I (-5) hI (fun _ _ => rfl) (by omega) (by omega)
      exact ⟨gPo_nm st.1 hA st.2.1 (fun _ _ => rfl) rfl, fun z => absurd z st.2.2⟩
    · by_cases g3 : 0 < A 21 q → gAok I A k (A 21 q)
      · obtain ⟨X, Y, B2, hxy, hfr, hH, rfl, h5, h6⟩ := hs g1 g2 g3
        clear hs hc ha hb
        have hfr2 : ∀ x, [22, 23, 24, 25, 26, 27, 28, 29].contains x = false → B x = A x := by
          intro x hx
          have hx2 : x ∉ [22, 23, 24, 25, 26, 27, 28, 29] := fun hm => by rw [List.contains_iff_mem.mpr hm] at hx; cases hx
          simp only [List.mem_cons, List.not_mem_nil, or_false, not_or] at hx2
          exact hfr x hx2.1 hx2.2.1 hx2.2.2.1 hx2.2.2.2.1 hx2.2.2.2.2.1 hx2.2.2.2.2.2.1 hx2.2.2.2.2.2.2.1 hx2.2.2.2.2.2.2.2
        have pl : k < gpl I A k (A 21 q) ∧ gpl I A k (A 21 q) ≤ I 1 := by
          unfold gpl
          by_cases hn : 0 < A 21 q
          · rw [if_pos hn]
            have := gAq_le I A k (A 21 q) (g3 hn) (A 21 q).toNat (by omega)
            omega
          · rw [if_neg hn]; omega
        have har : ∀ c, q * 40 ≤ c → c < q * 40 + A 20 q → A 18 c = 2 → 0 ≤ X (A 19 c) ∧ Y (A 19 c) ≤ I 1 := by
          intro c c0 c1 c2
          have z1 := (m4 c c0 c1).2 c2
          have z2 := (m4 c c0 c1).1
          unfold gtok at z2
          have gk := g3 (by omega)
          have z3 := hxy (A 19 c) (by omega) z1
          have z4 := gAq_le I A k (A 21 q) gk (A 19 c).toNat (by omega)
          have z5 := (gk.2 (A 19 c) (by omega) z1).1
          rw [z3.1, z3.2]
          omega
        have hok : ∀ t ∈ gnew I (va_up (va_up A 28 X) 29 Y) k (gpl I A k (A 21 q)) q, gok3 t := by
          exact gnew_ok (A := va_up (va_up A 28 X) 29 Y) hT.2.2 hd (by omega) (by omega) (by show 0 ≤ A 24 k + 1; omega) (by show A 24 k + 1 ≤ 6; omega) (fun c c0 c1 => ⟨(m4 c c0 c1).1, har c c0 c1⟩)
        have hln : (gnew I (va_up (va_up A 28 X) 29 Y) k (gpl I A k (A 21 q)) q).length ≤ 13000 := gnew_len (A := va_up (va_up A 28 X) 29 Y) t1 (by omega) (by omega) m1 har
        generalize hP : gnew I (va_up (va_up A 28 X) 29 Y) k (gpl I A k (A 21 q)) q = P at hok hH h5 h6 hln
        have hJ : gPo [1, 2, 5, 6] [] I A (va_up (va_up I 2 (I 2 + 1)) 1 (P.length : Int)) A := gPo.I 1 _ (gPo.I 2 _ (gPo.refl hI hA) rfl (show (-2147483648 : Int) ≤ I 2 + 1 ∧ I 2 + 1 ≤ 2147483647 by omega)) rfl (show (-2147483648 : Int) ≤ (P.length : Int) ∧ (P.length : Int) ≤ 2147483647 by omega)
        by_cases g4 : 300 < (P.length : Int) ∨ I 2 + 1 = 101
        · have e := h5 g4
          subst e
          have st := stop _ (-7) hJ.1 hJ.2.2.1 (by omega) (by omega)
          exact ⟨gPo_nm st.1 hA st.2.1 hfr2 rfl, fun z => absurd z st.2.2⟩
        · have e := h6 g4
          subst e
          refine ⟨gPo_nm hJ.1 hA hJ.2.2.1 hfr2 rfl, fun _ => ⟨⟨by show 0 ≤ (P.length : Int); omega, by show (P.length : Int) ≤ 300; omega, fun j j0 j1 => ?_⟩, fun j j0 j1 => ?_, rfl, by show I 2 + 1 ≤ 100; omega⟩⟩
          · have j1 : j < (P.length : Int) := j1
            obtain ⟨n, rfl⟩ := Int.eq_ofNat_of_zero_le j0
            have hn : n < P.length := by omega
            have hg := hH n P[n] (List.getElem?_eq_getElem hn) (by omega)
            have ho := (hok P[n] (List.getElem_mem hn)).1
            have ho2 := ho
            unfold gtok at ho2
            rw [gNm_v (A := B) (k := 22) (z := (n : Int)) (by rw [hg.1]; show (-2147483648 : Int) ≤ _ ∧ _ ≤ (2147483647 : Int); omega), gNm_v (A := B) (k := 23) (z := (n : Int)) (by rw [hg.2.1]; show (-2147483648 : Int) ≤ _ ∧ _ ≤ (2147483647 : Int); omega), hg.1, hg.2.1]
            exact ho
          · have j1 : j < (P.length : Int) := j1
            obtain ⟨n, rfl⟩ := Int.eq_ofNat_of_zero_le j0
            have hn : n < P.length := by omega
            have hg := hH n P[n] (List.getElem?_eq_getElem hn) (by omega)
            have ho := (hok P[n] (List.getElem_mem hn)).2
            rw [gNm_v (A := B) (k := 24) (z := (n : Int)) (by rw [hg.2.2]; show (-2147483648 : Int) ≤ _ ∧ _ ≤ (2147483647 : Int); omega), hg.2.2]
            exact ho
      · have g5 : 0 < A 21 q ∧ ¬ gAok I A k (A 21 q) := by
          by_cases hn : 0 < A 21 q
          · exact ⟨hn, fun z => g3 (fun _ => z)⟩
          · exact absurd (fun z => absurd z hn) g3
        obtain ⟨rfl, X, Y, rfl⟩ := hc g1 g2 g5.1 g5.2
        have st := stop I (-6) hI (fun _ _ => rfl) (by omega) (by omega)
        exact ⟨gPo_nm st.1 hA st.2.1 (fun x hx => (gup_o (T := [22, 23, 24, 25, 26, 27, 28, 29]) rfl hx).trans (gup_o (T := [22, 23, 24, 25, 26, 27, 28, 29]) rfl hx)) rfl, fun z => absurd z st.2.2⟩

/-! the reference's small methods: bounds and exact ends together -/
theorem y_GM_clear (G : jG) (d m : Nat) (f : Int) (I : Nat → Int) (A : Nat → Int → Int) (hI : gSI I) (hA : gSA A) (h0 : 0 ≤ f) (h1 : f < 400) : gct G Y_GM_clear d m [.int (jI f)] I A (fun rv I2 A2 => rv = none ∧ gPo [] [35] I A I2 A2 ∧ ∀ z, A2 35 z = if f * 13 ≤ z ∧ z < f * 13 + 13 then 0 else A 35 z) := by
  refine gct_mono (c_GM_clear G d m f I A h0 h1) (fun rv J B h => Or.inl ?_)
  obtain ⟨h1, rfl, W, rfl, hW⟩ := h
  refine ⟨h1, gA35 hI hA rfl (fun z => ?_), hW⟩
  rw [hW]
  split
  · omega
  · exact hA 35 z
theorem y_GM_copyForm (G : jG) (d m : Nat) (f g : Int) (I : Nat → Int) (A : Nat → Int → Int) (hI : gSI I) (hA : gSA A) (h0 : 0 ≤ f) (h1 : f < 400) (h2 : 0 ≤ g) (h3 : g < 400) (hne : f ≠ g) : gct G Y_GM_copyForm d m [.int (jI f), .int (jI g)] I A (fun rv I2 A2 => rv = none ∧ gPo [] [35] I A I2 A2 ∧ ∀ z, A2 35 z = if f * 13 ≤ z ∧ z < f * 13 + 13 then A 35 (z - f * 13 + g * 13) else A 35 z) := by
  refine gct_mono (c_GM_copyForm G d m f g I A h0 h1 h2 h3 hne) (fun rv J B h => Or.inl ?_)
  obtain ⟨h1, rfl, W, rfl, hW⟩ := h
  refine ⟨h1, gA35 hI hA rfl (fun z => ?_), hW⟩
  rw [hW]
  split
  · exact hA 35 _
  · exact hA 35 z
theorem y_GM_addForm (G : jG) (d m : Nat) (f g s : Int) (I : Nat → Int) (A : Nat → Int → Int) (hI : gSI I) (hA : gSA A) (h0 : 0 ≤ f) (h1 : f < 400) (h2 : 0 ≤ g) (h3 : g < 400) (hne : f ≠ g) (hs : jRi s) : gct G Y_GM_addForm d m [.int (jI f), .int (jI g), .int (jI s)] I A (fun rv I2 A2 => rv = none ∧ gPo [] [35] I A I2 A2 ∧ (∀ z, ¬ (f * 13 ≤ z ∧ z < f * 13 + 13) → A2 35 z = A 35 z) ∧ ∀ z, f * 13 ≤ z → z < f * 13 + 13 → jRl (A 35 z + s * A 35 (z - f * 13 + g * 13)) → A2 35 z = A 35 z + s * A 35 (z - f * 13 + g * 13)) := by
  refine gct_mono (c_GM_addForm G d m f g s I A h0 h1 h2 h3 hne hs) (fun rv J B h => Or.inr ?_)
  obtain ⟨h1, rfl, W, rfl, hW⟩ := h
  refine ⟨h1, gPo_nm hI hA (fun _ _ => rfl) (fun k hk => gup_o (T := [35]) rfl hk) rfl, fun z hz => ?_, fun z z0 z1 hr => ?_⟩
  · have e : va_up A 35 W 35 z = A 35 z := by rw [va_up_self, hW, if_neg hz]
    rw [gNm_v (by rw [e]; exact hA 35 z), e]
  · have e : va_up A 35 W 35 z = A 35 z + s * A 35 (z - f * 13 + g * 13) := by rw [va_up_self, hW, if_pos ⟨z0, z1⟩]
    rw [gNm_v (by rw [e]; exact hr), e]
theorem y_GM_check (G : jG) (d m : Nat) (f : Int) (I : Nat → Int) (A : Nat → Int → Int) (hI : gSI I) (hA : gSA A) (h0 : 0 ≤ f) (h1 : f < 400) : gct G Y_GM_check (d + 1) m [.int (jI f)] I A (fun rv I2 A2 => rv = none ∧ gPo [15] [35] I A I2 A2 ∧ (∀ z, A2 35 z = if f * 13 ≤ z ∧ z < f * 13 + 13 then gkp (A 35 z) else A 35 z) ∧ (I2 15 = 0 ↔ (I 15 = 0 ∧ ∀ j, 0 ≤ j → j < 13 → gin (A 35 (f * 13 + j))))) := by
  refine gct_mono (c_GM_check G d m f I A h0 h1 (fun j _ _ => hA 35 _)) (fun rv J B h => Or.inl ?_)
  obtain ⟨h1, r, W, rfl, rfl, hW, ha, hb⟩ := h
  have b : (0 : Int) ≤ I 15 ∧ I 15 ≤ 1 := hI 15
  have hr : 0 ≤ r ∧ r ≤ 1 := by
    by_cases hc : ∀ j, 0 ≤ j → j < 13 → gin (A 35 (f * 13 + j))
    · rw [ha hc]; exact b
    · rw [hb hc]; omega
  refine ⟨h1, gPo.A 35 W (gPo.I 15 r (gPo.refl hI hA) rfl hr) rfl (fun z => ?_), hW, ?_⟩
  · show -9223372036854775808 ≤ W z ∧ W z ≤ 9223372036854775807
    rw [hW]
    split
    · unfold gkp; split
      · omega
      · omega
    · exact hA 35 z
  · show r = 0 ↔ _
    by_cases hc : ∀ j, 0 ≤ j → j < 13 → gin (A 35 (f * 13 + j))
    · rw [ha hc]
      exact ⟨fun z => ⟨z, hc⟩, fun z => z.1⟩
    · rw [hb hc]
      exact ⟨fun z => absurd z (by decide), fun z => absurd z.2 hc⟩
theorem y_GM_loadVariable (G : jG) (d m : Nat) (f v : Int) (I : Nat → Int) (A : Nat → Int → Int) (hI : gSI I) (hA : gSA A) (h0 : 0 ≤ f) (h1 : f < 400) (v0 : 0 ≤ v) (v1 : v < 12) : gct G Y_GM_loadVariable (d + 1) m [.int (jI f), .int (jI v)] I A (fun rv I2 A2 => rv = none ∧ gPo [] [35] I A I2 A2 ∧ ∀ z, A2 35 z = if f * 13 ≤ z ∧ z < f * 13 + 13 then (if A 30 v = 0 then (if z = f * 13 + v then 65536 else 0) else A 31 (v * 13 + (z - f * 13))) else A 35 z) := by
  refine gct_mono (c_GM_loadVariable G d m f v I A h0 h1 v0 v1 (hA 30 v)) (fun rv J B h => Or.inl ?_)
  obtain ⟨h1, rfl, W, rfl, hW⟩ := h
  refine ⟨h1, gA35 hI hA rfl (fun z => ?_), hW⟩
  rw [hW]
  split
  · split
    · split <;> omega
    · exact hA 31 _
  · exact hA 35 z
theorem y_GM_scale (G : jG) (d m : Nat) (f t : Int) (I : Nat → Int) (A : Nat → Int → Int) (hI : gSI I) (hA : gSA A) (h0 : 0 ≤ f) (h1 : f < 400) (hb : ∀ j, 0 ≤ j → j < 13 → gin (A 35 (f * 13 + j))) (ht : -65536000 ≤ t ∧ t ≤ 65536000) : gct G Y_GM_scale (d + 2) m [.int (jI f), .long (jL t)] I A (fun rv I2 A2 => rv = none ∧ gPo [15] [35] I A I2 A2 ∧ (∀ z, A2 35 z = if f * 13 ≤ z ∧ z < f * 13 + 13 then gtm (A 35 z) t else A 35 z) ∧ (I2 15 = 0 ↔ (I 15 = 0 ∧ ∀ j, 0 ≤ j → j < 13 → gtP (A 35 (f * 13 + j)) t))) := by
  refine gct_mono (c_GM_scale G d m f t I A h0 h1 (fun j j0 j1 => by have := hb j j0 j1; omega) (by omega) (by omega)) (fun rv J B h => Or.inl ?_)
  obtain ⟨h1, r, W, rfl, rfl, hW, ha, hb2⟩ := h
  have b : (0 : Int) ≤ I 15 ∧ I 15 ≤ 1 := hI 15
  have hr : 0 ≤ r ∧ r ≤ 1 := by
    by_cases hc : ∀ j, 0 ≤ j → j < 13 → gtP (A 35 (f * 13 + j)) t
    · rw [ha hc]; exact b
    · rw [hb2 hc]; omega
  refine ⟨h1, gPo.A 35 W (gPo.I 15 r (gPo.refl hI hA) rfl hr) rfl (fun z => ?_), hW, ?_⟩
  · show -9223372036854775808 ≤ W z ∧ W z ≤ 9223372036854775807
    rw [hW]
    split
    · unfold gtm
      split
      · next hp => have := hp.2; omega
      · omega
    · exact hA 35 z
  · show r = 0 ↔ _
    by_cases hc : ∀ j, 0 ≤ j → j < 13 → gtP (A 35 (f * 13 + j)) t
    · rw [ha hc]
      exact ⟨fun z => ⟨z, hc⟩, fun z => z.1⟩
    · rw [hb2 hc]
      exact ⟨fun z => absurd z (by decide), fun z => absurd z.2 hc⟩
theorem y_GM_syntax (G : jG) (d m : Nat) (I : Nat → Int) (A : Nat → Int → Int) (hI : gSI I) (hA : gSA A) (he : I 5 = 0) : gct G Y_GM_syntax (d + 1) m [] I A (fun rv I2 A2 => rv = none ∧ gPo [5, 6] [] I A I2 A2 ∧ I2 5 ≠ 0 ∧ I2 5 = -8 ∧ I2 6 = I 4) := by
  have b4 : (0 : Int) ≤ I 4 ∧ I 4 ≤ 300 := hI 4
  refine gct_mono (c_GM_syntax G d m I A (by unfold jRi; omega)) (fun rv J B h => Or.inl ?_)
  obtain ⟨h1, rfl, rfl⟩ := h
  refine ⟨h1, ?_⟩
  unfold gsy
  rw [if_pos he]
  exact ⟨gPo.I 6 _ (gPo.I 5 _ (gPo.refl hI hA) rfl (show (-13 : Int) ≤ -8 ∧ (-8 : Int) ≤ 0 by omega)) rfl (show (-2147483648 : Int) ≤ I 4 ∧ I 4 ≤ 2147483647 by omega), by show (-8 : Int) ≠ 0; omega, rfl, rfl⟩
def needQ (w : Int) (I : Nat → Int) (A : Nat → Int → Int) (J : Nat → Int) : Prop := (gW I A (I 4) w → J 5 = 0 ∧ J 4 = I 4 + 1) ∧ (¬ gW I A (I 4) w → J 5 = -8 ∧ J 6 = I 4 ∧ J 4 = I 4)
theorem y_GM_need (G : jG) (d m : Nat) (w : Int) (I : Nat → Int) (A : Nat → Int → Int) (hT : gT I A) (hI : gSI I) (hA : gSA A) (hw : jRi w) : gct G Y_GM_need (d + 2) m [.int (jI w)] I A (fun rv I2 A2 => rv = none ∧ gPo [4, 5, 6] [] I A I2 A2 ∧ ((I2 5 = 0 → I 5 = 0 ∧ I2 4 = I 4 + 1) ∧ (I 5 = 0 → needQ w I A I2) ∧ (I 5 ≠ 0 → I2 = I))) := by
  have b : (-13 : Int) ≤ I 5 ∧ I 5 ≤ 0 := hI 5
  have b4 : (0 : Int) ≤ I 4 ∧ I 4 ≤ 300 := hI 4
  have t1 := hT.2.1
  refine gct_mono (c_GM_need G d m w I A (gP_of hI hT) hw (by unfold jRi; omega)) (fun rv J B h => Or.inl ?_)
  obtain ⟨h1, rfl, rfl⟩ := h
  refine ⟨h1, ?_⟩
  unfold gnd
  by_cases hc : I 5 = 0
  · rw [if_pos hc]
    by_cases hg : gW I B (I 4) w
    · rw [if_pos hg]
      exact ⟨gPo.I 4 _ (gPo.refl hI hA) rfl (show (0 : Int) ≤ I 4 + 1 ∧ I 4 + 1 ≤ 300 by omega), fun _ => ⟨hc, rfl⟩, fun _ => ⟨fun _ => ⟨hc, rfl⟩, fun z => absurd hg z⟩, fun z => absurd hc z⟩
    · rw [if_neg hg]
      unfold gsy
      rw [if_pos hc]
      exact ⟨gPo.I 6 _ (gPo.I 5 _ (gPo.refl hI hA) rfl (show (-13 : Int) ≤ -8 ∧ (-8 : Int) ≤ 0 by omega)) rfl (show (-2147483648 : Int) ≤ I 4 ∧ I 4 ≤ 2147483647 by omega), fun (z : (-8 : Int) = 0) => by omega, fun _ => ⟨fun z => absurd z hg, fun _ => ⟨rfl, rfl, rfl⟩⟩, fun z => absurd hc z⟩
  · rw [if_neg hc]
    exact ⟨gPo.refl hI hA, fun z => absurd z hc, fun z => absurd z hc, fun _ => rfl⟩
def opnQ (I : Nat → Int) (A : Nat → Int → Int) (J : Nat → Int) : Prop := (gW I A (I 4) 3 → I 14 ≠ 8 → J 5 = 0 ∧ J 4 = I 4 + 1 ∧ J 14 = I 14 + 1) ∧ (gW I A (I 4) 3 → I 14 = 8 → J 5 = -5 ∧ J 6 = I 4) ∧ (¬ gW I A (I 4) 3 → J 5 = -8 ∧ J 6 = I 4)
theorem y_GM_openBracket (G : jG) (d m : Nat) (I : Nat → Int) (A : Nat → Int → Int) (hT : gT I A) (hI : gSI I) (hA : gSA A) (he : I 5 = 0) : gct G Y_GM_openBracket (d + 2) m [] I A (fun rv I2 A2 => rv = none ∧ gPo [4, 5, 6, 14] [] I A I2 A2 ∧ ((I2 5 = 0 → I 5 = 0 ∧ I2 4 = I 4 + 1 ∧ I2 14 = I 14 + 1) ∧ opnQ I A I2)) := by
  have b4 : (0 : Int) ≤ I 4 ∧ I 4 ≤ 300 := hI 4
  have b14 : (0 : Int) ≤ I 14 ∧ I 14 ≤ 8 := hI 14
  have t1 := hT.2.1
  refine gct_mono (c_GM_openBracket G d m I A (gP_of hI hT) (by unfold jRi; omega) (by unfold jRi; omega)) (fun rv J B h => Or.inl ?_)
  obtain ⟨h1, rfl, rfl⟩ := h
  refine ⟨h1, ?_⟩
  unfold gob
  rw [if_pos he]
  by_cases hg : gW I B (I 4) 3
  · rw [if_pos hg]
    by_cases h8 : I 14 = 8
    · rw [if_pos h8]
      exact ⟨gPo.I 6 _ (gPo.I 5 _ (gPo.refl hI hA) rfl (show (-13 : Int) ≤ -5 ∧ (-5 : Int) ≤ 0 by omega)) rfl (show (-2147483648 : Int) ≤ I 4 ∧ I 4 ≤ 2147483647 by omega), fun (z : (-5 : Int) = 0) => by omega, fun _ z => absurd h8 z, fun _ _ => ⟨rfl, rfl⟩, fun z => absurd hg z⟩
    · rw [if_neg h8]
      exact ⟨gPo.I 4 _ (gPo.I 14 _ (gPo.refl hI hA) rfl (show (0 : Int) ≤ I 14 + 1 ∧ I 14 + 1 ≤ 8 by omega)) rfl (show (0 : Int) ≤ I 4 + 1 ∧ I 4 + 1 ≤ 300 by omega), fun _ => ⟨he, rfl, rfl⟩, fun _ _ => ⟨he, rfl, rfl⟩, fun _ z => absurd z h8, fun z => absurd hg z⟩
  · rw [if_neg hg]
    unfold gsy
    rw [if_pos he]
    exact ⟨gPo.I 6 _ (gPo.I 5 _ (gPo.refl hI hA) rfl (show (-13 : Int) ≤ -8 ∧ (-8 : Int) ≤ 0 by omega)) rfl (show (-2147483648 : Int) ≤ I 4 ∧ I 4 ≤ 2147483647 by omega), fun (z : (-8 : Int) = 0) => by omega, fun z => absurd z hg, fun z => absurd z hg, fun _ => ⟨rfl, rfl⟩⟩

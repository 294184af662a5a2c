/-! the stack of what waits: brackets (0, 5, 6), signs (1, 2), factors (3, 4); how many forms lie under it -/
def gCn (W : Int → Int) : Nat → Int
  | 0 => 0
  | t + 1 => gCn W t + (if W t = 1 ∨ W t = 2 ∨ W t = 6 then 1 else 0)
def gBn (W : Int → Int) : Nat → Int
  | 0 => 0
  | t + 1 => gBn W t + (if W t = 0 ∨ W t = 5 ∨ W t = 6 then 1 else 0)
def gC (W : Int → Int) (T : Int) : Int := gCn W T.toNat
def gBr (W : Int → Int) (T : Int) : Int := gBn W T.toNat
def gSt (W : Int → Int) (T : Int) : Prop := ∀ t, 0 ≤ t → t < T → (W t = 1 ∨ W t = 2) → t = 0 ∨ W (t - 1) = 0 ∨ W (t - 1) = 5 ∨ W (t - 1) = 6
theorem gC_0 (W : Int → Int) : gC W 0 = 0 := rfl
theorem gB_0 (W : Int → Int) : gBr W 0 = 0 := rfl
theorem gC_s (W : Int → Int) (T : Int) (h : 0 ≤ T) : ((W T = 1 ∨ W T = 2 ∨ W T = 6) → gC W (T + 1) = gC W T + 1) ∧ (¬ (W T = 1 ∨ W T = 2 ∨ W T = 6) → gC W (T + 1) = gC W T) := by
  have e : gC W (T + 1) = gC W T + (if W T = 1 ∨ W T = 2 ∨ W T = 6 then 1 else 0) := by
    unfold gC
    rw [show (T + 1).toNat = T.toNat + 1 by omega]
    show gCn W T.toNat + (if W (T.toNat : Int) = 1 ∨ W (T.toNat : Int) = 2 ∨ W (T.toNat : Int) = 6 then 1 else 0) = _
    rw [show ((T.toNat : Nat) : Int) = T by omega]
  rw [e]
  exact ⟨fun z => by rw [if_pos z], fun z => by rw [if_neg z, Int.add_zero]⟩
theorem gB_s (W : Int → Int) (T : Int) (h : 0 ≤ T) : ((W T = 0 ∨ W T = 5 ∨ W T = 6) → gBr W (T + 1) = gBr W T + 1) ∧ (¬ (W T = 0 ∨ W T = 5 ∨ W T = 6) → gBr W (T + 1) = gBr W T) := by
  have e : gBr W (T + 1) = gBr W T + (if W T = 0 ∨ W T = 5 ∨ W T = 6 then 1 else 0) := by
    unfold gBr
    rw [show (T + 1).toNat = T.toNat + 1 by omega]
    show gBn W T.toNat + (if W (T.toNat : Int) = 0 ∨ W (T.toNat : Int) = 5 ∨ W (T.toNat : Int) = 6 then 1 else 0) = _
    rw [show ((T.toNat : Nat) : Int) = T by omega]
  rw [e]
  exact ⟨fun z => by rw [if_pos z], fun z => by rw [if_neg z, Int.add_zero]⟩
theorem gCn_ju (W : Int → Int) (i w : Int) : ∀ n : Nat, (n : Int) ≤ i → gCn (ju W i w) n = gCn W n ∧ gBn (ju W i w) n = gBn W n
  | 0, _ => ⟨rfl, rfl⟩
  | n + 1, h => by
    have h1 := gCn_ju W i w n (by omega)
    have e : ju W i w (n : Int) = W n := ju_ne _ _ (by omega)
    unfold gCn gBn
    rw [e, h1.1, h1.2]
    exact ⟨rfl, rfl⟩
theorem gC_ju (W : Int → Int) (i w T : Int) (h : 0 ≤ T) (h2 : T ≤ i) : gC (ju W i w) T = gC W T := (gCn_ju W i w T.toNat (by omega)).1
theorem gB_ju (W : Int → Int) (i w T : Int) (h : 0 ≤ T) (h2 : T ≤ i) : gBr (ju W i w) T = gBr W T := (gCn_ju W i w T.toNat (by omega)).2
theorem gSt_le {W : Int → Int} {T T2 : Int} (h : gSt W T) (h2 : T2 ≤ T) : gSt W T2 := fun t a b c => h t a (by omega) c
theorem gSt_ju {W : Int → Int} {T w : Int} (h : gSt W T) (h0 : 0 ≤ T) (hw : w = 1 ∨ w = 2 → T = 0 ∨ W (T - 1) = 0 ∨ W (T - 1) = 5 ∨ W (T - 1) = 6) : gSt (ju W T w) (T + 1) := by
  intro t a b c
  rw [show ju W T w (t - 1) = W (t - 1) from ju_ne _ _ (by omega)]
  by_cases e : t = T
  · subst e
    rw [show ju W t w t = w from ju_self _ _ _] at c
    exact hw c
  · rw [show ju W T w t = W t from ju_ne _ _ e] at c
    exact h t a (by omega) c
theorem gSt_6 {W : Int → Int} {T : Int} (h : gSt W T) (h0 : 1 ≤ T) : gSt (ju W (T - 1) 6) T := by
  intro t a b c
  by_cases e : t = T - 1
  · rw [e, show ju W (T - 1) 6 (T - 1) = 6 from ju_self _ _ _] at c
    omega
  · rw [show ju W (T - 1) 6 t = W t from ju_ne _ _ e] at c
    rw [show ju W (T - 1) 6 (t - 1) = W (t - 1) from ju_ne _ _ (by omega)]
    exact h t a (by omega) c
theorem gSt_n {W : Int → Int} : ∀ n : Nat, gSt W (n : Int) → 0 ≤ gC W n ∧ gC W n ≤ 2 * gBr W n + 1 ∧ 0 ≤ gBr W n ∧ ((n : Int) = 0 ∨ W ((n : Int) - 1) = 0 ∨ W ((n : Int) - 1) = 5 ∨ W ((n : Int) - 1) = 6 → gC W n ≤ 2 * gBr W n)
  | 0, _ => by
    have h1 : gC W ((0 : Nat) : Int) = 0 := rfl
    have h2 : gBr W ((0 : Nat) : Int) = 0 := rfl
    rw [h1, h2]
    omega
  | n + 1, h => by
    have ih := gSt_n n (gSt_le h (by omega))
    have hc := gC_s W n (by omega)
    have hb := gB_s W n (by omega)
    have hn := h n (by omega) (by omega)
    have e : ((n + 1 : Nat) : Int) = (n : Int) + 1 := by omega
    have e2 : ((n + 1 : Nat) : Int) - 1 = (n : Int) := by omega
    rw [e2, e]
    omega
theorem gSt_b {W : Int → Int} {T : Int} (h : gSt W T) (h0 : 0 ≤ T) : 0 ≤ gC W T ∧ gC W T ≤ 2 * gBr W T + 1 := by
  have := gSt_n (W := W) T.toNat (by rw [show ((T.toNat : Nat) : Int) = T by omega]; exact h)
  rw [show ((T.toNat : Nat) : Int) = T by omega] at this
  omega

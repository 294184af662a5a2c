/-! the numbers of a path -/
def t1 (F : Int → Int) (e : Int) : Prop := (¬ fZ F → e = -12) ∧ (fZ F → F 12 % 4096 ≠ 0 → e = -13) ∧ (fZ F → F 12 % 4096 = 0 → (F 12 < -2097152 ∨ 6291456 < F 12) → e = -9) ∧ (fZ F → F 12 % 4096 = 0 → -2097152 ≤ F 12 → F 12 ≤ 6291456 → e = 0)
def TN : List (Int → Int) → Int → Prop
  | [] => fun e => e = 0
  | F :: fs => fun e => ∃ e1 : Int, t1 F e1 ∧ ((e1 ≠ 0 ∧ e = e1) ∨ (e1 = 0 ∧ TN fs e))
theorem TN_at {fs : List (Int → Int)} {k e : Int} {F : Int → Int} (h : TN (fs.drop k.toNat) e) (k0 : 0 ≤ k) (k1 : k < (fs.length : Int)) (hF : fs[k.toNat]? = some F) : ∃ e1 : Int, t1 F e1 ∧ ((e1 ≠ 0 ∧ e = e1) ∨ (e1 = 0 ∧ TN (fs.drop (k + 1).toNat) e)) := by
  obtain ⟨n, rfl⟩ := Int.eq_ofNat_of_zero_le k0
  have e2 : ((n : Int)).toNat = n := by omega
  have e3 : ((n : Int) + 1).toNat = n + 1 := by omega
  rw [e2] at h hF
  rw [e3]
  have n2 : n < fs.length := by omega
  rw [List.getElem?_eq_getElem n2] at hF
  rw [List.drop_eq_getElem_cons n2] at h
  cases hF
  exact h
theorem TN_end {fs : List (Int → Int)} {k e : Int} (h : TN (fs.drop k.toNat) e) (k1 : (fs.length : Int) ≤ k) : e = 0 := by
  rw [List.drop_eq_nil_of_le (by omega)] at h
  exact h
theorem TN_mk {fs : List (Int → Int)} {k e : Int} {F : Int → Int} {e1 : Int} (k0 : 0 ≤ k) (hF : fs[k.toNat]? = some F) (h1 : t1 F e1) (h2 : (e1 ≠ 0 ∧ e = e1) ∨ (e1 = 0 ∧ TN (fs.drop (k + 1).toNat) e)) : TN (fs.drop k.toNat) e := by
  obtain ⟨n, rfl⟩ := Int.eq_ofNat_of_zero_le k0
  have e2 : ((n : Int)).toNat = n := by omega
  have e3 : ((n : Int) + 1).toNat = n + 1 := by omega
  rw [e2] at hF ⊢
  rw [e3] at h2
  have n2 : n < fs.length := by
    by_cases c : n < fs.length
    · exact c
    · rw [List.getElem?_eq_none (by omega)] at hF; cases hF
  rw [List.getElem?_eq_getElem n2] at hF
  rw [List.drop_eq_getElem_cons n2]
  cases hF
  exact ⟨e1, h1, h2⟩
theorem t1_v {F G : Int → Int} {e : Int} (h : vis F G) (h1 : t1 F e) : t1 G e := by
  have z := fZ_v h
  have e12 := h 12 (by decide) (by decide)
  unfold t1
  rw [← e12]
  obtain ⟨a, b, c, d⟩ := h1
  exact ⟨fun y => a (fun q => y (z.mp q)), fun y => b (z.mpr y), fun y => c (z.mpr y), fun y => d (z.mpr y)⟩
theorem TN_ok : ∀ {fs : List (Int → Int)}, TN fs 0 → ∀ F, F ∈ fs → fZ F ∧ F 12 % 4096 = 0 ∧ -2097152 ≤ F 12 ∧ F 12 ≤ 6291456
  | [], _, F, hF => by cases hF
  | G :: fs, h, F, hF => by
    obtain ⟨e1, h1, h2⟩ := h
    have e0 : e1 = 0 ∧ TN fs 0 := by
      rcases h2 with ⟨n1, n2⟩ | h2
      · exact absurd n2.symm n1
      · exact h2
    rcases List.mem_cons.mp hF with e | hm
    · subst e
      obtain ⟨a, b, c, d⟩ := h1
      by_cases z : fZ F
      · by_cases m : F 12 % 4096 = 0
        · by_cases r : F 12 < -2097152 ∨ 6291456 < F 12
          · have := c z m r; omega
          · exact ⟨z, m, by omega, by omega⟩
        · have := b z m; omega
      · have := a z; omega
    · exact TN_ok e0.2 F hm
theorem TN_pnr {fs : List (Int → Int)} (h : TN fs 0) : pnr (pN fs) := by
  intro z z0 z1
  unfold pN
  cases e : fs[z.toNat]? with
  | none => show -512 ≤ (0 : Int) / 4096 ∧ (0 : Int) / 4096 ≤ 1536; decide
  | some F =>
    have k := TN_ok h F (List.mem_of_getElem? e)
    show -512 ≤ F 12 / 4096 ∧ F 12 / 4096 ≤ 1536
    omega
/-- the numbers' loop -/
def aLp (fs : List (Int → Int)) (k e9 g15 lg at9 : Int) (J : Nat → Int) (B : Nat → Int → Int) : Prop :=
  (J 5 = 0 → g15 = 0 ∧ lg ≤ 12 ∧ TN (fs.drop k.toNat) e9 ∧ ∀ z, 0 ≤ z → z < k → B 39 z = pN fs z) ∧ (J 5 ≠ 0 → J 6 = at9 ∧ (g15 ≠ 0 → J 5 = -9) ∧ (g15 = 0 → 12 < lg → J 5 = -7) ∧ (g15 = 0 → lg ≤ 12 → J 5 = e9))
/-- what area leaves -/
def aQ (e9 f : Int) (fs : List (Int → Int)) (L : List Int) (I : Nat → Int) (A : Nat → Int → Int) (J : Nat → Int) (B : Nat → Int → Int) : Prop := (I 15 ≠ 0 → J 5 = -9) ∧ (I 15 = 0 → 12 < I 12 → J 5 = -7) ∧ (I 15 = 0 → I 12 ≤ 12 → J 5 = e9) ∧ (J 5 ≠ 0 → J 6 = I 4 - 1) ∧ (J 5 = 0 → ptd f (pls (pN fs) L) (A 45) (B 45)) ∧ (J 5 ≠ 0 → B 45 = A 45)
/-- the kinds of the legs -/
def gCv (B : Nat → Int → Int) (L : List Int) : Prop := ∀ (i : Nat) (x : Int), L[i]? = some x → i < 12 → B 44 ((i : Int) + 1) = x
theorem gCv_0 (B : Nat → Int → Int) : gCv B [] := fun i x h => by simp at h
theorem gCv_f {B B2 : Nat → Int → Int} {L : List Int} (h : gCv B L) (e : B2 44 = B 44) : gCv B2 L := fun i x hi h12 => by rw [e]; exact h i x hi h12
theorem gCv_s {B B2 : Nat → Int → Int} {L : List Int} {b : Int} (h : gCv B L) (e : L.length < 12 → B2 44 = ju (B 44) ((L.length : Int) + 1) b) (e2 : ¬ L.length < 12 → B2 44 = B 44) : gCv B2 (L ++ [b]) := by
  intro i x hi h12
  by_cases c : i < L.length
  · rw [List.getElem?_append_left c] at hi
    have k := h i x hi h12
    by_cases d : L.length < 12
    · rw [e d, ju_ne _ _ (by omega)]; exact k
    · rw [e2 d]; exact k
  · rw [List.getElem?_append_right (by omega)] at hi
    by_cases c2 : i = L.length
    · subst c2
      rw [Nat.sub_self] at hi
      have hi : some b = some x := hi
      cases hi
      rw [e h12]
      exact ju_self _ _ _
    · rw [List.getElem?_eq_none (by simp; omega)] at hi
      cases hi
theorem gRo_add2 {A B : Nat → Int → Int} {fs : List (Int → Int)} {F G : Int → Int} (h : gRo A fs) (hB : ∀ z, z < (fs.length : Int) * 13 → B 35 z = A 35 z) (hF : ∀ j, 0 ≤ j → j < 13 → B 35 ((fs.length : Int) * 13 + j) = F j) (hG : ∀ j, 0 ≤ j → j < 13 → B 35 (((fs.length : Int) + 1) * 13 + j) = G j) : gRo B (fs ++ [F, G]) := by
  have h1 : gRo B (fs ++ [F]) := gRo_add h hB hF
  have h2 : gRo B ((fs ++ [F]) ++ [G]) := gRo_add h1 (fun _ _ => rfl) (fun j a c => by
    rw [List.length_append]
    have := hG j a c
    rw [show (((fs.length + [F].length : Nat)) : Int) = (fs.length : Int) + 1 by simp]
    exact this)
  rw [List.append_assoc] at h2
  exact h2
/-- what path leaves -/
def phQ (n : Int) (X Y : Int → Int) (rp : QR) (e9 f : Int) (A : Nat → Int → Int) (J : Nat → Int) (B : Nat → Int → Int) : Prop :=
  (∀ c pl, rp = .err c pl → J 5 = c ∧ J 6 = pl ∧ B 45 = A 45) ∧ (∀ q L fs g, rp = .ok q L fs g → (¬ xW n X Y q 6 → J 5 = -8 ∧ J 6 = q ∧ B 45 = A 45) ∧ (xW n X Y q 6 → J 4 = q + 1 ∧ (¬ g → J 5 = -9 ∧ J 6 = q ∧ B 45 = A 45) ∧ (g → 12 < L.length → J 5 = -7 ∧ J 6 = q ∧ B 45 = A 45) ∧ (g → L.length ≤ 12 → J 5 = e9 ∧ (e9 ≠ 0 → J 6 = q ∧ B 45 = A 45) ∧ (e9 = 0 → ptd f (pls (pN fs) L) (A 45) (B 45)))))
section PHS
variable {n : Int} {X Y : Int → Int} {rp : QR} {c pl q e9 f : Int} {L : List Int} {fs : List (Int → Int)} {g : Prop} {J : Nat → Int} {A B : Nat → Int → Int}
theorem ph_e (hr : rp = .err c pl) (h1 : J 5 = c) (h2 : J 6 = pl) (h3 : B 45 = A 45) : phQ n X Y rp e9 f A J B := by
  subst hr
  exact ⟨fun c2 pl2 e => by cases e; exact ⟨h1, h2, h3⟩, fun q L fs g e => by cases e⟩
theorem ph_6 (hr : rp = .ok q L fs g) (hw : ¬ xW n X Y q 6) (h1 : J 5 = -8) (h2 : J 6 = q) (h3 : B 45 = A 45) : phQ n X Y rp e9 f A J B := by
  subst hr
  exact ⟨fun c2 pl2 e => (by cases e), fun q L fs g e => by cases e; exact ⟨fun _ => ⟨h1, h2, h3⟩, fun z => absurd z hw⟩⟩
theorem ph_o (hr : rp = .ok q L fs g) (hw : xW n X Y q 6) (h4 : J 4 = q + 1) (ha : ¬ g → J 5 = -9 ∧ J 6 = q ∧ B 45 = A 45) (hb : g → 12 < L.length → J 5 = -7 ∧ J 6 = q ∧ B 45 = A 45) (hc : g → L.length ≤ 12 → J 5 = e9 ∧ (e9 ≠ 0 → J 6 = q ∧ B 45 = A 45) ∧ (e9 = 0 → ptd f (pls (pN fs) L) (A 45) (B 45))) : phQ n X Y rp e9 f A J B := by
  subst hr
  exact ⟨fun c2 pl2 e => (by cases e), fun q L fs g e => by cases e; exact ⟨fun z => absurd hw z, fun _ => ⟨h4, ha, hb, hc⟩⟩⟩
end PHS
/-- legs in reading -/
def rPl (n : Int) (X Y : Int → Int) (V : Int → Int → Int) (rp : QR) (J : Nat → Int) (B : Nat → Int → Int) : Prop := ∃ (L : List Int) (fs : List (Int → Int)), J 12 = (L.length : Int) ∧ PL n X Y V (J 4) L fs (J 15 = 0) rp ∧ (J 12 ≤ 12 → J 11 = (fs.length : Int) ∧ (J 15 = 0 → gRo B fs)) ∧ gCv B L
def rPc (n : Int) (X Y : Int → Int) (V : Int → Int → Int) (b : Int) (k : Nat) (rp : QR) (J : Nat → Int) (B : Nat → Int → Int) : Prop := ∃ (L : List Int) (fs : List (Int → Int)), J 12 = (L.length : Int) + 1 ∧ PC n X Y V b k (J 4) L fs (J 15 = 0) rp ∧ (J 12 ≤ 12 → J 11 = (fs.length : Int) ∧ (J 15 = 0 → gRo B fs)) ∧ gCv B (L ++ [b])
theorem rPc_end {n : Int} {X Y : Int → Int} {V : Int → Int → Int} {b : Int} {rp : QR} {J : Nat → Int} {B : Nat → Int → Int} (h : rPc n X Y V b 0 rp J B) : rPl n X Y V rp J B := by
  obtain ⟨L, fs, h1, h2, h3, h4⟩ := h
  exact ⟨L ++ [b], fs, by rw [h1, List.length_append]; simp, h2, h3, h4⟩
/-- a pair of a leg -/
theorem rPc_go {n : Int} {X Y : Int → Int} {V : Int → Int → Int} {b p : Int} {k : Nat} {rp : QR} {r : PRs} {L : List Int} {fs : List (Int → Int)} {J J2 : Nat → Int} {B B2 : Nat → Int → Int} {g0 : Prop} (h12 : J 12 = (L.length : Int) + 1) (hrow : J 12 ≤ 12 → J 11 = (fs.length : Int) ∧ (J 15 = 0 → gRo B fs)) (hg0 : J 15 = 0 ↔ g0) (j11 : 0 ≤ J 11 ∧ J 11 ≤ 74) (hPA : PA n X Y V p g0 r) (hpc : ∀ q F1 F2 g2, r = .ok q F1 F2 g2 → PC n X Y V b k q L (fs ++ [F1, F2]) g2 rp) (hq : pQ r J B J2 B2) (e12 : J2 12 = J 12) (hcv : gCv B2 (L ++ [b])) (z : J2 5 = 0) : rPc n X Y V b k rp J2 B2 := by
  obtain ⟨q, F1, F2, g2, hr, h4, hg, h11, hv⟩ := hq.1 z
  have hm := (PA_inr hPA q F1 F2 g2 hr).1
  have hp := hpc q F1 F2 g2 hr
  refine ⟨L, fs ++ [F1, F2], by rw [e12, h12], by rw [h4, propext hg]; exact hp, fun y => ?_, hcv⟩
  rw [e12] at y
  obtain ⟨a, c⟩ := hrow y
  have e11 := h11 (by omega)
  refine ⟨by rw [e11, a, List.length_append]; simp, fun z15 => ?_⟩
  have gg := hg.mp z15
  have v := hv gg
  refine gRo_add2 (c (hg0.mpr (hm gg))) (fun y2 hy => hq.2.2 y2 (by omega) (by omega)) (fun j j0 j1 => ?_) (fun j j0 j1 => ?_)
  · rw [← a]; exact (v j j0 j1).1
  · rw [← a]; exact (v j j0 j1).2
theorem rPl_0 {n : Int} {X Y : Int → Int} {V : Int → Int → Int} {p : Int} {rp : QR} {r : PRs} {J J2 : Nat → Int} {B B2 : Nat → Int → Int} {g0 : Prop} (h12 : J2 12 = 0) (h12a : J 12 = 0) (h11 : J 11 = 0) (hPA : PA n X Y V p g0 r) (hpc : ∀ q F1 F2 g2, r = .ok q F1 F2 g2 → PL n X Y V q [] [F1, F2] g2 rp) (hq : pQ r J B J2 B2) (z : J2 5 = 0) : rPl n X Y V rp J2 B2 := by
  obtain ⟨q, F1, F2, g2, hr, h4, hg, h11b, hv⟩ := hq.1 z
  have hp := hpc q F1 F2 g2 hr
  refine ⟨[], [F1, F2], by rw [h12]; rfl, by rw [h4, propext hg]; exact hp, fun _ => ⟨by rw [h11b (by omega), h11]; rfl, fun z15 => ?_⟩, gCv_0 _⟩
  have v := hv (hg.mp z15)
  rw [h11] at v
  have h1 : gRo B2 [F1] := gRo_1 (fun j j0 j1 => (v j j0 j1).1)
  exact gRo_add h1 (fun _ _ => rfl) (fun j j0 j1 => (v j j0 j1).2)

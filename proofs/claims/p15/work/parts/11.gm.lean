/-! THE REFERENCE's object: sixteen numbers I, thirty arrays A (by the field's number 16 .. 45, at m + 1 .. m + 30) -/
def gmo (m : Nat) (I : Nat → Int) : List Value := (List.range 46).map (fun k => if k < 16 then Value.int (jI (I k)) else Value.ref (m + (k - 15)))
def gmn (k : Nat) : Nat := ([120, 120, 240, 240, 6, 6, 700, 700, 700, 700, 700, 700, 3, 3, 12, 156, 8, 13, 13, 5200, 320, 320, 320, 80, 110, 110, 110, 110, 14, 768] : List Nat).getD (k - 16) 0
def gmk (k : Nat) : Nat := ([0, 0, 0, 0, 0, 0, 0, 0, 0, 0, 0, 0, 0, 0, 0, 1, 1, 1, 1, 1, 0, 0, 1, 1, 1, 1, 1, 1, 0, 2] : List Nat).getD (k - 16) 3
def gmc (k : Nat) (g : Int → Int) : va_E := match gmk k with
  | 0 => jAI (gmn k) g
  | 1 => jAL (gmn k) g
  | _ => jAZ (gmn k) g
def gmf (m : Nat) (f0 : jF) (I : Nat → Int) (A : Nat → Int → Int) : jF := fun q => if q = m then some (jOb 8 (gmo m I)) else if m < q ∧ q ≤ m + 30 then some (gmc (q - m + 15) (A (q - m + 15))) else f0 q
theorem gmo_int (m : Nat) (I : Nat → Int) {k : Nat} (h : k < 16) : (gmo m I)[k]? = some (.int (jI (I k))) := by
  unfold gmo
  rw [List.getElem?_map, List.getElem?_range (by omega)]
  simp [h]
theorem gmo_ref (m : Nat) (I : Nat → Int) {k : Nat} (h : 16 ≤ k) (h2 : k < 46) : (gmo m I)[k]? = some (.ref (m + (k - 15))) := by
  unfold gmo
  rw [List.getElem?_map, List.getElem?_range (by omega)]
  simp [show ¬ k < 16 by omega]
theorem gmo_len (m : Nat) (I : Nat → Int) : (gmo m I).length = 46 := by simp [gmo]
theorem gmo_set (m : Nat) (I : Nat → Int) {k : Nat} (h : k < 16) (v : Int) : (gmo m I).set k (.int (jI v)) = gmo m (va_up I k v) := by
  apply List.ext_getElem?
  intro j
  by_cases hj : j = k
  · subst hj
    rw [List.getElem?_set_self (by rw [gmo_len]; omega), gmo_int _ _ h, va_up_self]
  · rw [List.getElem?_set_ne (Ne.symm hj)]
    by_cases h1 : j < 16
    · rw [gmo_int _ _ h1, gmo_int _ _ h1, va_up_ne _ _ hj]
    · by_cases h2 : j < 46
      · rw [gmo_ref _ _ (by omega) h2, gmo_ref _ _ (by omega) h2]
      · rw [List.getElem?_eq_none (by rw [gmo_len]; omega), List.getElem?_eq_none (by rw [gmo_len]; omega)]
theorem gmf_o (m : Nat) (f0 : jF) (I : Nat → Int) (A : Nat → Int → Int) : gmf m f0 I A m = some (jOb 8 (gmo m I)) := by simp [gmf]
theorem gmf_a (m : Nat) (f0 : jF) (I : Nat → Int) (A : Nat → Int → Int) {k : Nat} (h : 16 ≤ k) (h2 : k < 46) : gmf m f0 I A (m + (k - 15)) = some (gmc k (A k)) := by
  unfold gmf
  rw [if_neg (by omega), if_pos (by omega), show m + (k - 15) - m + 15 = k by omega]
theorem gmf_out (m : Nat) (f0 : jF) (I : Nat → Int) (A : Nat → Int → Int) {q : Nat} (h : q < m ∨ m + 30 < q) : gmf m f0 I A q = f0 q := by
  unfold gmf
  rw [if_neg (by omega), if_neg (by omega)]
theorem gmf_I (m : Nat) (f0 : jF) (I : Nat → Int) (A : Nat → Int → Int) (k : Nat) (v : Int) : va_up (gmf m f0 I A) m (some (jOb 8 (gmo m (va_up I k v)))) = gmf m f0 (va_up I k v) A := by
  funext q
  by_cases hq : q = m
  · subst hq
    rw [va_up_self, gmf_o]
  · rw [va_up_ne _ _ hq]
    unfold gmf
    rw [if_neg hq, if_neg hq]
theorem gmf_A (m : Nat) (f0 : jF) (I : Nat → Int) (A : Nat → Int → Int) {k : Nat} (h : 16 ≤ k) (h2 : k < 46) (g : Int → Int) : va_up (gmf m f0 I A) (m + (k - 15)) (some (gmc k g)) = gmf m f0 I (va_up A k g) := by
  funext q
  by_cases hq : q = m + (k - 15)
  · subst hq
    rw [va_up_self, gmf_a _ _ _ _ h h2, va_up_self]
  · rw [va_up_ne _ _ hq]
    unfold gmf
    by_cases h3 : q = m
    · rw [if_pos h3, if_pos h3]
    · rw [if_neg h3, if_neg h3]
      by_cases h4 : m < q ∧ q ≤ m + 30
      · rw [if_pos h4, if_pos h4, va_up_ne _ _ (by omega)]
      · rw [if_neg h4, if_neg h4]
theorem gmc_0 {k n : Nat} (g : Int → Int) (h : gmk k = 0) (hn : gmn k = n) : gmc k g = jAI n g := by unfold gmc; rw [h, hn]; rfl
theorem gmc_1 {k n : Nat} (g : Int → Int) (h : gmk k = 1) (hn : gmn k = n) : gmc k g = jAL n g := by unfold gmc; rw [h, hn]; rfl
theorem gmc_2 {k n : Nat} (g : Int → Int) (h : gmk k = 2) (hn : gmn k = n) : gmc k g = jAZ n g := by unfold gmc; rw [h, hn]; rfl
section GMR
variable {K : jK} {pc : Nat} {L L' : jLs} {r st : List Value} {f0 : jF} {sz ce sl m : Nat} {I : Nat → Int} {A : Nat → Int → Int}
theorem gm_getI {i k : Nat} (hd : decode (yc (kY K)) pc = .ok (.getfield i, 3)) (hf : jFl (yN (kY K)).cls i 8 k) (hk : k < 16) (kk : jt K (pc + 3) L (.int (jI (I k)) :: st) (gmf m f0 I A) sz ce sl) : jt K pc L (.ref m :: st) (gmf m f0 I A) sz ce sl :=
  jt_getf hd hf (gmf_o m f0 I A) (gmo_int m I hk) kk
theorem gm_getA {i k : Nat} (hd : decode (yc (kY K)) pc = .ok (.getfield i, 3)) (hf : jFl (yN (kY K)).cls i 8 k) (hk : 16 ≤ k) (hk2 : k < 46) (kk : jt K (pc + 3) L (.ref (m + (k - 15)) :: st) (gmf m f0 I A) sz ce sl) : jt K pc L (.ref m :: st) (gmf m f0 I A) sz ce sl :=
  jt_getf hd hf (gmf_o m f0 I A) (gmo_ref m I hk hk2) kk
theorem gm_putI {i k : Nat} {v : Int} {ty : FieldType} (hd : decode (yc (kY K)) pc = .ok (.putfield i, 3)) (hf : jFw (yN (kY K)) i 8 k ty) (hk : k < 16) (hn : narrow ty (.int (jI v)) = .int (jI v)) (hfit : fits ty (.int (jI v)) = true) (kk : jt K (pc + 3) L st (gmf m f0 (va_up I k v) A) sz ce sl) : jt K pc L (.int (jI v) :: .ref m :: st) (gmf m f0 I A) sz ce sl := by
  refine jt_putf hd hf (gmf_o m f0 I A) hn hfit (by rw [gmo_len]; omega) ?_
  rw [gmo_set m I hk, gmf_I]
  exact kk
theorem gm_iald {k n : Nat} {z : Int} (hd : decode (yc (kY K)) pc = .ok (.iaload, 1)) (hk : 16 ≤ k) (hk2 : k < 46) (ht : gmk k = 0) (hn : gmn k = n) (h0 : 0 ≤ z) (h1 : z < n) (hn2 : (n : Int) ≤ 2147483647) (kk : jt K (pc + 1) L (.int (jI (A k z)) :: st) (gmf m f0 I A) sz ce sl) : jt K pc L (.int (jI z) :: .ref (m + (k - 15)) :: st) (gmf m f0 I A) sz ce sl :=
  jt_iaload (n := n) (g := A k) hd (by rw [gmf_a m f0 I A hk hk2, gmc_0 _ ht hn]) h0 h1 hn2 kk
theorem gm_lald {k n : Nat} {z : Int} (hd : decode (yc (kY K)) pc = .ok (.laload, 1)) (hk : 16 ≤ k) (hk2 : k < 46) (ht : gmk k = 1) (hn : gmn k = n) (h0 : 0 ≤ z) (h1 : z < n) (hn2 : (n : Int) ≤ 2147483647) (kk : jt K (pc + 1) L (.long (jL (A k z)) :: st) (gmf m f0 I A) sz ce sl) : jt K pc L (.int (jI z) :: .ref (m + (k - 15)) :: st) (gmf m f0 I A) sz ce sl :=
  jt_laload (n := n) (g := A k) hd (by rw [gmf_a m f0 I A hk hk2, gmc_1 _ ht hn]) h0 h1 hn2 kk
theorem gm_zald {k n : Nat} {z : Int} (hd : decode (yc (kY K)) pc = .ok (.baload, 1)) (hk : 16 ≤ k) (hk2 : k < 46) (ht : gmk k = 2) (hn : gmn k = n) (h0 : 0 ≤ z) (h1 : z < n) (hn2 : (n : Int) ≤ 2147483647) (kk : jt K (pc + 1) L (.int (jI (A k z)) :: st) (gmf m f0 I A) sz ce sl) : jt K pc L (.int (jI z) :: .ref (m + (k - 15)) :: st) (gmf m f0 I A) sz ce sl :=
  jt_zaload (n := n) (g := A k) hd (by rw [gmf_a m f0 I A hk hk2, gmc_2 _ ht hn]) h0 h1 hn2 kk
theorem gm_iast {k n : Nat} {z v : Int} (hd : decode (yc (kY K)) pc = .ok (.iastore, 1)) (hk : 16 ≤ k) (hk2 : k < 46) (ht : gmk k = 0) (hn : gmn k = n) (h0 : 0 ≤ z) (h1 : z < n) (hn2 : (n : Int) ≤ 2147483647) (kk : jt K (pc + 1) L st (gmf m f0 I (va_up A k (ju (A k) z v))) sz ce sl) : jt K pc L (.int (jI v) :: .int (jI z) :: .ref (m + (k - 15)) :: st) (gmf m f0 I A) sz ce sl := by
  refine jt_iastore (n := n) (g := A k) hd (by rw [gmf_a m f0 I A hk hk2, gmc_0 _ ht hn]) h0 h1 hn2 ?_
  rw [← gmc_0 _ ht hn, gmf_A m f0 I A hk hk2]
  exact kk
theorem gm_last {k n : Nat} {z v : Int} (hd : decode (yc (kY K)) pc = .ok (.lastore, 1)) (hk : 16 ≤ k) (hk2 : k < 46) (ht : gmk k = 1) (hn : gmn k = n) (h0 : 0 ≤ z) (h1 : z < n) (hn2 : (n : Int) ≤ 2147483647) (kk : jt K (pc + 1) L st (gmf m f0 I (va_up A k (ju (A k) z v))) sz ce sl) : jt K pc L (.long (jL v) :: .int (jI z) :: .ref (m + (k - 15)) :: st) (gmf m f0 I A) sz ce sl := by
  refine jt_lastore (n := n) (g := A k) hd (by rw [gmf_a m f0 I A hk hk2, gmc_1 _ ht hn]) h0 h1 hn2 ?_
  rw [← gmc_1 _ ht hn, gmf_A m f0 I A hk hk2]
  exact kk
theorem gm_zast {k n : Nat} {z v : Int} (hd : decode (yc (kY K)) pc = .ok (.bastore, 1)) (hk : 16 ≤ k) (hk2 : k < 46) (ht : gmk k = 2) (hn : gmn k = n) (hv : v = 0 ∨ v = 1) (h0 : 0 ≤ z) (h1 : z < n) (hn2 : (n : Int) ≤ 2147483647) (kk : jt K (pc + 1) L st (gmf m f0 I (va_up A k (ju (A k) z v))) sz ce sl) : jt K pc L (.int (jI v) :: .int (jI z) :: .ref (m + (k - 15)) :: st) (gmf m f0 I A) sz ce sl := by
  refine jt_zastore (n := n) (g := A k) hd (by rw [gmf_a m f0 I A hk hk2, gmc_2 _ ht hn]) hv h0 h1 hn2 ?_
  rw [← gmc_2 _ ht hn, gmf_A m f0 I A hk hk2]
  exact kk
theorem gm_nmI (k : ∀ J : Nat → Int, J = I → jt K pc L st (gmf m f0 J A) sz ce sl) : jt K pc L st (gmf m f0 I A) sz ce sl := k I rfl
theorem gm_nmA (k : ∀ B : Nat → Int → Int, B = A → jt K pc L st (gmf m f0 I B) sz ce sl) : jt K pc L st (gmf m f0 I A) sz ce sl := k A rfl
end GMR
/-- a contract of a method of the reference: over its numbers and arrays, with room for d frames below it -/
abbrev gR (d : Nat) : Room := { frames := d, cells := 0, slots := 0, locals := d * 40 }
def gct (G : jG) (Y : jY) (d : Nat) (m : Nat) (av : List Value) (I : Nat → Int) (A : Nat → Int → Int) (Qg : Option Value → (Nat → Int) → (Nat → Int → Int) → Prop) : Prop :=
  ∀ (f0 : jF) (sz : Nat), jct G Y (gR d) (.ref m :: av) (gmf m f0 I A) sz (fun rv f' sz' => ∃ (I' : Nat → Int) (A' : Nat → Int → Int), f' = gmf m f0 I' A' ∧ sz' = sz ∧ Qg rv I' A')
abbrev gQ (m : Nat) (f0 : jF) (sz : Nat) (Qg : Option Value → (Nat → Int) → (Nat → Int → Int) → Prop) : Option Value → jF → Nat → Prop := fun rv f' sz' => ∃ (I' : Nat → Int) (A' : Nat → Int → Int), f' = gmf m f0 I' A' ∧ sz' = sz ∧ Qg rv I' A'
theorem gct_call {G : jG} {Y0 Y : jY} {d n i m pc sz : Nat} {L : jLs} {f0 : jF} {I : Nat → Int} {A : Nat → Int → Int} {As rest st : List Value} {Qp : Option Value → jF → Nat → Prop} {Qg : Option Value → (Nat → Int) → (Nat → Int → Int) → Prop} (hd : decode (yc Y0) pc = .ok (.invokevirtual i, 3)) (hk : jLk (yN Y0).cls i Y) (hy : jYok Y n) (hv : Cond.instanceMethod (yN Y) ∈ jTs ∧ Cond.selects (yN Y).cls (yN Y) (yN Y) ∈ jTs) (hc : (yN Y).cls = "GlyphCompilerModel") (hL : yL Y ≤ 21) (hn : As.length = n) (hst : st = As.reverse ++ .ref m :: rest) (hcat : (rest.map fun v => v.category).sum ≤ 8)
    (hM : gct G Y d m As I A Qg) (kk : ∀ (rv : Option Value) (I' : Nat → Int) (A' : Nat → Int → Int), Qg rv I' A' → jt (jm G Y0 (gR (d + 1)) Qp) (pc + 3) L (rv.toList ++ rest) (gmf m f0 I' A') sz 0 0) : jt (jm G Y0 (gR (d + 1)) Qp) pc L st (gmf m f0 I A) sz 0 0 := by
  refine jt_callV (ci := 8) (rm := gR d) (fs := gmo m I) (T := T_GM) (N := 46) hd hk hy hv (by rw [hc]; rfl) (gmf_o m f0 I A) hn hst hcat (Nat.le_refl _) (by show 8 + (yL Y + 11) + d * 40 ≤ (d + 1) * 40; omega) (Nat.le_refl _) (Nat.le_refl _) (hM f0 sz) ?_
  intro rv f' sz' hq
  obtain ⟨I', A', rfl, rfl, hq⟩ := hq
  exact kk rv I' A' hq

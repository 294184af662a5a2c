/-! the same rules, with the value that is read named -/
theorem gup3 {α : Type} (f : Nat → α) {k j : Nat} (x y z : α) (h : k ≠ j) : va_up (va_up (va_up f k x) j y) k z = va_up (va_up f k z) j y := by
  funext q
  by_cases h1 : q = k
  · subst h1
    rw [va_up_self, va_up_ne _ _ h, va_up_self]
  · rw [va_up_ne _ _ h1]
    by_cases h2 : q = j
    · subst h2
      rw [va_up_self, va_up_self]
    · rw [va_up_ne _ _ h2, va_up_ne _ _ h2, va_up_ne _ _ h1, va_up_ne _ _ h1]
theorem gupc {α : Type} (f : Nat → α) {k j : Nat} (x y : α) (h : k ≠ j) : va_up (va_up f k x) j y = va_up (va_up f j y) k x := by
  funext q
  by_cases h1 : q = k
  · subst h1
    rw [va_up_self, va_up_ne _ _ h, va_up_self]
  · by_cases h2 : q = j
    · subst h2
      rw [va_up_self, va_up_ne _ _ h1, va_up_self]
    · rw [va_up_ne _ _ h2, va_up_ne _ _ h1, va_up_ne _ _ h1, va_up_ne _ _ h2]
theorem gup4 {α : Type} (f : Nat → α) {k j i : Nat} (x y w z : α) (h : k ≠ j) (h2 : k ≠ i) : va_up (va_up (va_up (va_up f k x) j y) i w) k z = va_up (va_up (va_up f k z) j y) i w := by
  rw [gupc _ _ _ (Ne.symm h2), gup3 _ _ _ _ h]
theorem gup5 {α : Type} (f : Nat → α) {k j i l : Nat} (x y w u z : α) (h : k ≠ j) (h2 : k ≠ i) (h3 : k ≠ l) : va_up (va_up (va_up (va_up (va_up f k x) j y) i w) l u) k z = va_up (va_up (va_up (va_up f k z) j y) i w) l u := by
  rw [gupc _ _ _ (Ne.symm h3), gup4 _ _ _ _ _ h h2]
theorem gup_id {α : Type} (f : Nat → α) (k : Nat) : f = va_up f k (f k) := by
  funext q
  by_cases h1 : q = k
  · subst h1
    rw [va_up_self]
  · rw [va_up_ne _ _ h1]
section GMV
variable {K : jK} {pc : Nat} {L L' : jLs} {r st : List Value} {f0 : jF} {sz ce sl m : Nat} {I : Nat → Int} {A : Nat → Int → Int}
theorem gm_gI {i k : Nat} {v : Int} (hd : decode (yc (kY K)) pc = .ok (.getfield i, 3)) (hf : jFl (yN (kY K)).cls i 8 k) (hk : k < 16) (hv : I k = v) (kk : jt K (pc + 3) L (.int (jI v) :: st) (gmf m f0 I A) sz ce sl) : jt K pc L (.ref m :: st) (gmf m f0 I A) sz ce sl :=
  gm_getI hd hf hk (by rw [hv]; exact kk)
theorem gm_gA {i k a : Nat} (hd : decode (yc (kY K)) pc = .ok (.getfield i, 3)) (hf : jFl (yN (kY K)).cls i 8 k) (hk : 16 ≤ k) (hk2 : k < 46) (ha : m + (k - 15) = a) (kk : jt K (pc + 3) L (.ref a :: st) (gmf m f0 I A) sz ce sl) : jt K pc L (.ref m :: st) (gmf m f0 I A) sz ce sl :=
  gm_getA hd hf hk hk2 (by rw [ha]; exact kk)
theorem gm_ld0 {k n a : Nat} {z v : Int} (hd : decode (yc (kY K)) pc = .ok (.iaload, 1)) (ha : m + (k - 15) = a) (hk : 16 ≤ k) (hk2 : k < 46) (ht : gmk k = 0) (hn : gmn k = n) (h0 : 0 ≤ z) (h1 : z < n) (hn2 : (n : Int) ≤ 2147483647) (hv : A k z = v) (kk : jt K (pc + 1) L (.int (jI v) :: st) (gmf m f0 I A) sz ce sl) : jt K pc L (.int (jI z) :: .ref a :: st) (gmf m f0 I A) sz ce sl := by
  subst ha
  exact gm_iald hd hk hk2 ht hn h0 h1 hn2 (by rw [hv]; exact kk)
theorem gm_ld1 {k n a : Nat} {z v : Int} (hd : decode (yc (kY K)) pc = .ok (.laload, 1)) (ha : m + (k - 15) = a) (hk : 16 ≤ k) (hk2 : k < 46) (ht : gmk k = 1) (hn : gmn k = n) (h0 : 0 ≤ z) (h1 : z < n) (hn2 : (n : Int) ≤ 2147483647) (hv : A k z = v) (kk : jt K (pc + 1) L (.long (jL v) :: st) (gmf m f0 I A) sz ce sl) : jt K pc L (.int (jI z) :: .ref a :: st) (gmf m f0 I A) sz ce sl := by
  subst ha
  exact gm_lald hd hk hk2 ht hn h0 h1 hn2 (by rw [hv]; exact kk)
theorem gm_ld2 {k n a : Nat} {z v : Int} (hd : decode (yc (kY K)) pc = .ok (.baload, 1)) (ha : m + (k - 15) = a) (hk : 16 ≤ k) (hk2 : k < 46) (ht : gmk k = 2) (hn : gmn k = n) (h0 : 0 ≤ z) (h1 : z < n) (hn2 : (n : Int) ≤ 2147483647) (hv : A k z = v) (kk : jt K (pc + 1) L (.int (jI v) :: st) (gmf m f0 I A) sz ce sl) : jt K pc L (.int (jI z) :: .ref a :: st) (gmf m f0 I A) sz ce sl := by
  subst ha
  exact gm_zald hd hk hk2 ht hn h0 h1 hn2 (by rw [hv]; exact kk)
theorem gm_st0 {k n a : Nat} {z v : Int} {B : Nat → Int → Int} (hd : decode (yc (kY K)) pc = .ok (.iastore, 1)) (ha : m + (k - 15) = a) (hk : 16 ≤ k) (hk2 : k < 46) (ht : gmk k = 0) (hn : gmn k = n) (h0 : 0 ≤ z) (h1 : z < n) (hn2 : (n : Int) ≤ 2147483647) (hB : va_up A k (ju (A k) z v) = B) (kk : jt K (pc + 1) L st (gmf m f0 I B) sz ce sl) : jt K pc L (.int (jI v) :: .int (jI z) :: .ref a :: st) (gmf m f0 I A) sz ce sl := by
  subst ha
  exact gm_iast hd hk hk2 ht hn h0 h1 hn2 (by rw [hB]; exact kk)
theorem gm_st1 {k n a : Nat} {z v : Int} {B : Nat → Int → Int} (hd : decode (yc (kY K)) pc = .ok (.lastore, 1)) (ha : m + (k - 15) = a) (hk : 16 ≤ k) (hk2 : k < 46) (ht : gmk k = 1) (hn : gmn k = n) (h0 : 0 ≤ z) (h1 : z < n) (hn2 : (n : Int) ≤ 2147483647) (hB : va_up A k (ju (A k) z v) = B) (kk : jt K (pc + 1) L st (gmf m f0 I B) sz ce sl) : jt K pc L (.long (jL v) :: .int (jI z) :: .ref a :: st) (gmf m f0 I A) sz ce sl := by
  subst ha
  exact gm_last hd hk hk2 ht hn h0 h1 hn2 (by rw [hB]; exact kk)
theorem gm_st2 {k n a : Nat} {z v : Int} {B : Nat → Int → Int} (hd : decode (yc (kY K)) pc = .ok (.bastore, 1)) (ha : m + (k - 15) = a) (hk : 16 ≤ k) (hk2 : k < 46) (ht : gmk k = 2) (hn : gmn k = n) (hv : v = 0 ∨ v = 1) (h0 : 0 ≤ z) (h1 : z < n) (hn2 : (n : Int) ≤ 2147483647) (hB : va_up A k (ju (A k) z v) = B) (kk : jt K (pc + 1) L st (gmf m f0 I B) sz ce sl) : jt K pc L (.int (jI v) :: .int (jI z) :: .ref a :: st) (gmf m f0 I A) sz ce sl := by
  subst ha
  exact gm_zast hd hk hk2 ht hn hv h0 h1 hn2 (by rw [hB]; exact kk)
theorem gm_pI {i k : Nat} {v : Int} {J : Nat → Int} {ty : FieldType} (hd : decode (yc (kY K)) pc = .ok (.putfield i, 3)) (hf : jFw (yN (kY K)) i 8 k ty) (hk : k < 16) (hn : narrow ty (.int (jI v)) = .int (jI v)) (hfit : fits ty (.int (jI v)) = true) (hJ : va_up I k v = J) (kk : jt K (pc + 3) L st (gmf m f0 J A) sz ce sl) : jt K pc L (.int (jI v) :: .ref m :: st) (gmf m f0 I A) sz ce sl :=
  gm_putI hd hf hk hn hfit (by rw [hJ]; exact kk)
theorem gm_eA {B : Nat → Int → Int} (h : A = B) (k : jt K pc L st (gmf m f0 I B) sz ce sl) : jt K pc L st (gmf m f0 I A) sz ce sl := by rw [h]; exact k
theorem gm_eI {J : Nat → Int} (h : I = J) (k : jt K pc L st (gmf m f0 J A) sz ce sl) : jt K pc L st (gmf m f0 I A) sz ce sl := by rw [h]; exact k
end GMV
section GME
variable {G : jG} {Y : jY} {d m sz pc : Nat} {f0 : jF} {I : Nat → Int} {A : Nat → Int → Int} {L : jLs} {Qg : Option Value → (Nat → Int) → (Nat → Int → Int) → Prop}
theorem gm_ret {v : Int} {ty : FieldType} (hd : decode (yc Y) pc = .ok (.ireturn, 1)) (hr : yr Y = some ty) (hn : narrow ty (.int (jI v)) = .int (jI v)) (q : Qg (some (.int (jI v))) I A) : jt (jm G Y (gR d) (gQ m f0 sz Qg)) pc L [.int (jI v)] (gmf m f0 I A) sz 0 0 :=
  jt_iret hd hr hn (Nat.le_refl _) (Nat.le_refl _) ⟨I, A, rfl, rfl, q⟩
theorem gm_lret {v : Int} (hd : decode (yc Y) pc = .ok (.lreturn, 1)) (hr : yr Y = some .long) (q : Qg (some (.long (jL v))) I A) : jt (jm G Y (gR d) (gQ m f0 sz Qg)) pc L [.long (jL v)] (gmf m f0 I A) sz 0 0 :=
  jt_lret hd hr (Nat.le_refl _) (Nat.le_refl _) ⟨I, A, rfl, rfl, q⟩
theorem gm_vret (hd : decode (yc Y) pc = .ok (.return_, 1)) (hr : yr Y = none) (q : Qg none I A) : jt (jm G Y (gR d) (gQ m f0 sz Qg)) pc L [] (gmf m f0 I A) sz 0 0 :=
  jt_vret hd hr (Nat.le_refl _) (Nat.le_refl _) ⟨I, A, rfl, rfl, q⟩
theorem gct_of {av : List Value} (hy : plainName (yN Y).cls = true) (hl : (lg_sl (.ref m :: av)).length ≤ yL Y) (k : ∀ (f0 : jF) (sz : Nat), jt (jm G Y (gR d) (gQ m f0 sz Qg)) 0 (lv_args 0 (.ref m :: av)) [] (gmf m f0 I A) sz 0 0) : gct G Y d m av I A Qg :=
  fun f0 sz => jct_of hy hl (k f0 sz)
end GME

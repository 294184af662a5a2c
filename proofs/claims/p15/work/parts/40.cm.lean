/-! THE CLASS's objects: 472 cells from b on; numbers I k j (field j of the object at b + k), arrays A k (the array at b + k) -/
def ck (k : Nat) : Nat :=
  if k = 0 then 0 else if k < 5 then (if k = 1 then 1 else 8) else if k < 14 then (([2, 11, 8, 1, 8, 8, 8, 8, 8] : List Nat).getD (k - 5) 8) else if k < 38 then (if (k - 14) % 4 = 0 then 1 else 8) else
  if k < 45 then (([3, 1, 8, 8, 8, 4, 8] : List Nat).getD (k - 38) 8) else if k = 45 then 12 else if k < 74 then (if k % 2 = 0 then 5 else 9) else if k = 74 then 12 else if k < 375 then (if k % 2 = 1 then 5 else 9) else
  if k = 375 then 10 else if k = 376 then 12 else if k < 395 then (if k % 2 = 1 then 5 else 9) else if k = 395 then 12 else if k < 414 then (if k % 2 = 0 then 5 else 9) else if k = 414 then 12 else if k < 433 then (if k % 2 = 1 then 5 else 9) else
  if k = 433 then 4 else if k = 434 then 8 else if k = 435 then 12 else if k < 464 then (if k % 2 = 0 then 5 else 9) else if k = 464 then 6 else if k < 468 then 8 else if k = 468 then 7 else if k = 469 then 10 else if k = 470 then 8 else 9
def cn (k : Nat) : Nat :=
  if k < 5 then 120 else if k < 8 then 6 else if k < 12 then 300 else if k < 14 then 3 else if k < 38 then 40 else if k < 43 then 300 else if k < 46 then 12 else if k < 74 then 13 else if k = 74 then 150 else if k < 375 then 13 else if k = 375 then 12 else
  if k = 376 then 9 else if k < 395 then 13 else if k = 395 then 9 else if k < 414 then 13 else if k = 414 then 9 else if k < 434 then 13 else if k < 436 then 12 else if k < 464 then 13 else if k < 466 then 74 else if k < 468 then 98 else if k < 470 then 768 else if k = 470 then 32 else 8
def cc (b : Nat) (I : Nat → Nat → Int) (A : Nat → Int → Int) (k : Nat) : va_E := match ck k with
  | 0 => jOb 7 [.ref (b + 1), .ref (b + 5), .ref (b + 38), .ref (b + 433), .ref (b + 464), .ref (b + 468), .ref (b + 471), .int (jI (I k 7)), .int (jI (I k 8)), .int (jI (I k 9))]
  | 1 => jOb 0 [.ref (b + (k + 1)), .ref (b + (k + 2)), .ref (b + (k + 3)), .int (jI (I k 3))]
  | 2 => jOb 1 [.ref (b + 6), .ref (b + 7), .ref (b + 8), .ref (b + 12), .ref (b + 13), .int (jI (I k 5)), .int (jI (I k 6))]
  | 3 => jOb 2 [.ref (b + 39), .ref (b + 43), .int (jI (I k 2)), .int (jI (I k 3)), .int (jI (I k 4)), .ref (b + 74), .int (jI (I k 6)), .int (jI (I k 7)), .ref (b + 375), .int (jI (I k 9)), .ref (b + 376), .ref (b + 395), .ref (b + 414)]
  | 4 => jOb 3 [.ref (b + (k + 1)), .ref (b + (k + 2)), .ref (b + (k + 27)), .ref (b + (k + 29))]
  | 5 => jOb 4 [.ref (b + (k + 1))]
  | 6 => jOb 5 [.ref (b + 465), .ref (b + 466), .ref (b + 467), .int (jI (I k 3))]
  | 7 => jOb 6 [.ref (b + 469), .ref (b + 470)]
  | 8 => jAI (cn k) (A k)
  | 9 => jAL (cn k) (A k)
  | 10 => jAZ (cn k) (A k)
  | 11 => jAR 3 (cn k) (fun z => if 0 ≤ z ∧ z < 6 then some (b + (14 + 4 * z.toNat)) else none)
  | _ => jAR 4 (cn k) (fun z => if 0 ≤ z ∧ z < (cn k : Int) then some (b + (k + 1 + 2 * z.toNat)) else none)
def cmf (b : Nat) (f0 : jF) (I : Nat → Nat → Int) (A : Nat → Int → Int) : jF := fun q => if b ≤ q ∧ q < b + 472 then some (cc b I A (q - b)) else f0 q
def cu (I : Nat → Nat → Int) (k j : Nat) (v : Int) : Nat → Nat → Int := fun p q => if p = k ∧ q = j then v else I p q
theorem cu_s (I : Nat → Nat → Int) (k j : Nat) (v : Int) : cu I k j v k j = v := by unfold cu; rw [if_pos ⟨rfl, rfl⟩]
theorem cu_n (I : Nat → Nat → Int) {k j p q : Nat} (v : Int) (h : ¬ (p = k ∧ q = j)) : cu I k j v p q = I p q := by unfold cu; rw [if_neg h]
theorem cmf_at (b : Nat) (f0 : jF) (I : Nat → Nat → Int) (A : Nat → Int → Int) {k : Nat} (h : k < 472) : cmf b f0 I A (b + k) = some (cc b I A k) := by
  unfold cmf
  rw [if_pos ⟨by omega, by omega⟩, show b + k - b = k by omega]
theorem cmf_out (b : Nat) (f0 : jF) (I : Nat → Nat → Int) (A : Nat → Int → Int) {q : Nat} (h : ¬ (b ≤ q ∧ q < b + 472)) : cmf b f0 I A q = f0 q := by
  unfold cmf
  rw [if_neg h]
/-- one cell is written -/
theorem cmf_w (b : Nat) (f0 : jF) (I J : Nat → Nat → Int) (A B : Nat → Int → Int) {k : Nat} {x : va_E} (h : k < 472) (hx : x = cc b J B k) (ho : ∀ q, q ≠ k → cc b J B q = cc b I A q) : va_up (cmf b f0 I A) (b + k) (some x) = cmf b f0 J B := by
  funext q
  by_cases hq : q = b + k
  · subst hq
    rw [va_up_self, cmf_at _ _ _ _ h, hx]
  · rw [va_up_ne _ _ hq]
    unfold cmf
    by_cases h2 : b ≤ q ∧ q < b + 472
    · rw [if_pos h2, if_pos h2, ho (q - b) (by omega)]
    · rw [if_neg h2, if_neg h2]
theorem cc_I (b : Nat) (I J : Nat → Nat → Int) (A : Nat → Int → Int) (q : Nat) (h : ∀ j, J q j = I q j) : cc b J A q = cc b I A q := by
  unfold cc
  simp only [h]
theorem cc_A (b : Nat) (I : Nat → Nat → Int) (A B : Nat → Int → Int) (q : Nat) (h : B q = A q) : cc b I B q = cc b I A q := by
  unfold cc
  rw [h]
section CMC
variable {b k : Nat} {I : Nat → Nat → Int} {A : Nat → Int → Int}
theorem cc_0 : cc b I A 0 = jOb 7 [.ref (b + 1), .ref (b + 5), .ref (b + 38), .ref (b + 433), .ref (b + 464), .ref (b + 468), .ref (b + 471), .int (jI (I 0 7)), .int (jI (I 0 8)), .int (jI (I 0 9))] := rfl
theorem cc_1 (h : ck k = 1) : cc b I A k = jOb 0 [.ref (b + (k + 1)), .ref (b + (k + 2)), .ref (b + (k + 3)), .int (jI (I k 3))] := by unfold cc; rw [h]; rfl
theorem cc_2 : cc b I A 5 = jOb 1 [.ref (b + 6), .ref (b + 7), .ref (b + 8), .ref (b + 12), .ref (b + 13), .int (jI (I 5 5)), .int (jI (I 5 6))] := rfl
theorem cc_3 : cc b I A 38 = jOb 2 [.ref (b + 39), .ref (b + 43), .int (jI (I 38 2)), .int (jI (I 38 3)), .int (jI (I 38 4)), .ref (b + 74), .int (jI (I 38 6)), .int (jI (I 38 7)), .ref (b + 375), .int (jI (I 38 9)), .ref (b + 376), .ref (b + 395), .ref (b + 414)] := rfl
theorem cc_4 (h : ck k = 4) : cc b I A k = jOb 3 [.ref (b + (k + 1)), .ref (b + (k + 2)), .ref (b + (k + 27)), .ref (b + (k + 29))] := by unfold cc; rw [h]; rfl
theorem cc_5 (h : ck k = 5) : cc b I A k = jOb 4 [.ref (b + (k + 1))] := by unfold cc; rw [h]; rfl
theorem cc_6 : cc b I A 464 = jOb 5 [.ref (b + 465), .ref (b + 466), .ref (b + 467), .int (jI (I 464 3))] := rfl
theorem cc_7 : cc b I A 468 = jOb 6 [.ref (b + 469), .ref (b + 470)] := rfl
theorem cc_8 {n : Nat} (h : ck k = 8) (hn : cn k = n) : cc b I A k = jAI n (A k) := by unfold cc; rw [h, hn]; rfl
theorem cc_9 {n : Nat} (h : ck k = 9) (hn : cn k = n) : cc b I A k = jAL n (A k) := by unfold cc; rw [h, hn]; rfl
theorem cc_10 {n : Nat} (h : ck k = 10) (hn : cn k = n) : cc b I A k = jAZ n (A k) := by unfold cc; rw [h, hn]; rfl
theorem cc_11 : cc b I A 6 = jAR 3 6 (fun z => if 0 ≤ z ∧ z < 6 then some (b + (14 + 4 * z.toNat)) else none) := rfl
theorem cc_12 {n : Nat} (h : ck k = 12) (hn : cn k = n) : cc b I A k = jAR 4 n (fun z => if 0 ≤ z ∧ z < (n : Int) then some (b + (k + 1 + 2 * z.toNat)) else none) := by unfold cc; rw [h, hn]; rfl
end CMC
section CMR
variable {K : jK} {pc : Nat} {L L' : jLs} {r st : List Value} {f0 : jF} {sz ce sl b : Nat} {I : Nat → Nat → Int} {A : Nat → Int → Int}
theorem cm_get {i ci j k : Nat} {fs : List Value} {v : Value} (hd : decode (yc (kY K)) pc = .ok (.getfield i, 3)) (hf : jFl (yN (kY K)).cls i ci j) (hk : k < 472) (hc : cc b I A k = jOb ci fs) (hv : fs[j]? = some v) (kk : jt K (pc + 3) L (v :: st) (cmf b f0 I A) sz ce sl) : jt K pc L (.ref (b + k) :: st) (cmf b f0 I A) sz ce sl :=
  jt_getf hd hf (by rw [cmf_at b f0 I A hk, hc]) hv kk
theorem cm_put {i ci j k : Nat} {fs : List Value} {v : Int} {ty : FieldType} (hd : decode (yc (kY K)) pc = .ok (.putfield i, 3)) (hf : jFw (yN (kY K)) i ci j ty) (hk : k < 472) (hc : cc b I A k = jOb ci fs) (hn : narrow ty (.int (jI v)) = .int (jI v)) (hfit : fits ty (.int (jI v)) = true) (hlen : j < fs.length) (hw : jOb ci (fs.set j (.int (jI v))) = cc b (cu I k j v) A k) (kk : jt K (pc + 3) L st (cmf b f0 (cu I k j v) A) sz ce sl) : jt K pc L (.int (jI v) :: .ref (b + k) :: st) (cmf b f0 I A) sz ce sl := by
  refine jt_putf hd hf (by rw [cmf_at b f0 I A hk, hc]) hn hfit hlen ?_
  rw [cmf_w b f0 I (cu I k j v) A A hk hw (fun q hq => cc_I b I (cu I k j v) A q (fun j2 => cu_n I v (fun e => hq e.1)))]
  exact kk
theorem cm_ld0 {k n : Nat} {z v : Int} (hd : decode (yc (kY K)) pc = .ok (.iaload, 1)) (hk : k < 472) (ht : ck k = 8) (hn : cn k = n) (h0 : 0 ≤ z) (h1 : z < n) (hn2 : (n : Int) ≤ 2147483647) (hv : A k z = v) (kk : jt K (pc + 1) L (.int (jI v) :: st) (cmf b f0 I A) sz ce sl) : jt K pc L (.int (jI z) :: .ref (b + k) :: st) (cmf b f0 I A) sz ce sl :=
  jt_iaload (n := n) (g := A k) hd (by rw [cmf_at b f0 I A hk, cc_8 ht hn]) h0 h1 hn2 (by rw [hv]; exact kk)
theorem cm_ld1 {k n : Nat} {z v : Int} (hd : decode (yc (kY K)) pc = .ok (.laload, 1)) (hk : k < 472) (ht : ck k = 9) (hn : cn k = n) (h0 : 0 ≤ z) (h1 : z < n) (hn2 : (n : Int) ≤ 2147483647) (hv : A k z = v) (kk : jt K (pc + 1) L (.long (jL v) :: st) (cmf b f0 I A) sz ce sl) : jt K pc L (.int (jI z) :: .ref (b + k) :: st) (cmf b f0 I A) sz ce sl :=
  jt_laload (n := n) (g := A k) hd (by rw [cmf_at b f0 I A hk, cc_9 ht hn]) h0 h1 hn2 (by rw [hv]; exact kk)
theorem cm_ld2 {k n : Nat} {z v : Int} (hd : decode (yc (kY K)) pc = .ok (.baload, 1)) (hk : k < 472) (ht : ck k = 10) (hn : cn k = n) (h0 : 0 ≤ z) (h1 : z < n) (hn2 : (n : Int) ≤ 2147483647) (hv : A k z = v) (kk : jt K (pc + 1) L (.int (jI v) :: st) (cmf b f0 I A) sz ce sl) : jt K pc L (.int (jI z) :: .ref (b + k) :: st) (cmf b f0 I A) sz ce sl :=
  jt_zaload (n := n) (g := A k) hd (by rw [cmf_at b f0 I A hk, cc_10 ht hn]) h0 h1 hn2 (by rw [hv]; exact kk)
theorem cm_ldT {z : Int} (hd : decode (yc (kY K)) pc = .ok (.aaload, 1)) (h0 : 0 ≤ z) (h1 : z < 6) (kk : jt K (pc + 1) L (.ref (b + (14 + 4 * z.toNat)) :: st) (cmf b f0 I A) sz ce sl) : jt K pc L (.int (jI z) :: .ref (b + 6) :: st) (cmf b f0 I A) sz ce sl :=
  jt_aaload (n := 6) (t := 3) (g := fun z => if 0 ≤ z ∧ z < 6 then some (b + (14 + 4 * z.toNat)) else none) hd jTy_3 (by rw [cmf_at b f0 I A (by decide), cc_11]) h0 h1 (by decide) (by show va_rf (if 0 ≤ z ∧ z < 6 then some (b + (14 + 4 * z.toNat)) else none) = _; rw [if_pos ⟨h0, h1⟩]; rfl) kk
theorem cm_ldF {k n : Nat} {z : Int} (hd : decode (yc (kY K)) pc = .ok (.aaload, 1)) (hk : k < 472) (ht : ck k = 12) (hn : cn k = n) (h0 : 0 ≤ z) (h1 : z < n) (hn2 : (n : Int) ≤ 2147483647) (kk : jt K (pc + 1) L (.ref (b + (k + 1 + 2 * z.toNat)) :: st) (cmf b f0 I A) sz ce sl) : jt K pc L (.int (jI z) :: .ref (b + k) :: st) (cmf b f0 I A) sz ce sl :=
  jt_aaload (n := n) (t := 4) (g := fun z => if 0 ≤ z ∧ z < (n : Int) then some (b + (k + 1 + 2 * z.toNat)) else none) hd jTy_4 (by rw [cmf_at b f0 I A hk, cc_12 ht hn]) h0 h1 hn2 (by show va_rf (if 0 ≤ z ∧ z < (n : Int) then some (b + (k + 1 + 2 * z.toNat)) else none) = _; rw [if_pos ⟨h0, h1⟩]; rfl) kk
theorem cmf_A (b : Nat) (f0 : jF) (I : Nat → Nat → Int) (A : Nat → Int → Int) {k : Nat} {x : va_E} (g : Int → Int) (h : k < 472) (hx : x = cc b I (va_up A k g) k) : va_up (cmf b f0 I A) (b + k) (some x) = cmf b f0 I (va_up A k g) :=
  cmf_w b f0 I I A (va_up A k g) h hx (fun q hq => cc_A b I A (va_up A k g) q (va_up_ne _ _ hq))
theorem cm_st0 {k n : Nat} {z v : Int} (hd : decode (yc (kY K)) pc = .ok (.iastore, 1)) (hk : k < 472) (ht : ck k = 8) (hn : cn k = n) (h0 : 0 ≤ z) (h1 : z < n) (hn2 : (n : Int) ≤ 2147483647) (kk : jt K (pc + 1) L st (cmf b f0 I (va_up A k (ju (A k) z v))) sz ce sl) : jt K pc L (.int (jI v) :: .int (jI z) :: .ref (b + k) :: st) (cmf b f0 I A) sz ce sl := by
  refine jt_iastore (n := n) (g := A k) hd (by rw [cmf_at b f0 I A hk, cc_8 ht hn]) h0 h1 hn2 ?_
  rw [cmf_A b f0 I A (ju (A k) z v) hk (by rw [cc_8 ht hn, va_up_self])]
  exact kk
theorem cm_st1 {k n : Nat} {z v : Int} (hd : decode (yc (kY K)) pc = .ok (.lastore, 1)) (hk : k < 472) (ht : ck k = 9) (hn : cn k = n) (h0 : 0 ≤ z) (h1 : z < n) (hn2 : (n : Int) ≤ 2147483647) (kk : jt K (pc + 1) L st (cmf b f0 I (va_up A k (ju (A k) z v))) sz ce sl) : jt K pc L (.long (jL v) :: .int (jI z) :: .ref (b + k) :: st) (cmf b f0 I A) sz ce sl := by
  refine jt_lastore (n := n) (g := A k) hd (by rw [cmf_at b f0 I A hk, cc_9 ht hn]) h0 h1 hn2 ?_
  rw [cmf_A b f0 I A (ju (A k) z v) hk (by rw [cc_9 ht hn, va_up_self])]
  exact kk
theorem cm_st2 {k n : Nat} {z v : Int} (hd : decode (yc (kY K)) pc = .ok (.bastore, 1)) (hk : k < 472) (ht : ck k = 10) (hn : cn k = n) (hv : v = 0 ∨ v = 1) (h0 : 0 ≤ z) (h1 : z < n) (hn2 : (n : Int) ≤ 2147483647) (kk : jt K (pc + 1) L st (cmf b f0 I (va_up A k (ju (A k) z v))) sz ce sl) : jt K pc L (.int (jI v) :: .int (jI z) :: .ref (b + k) :: st) (cmf b f0 I A) sz ce sl := by
  refine jt_zastore (n := n) (g := A k) hd (by rw [cmf_at b f0 I A hk, cc_10 ht hn]) hv h0 h1 hn2 ?_
  rw [cmf_A b f0 I A (ju (A k) z v) hk (by rw [cc_10 ht hn, va_up_self])]
  exact kk
theorem cm_len {k n t : Nat} {x : (Nat → Int32) ⊕ (Nat → Int64) ⊕ (Nat → UInt32) ⊕ (Nat → UInt64) ⊕ (Nat → Option Nat)} {ty : FieldType} (hd : decode (yc (kY K)) pc = .ok (.arraylength, 1)) (ht : jTy[t]? = some ty) (hk : k < 472) (hc : cc b I A k = .inl (t, n, x)) (kk : jt K (pc + 1) L (.int (jI (n : Int)) :: st) (cmf b f0 I A) sz ce sl) : jt K pc L (.ref (b + k) :: st) (cmf b f0 I A) sz ce sl :=
  jt_alen hd ht (by rw [cmf_at b f0 I A hk, hc]) kk
/-- arraycopy between two int arrays of the class -/
theorem cm_cpy {i k0 k1 n0 n1 : Nat} {sp dp n : Int} (hd : decode (yc (kY K)) pc = .ok (.invokestatic i, 3)) (hw : Cond.methodLink (yN (kY K)).cls i arraycopyName ∈ jTs ∧ Cond.native arraycopyName ∈ jTs ∧ Cond.static arraycopyName ∈ jTs ∧ Cond.initialized "java/lang/System" ∈ jTs) (hk0 : k0 < 472) (hk1 : k1 < 472) (ht0 : ck k0 = 8) (ht1 : ck k1 = 8) (hn0 : cn k0 = n0) (hn1 : cn k1 = n1) (h1 : 0 ≤ sp) (h2 : 0 ≤ dp) (h3 : 0 ≤ n) (h4 : sp + n ≤ n0) (h5 : dp + n ≤ n1) (hb0 : (n0 : Int) ≤ 2147483647) (hb1 : (n1 : Int) ≤ 2147483647) (hfr : 1 ≤ (kR K).frames) (hlo : (st.map fun v => v.category).sum + (nativeFrameWords "java/lang/System" "arraycopy" 5 + 11) ≤ (kR K).locals)
    (kk : jt K (pc + 3) L st (cmf b f0 I (va_up A k1 (jcp (A k0) (A k1) sp dp n))) sz ce sl) : jt K pc L (.int (jI n) :: .int (jI dp) :: .ref (b + k1) :: .int (jI sp) :: .ref (b + k0) :: st) (cmf b f0 I A) sz ce sl := by
  refine jt_acopyI hd hw (n0 := n0) (n1 := n1) (g0 := A k0) (g1 := A k1) (by rw [cmf_at b f0 I A hk0, cc_8 ht0 hn0]) (by rw [cmf_at b f0 I A hk1, cc_8 ht1 hn1]) h1 h2 h3 h4 h5 hb0 hb1 hfr hlo ?_
  rw [cmf_A b f0 I A (jcp (A k0) (A k1) sp dp n) hk1 (by rw [cc_8 ht1 hn1, va_up_self])]
  exact kk
end CMR
/-- a contract of a method of the class: room for d frames below it; the memory outside the class's cells stays -/
def cct (G : jG) (Y : jY) (d : Nat) (b : Nat) (av : List Value) (I : Nat → Nat → Int) (A : Nat → Int → Int) (Qc : Option Value → (Nat → Nat → Int) → (Nat → Int → Int) → Prop) : Prop :=
  ∀ (f0 : jF) (sz : Nat), jct G Y (gR d) av (cmf b f0 I A) sz (fun rv f' sz' => ∃ (J : Nat → Nat → Int) (B : Nat → Int → Int), f' = cmf b f0 J B ∧ sz' = sz ∧ Qc rv J B)
abbrev cQ (b : Nat) (f0 : jF) (sz : Nat) (Qc : Option Value → (Nat → Nat → Int) → (Nat → Int → Int) → Prop) : Option Value → jF → Nat → Prop := fun rv f' sz' => ∃ (J : Nat → Nat → Int) (B : Nat → Int → Int), f' = cmf b f0 J B ∧ sz' = sz ∧ Qc rv J B
section CME
variable {G : jG} {Y Y0 : jY} {d b sz pc : Nat} {f0 : jF} {I : Nat → Nat → Int} {A : Nat → Int → Int} {L : jLs} {Qc : Option Value → (Nat → Nat → Int) → (Nat → Int → Int) → Prop} {Qp : Option Value → jF → Nat → Prop}
theorem cm_ret {v : Int} {ty : FieldType} (hd : decode (yc Y) pc = .ok (.ireturn, 1)) (hr : yr Y = some ty) (hn : narrow ty (.int (jI v)) = .int (jI v)) (q : Qc (some (.int (jI v))) I A) : jt (jm G Y (gR d) (cQ b f0 sz Qc)) pc L [.int (jI v)] (cmf b f0 I A) sz 0 0 :=
  jt_iret hd hr hn (Nat.le_refl _) (Nat.le_refl _) ⟨I, A, rfl, rfl, q⟩
theorem cm_lret {v : Int} (hd : decode (yc Y) pc = .ok (.lreturn, 1)) (hr : yr Y = some .long) (q : Qc (some (.long (jL v))) I A) : jt (jm G Y (gR d) (cQ b f0 sz Qc)) pc L [.long (jL v)] (cmf b f0 I A) sz 0 0 :=
  jt_lret hd hr (Nat.le_refl _) (Nat.le_refl _) ⟨I, A, rfl, rfl, q⟩
theorem cm_vret (hd : decode (yc Y) pc = .ok (.return_, 1)) (hr : yr Y = none) (q : Qc none I A) : jt (jm G Y (gR d) (cQ b f0 sz Qc)) pc L [] (cmf b f0 I A) sz 0 0 :=
  jt_vret hd hr (Nat.le_refl _) (Nat.le_refl _) ⟨I, A, rfl, rfl, q⟩
theorem cct_of {av : List Value} (hy : plainName (yN Y).cls = true) (hl : (lg_sl av).length ≤ yL Y) (k : ∀ (f0 : jF) (sz : Nat), jt (jm G Y (gR d) (cQ b f0 sz Qc)) 0 (lv_args 0 av) [] (cmf b f0 I A) sz 0 0) : cct G Y d b av I A Qc :=
  fun f0 sz => jct_of hy hl (k f0 sz)
theorem cct_callV {i n ci k N : Nat} {fs As rest st : List Value} {T : u_T} (hd : decode (yc Y0) pc = .ok (.invokevirtual i, 3)) (hk : jLk (yN Y0).cls i Y) (hy : jYok Y n) (hv : Cond.instanceMethod (yN Y) ∈ jTs ∧ Cond.selects (yN Y).cls (yN Y) (yN Y) ∈ jTs) (hc : jCl[ci]? = some ((yN Y).cls, T, N)) (hL : yL Y ≤ 21) (hk2 : k < 472) (hcell : cc b I A k = jOb ci fs) (hn : As.length = n) (hst : st = As.reverse ++ .ref (b + k) :: rest) (hcat : (rest.map fun v => v.category).sum ≤ 8)
    (hM : cct G Y d b (.ref (b + k) :: As) I A Qc) (kk : ∀ (rv : Option Value) (J : Nat → Nat → Int) (B : Nat → Int → Int), Qc rv J B → jt (jm G Y0 (gR (d + 1)) Qp) (pc + 3) L (rv.toList ++ rest) (cmf b f0 J B) sz 0 0) : jt (jm G Y0 (gR (d + 1)) Qp) pc L st (cmf b f0 I A) sz 0 0 := by
  refine jt_callV (ci := ci) (rm := gR d) (fs := fs) (T := T) (N := N) hd hk hy hv hc (by rw [cmf_at b f0 I A hk2, hcell]) hn hst hcat (Nat.le_refl _) (by show 8 + (yL Y + 11) + d * 40 ≤ (d + 1) * 40; omega) (Nat.le_refl _) (Nat.le_refl _) (hM f0 sz) ?_
  intro rv f' sz' hq
  obtain ⟨J, B, rfl, rfl, hq⟩ := hq
  exact kk rv J B hq
theorem cct_callS {i n : Nat} {As rest st : List Value} (hd : decode (yc Y0) pc = .ok (.invokestatic i, 3)) (hk : jLk (yN Y0).cls i Y) (hy : jYok Y n) (hv : Cond.static (yN Y) ∈ jTs) (hL : yL Y ≤ 21) (hn : As.length = n) (hst : st = As.reverse ++ rest) (hcat : (rest.map fun v => v.category).sum ≤ 8)
    (hM : cct G Y d b As I A Qc) (kk : ∀ (rv : Option Value) (J : Nat → Nat → Int) (B : Nat → Int → Int), Qc rv J B → jt (jm G Y0 (gR (d + 1)) Qp) (pc + 3) L (rv.toList ++ rest) (cmf b f0 J B) sz 0 0) : jt (jm G Y0 (gR (d + 1)) Qp) pc L st (cmf b f0 I A) sz 0 0 := by
  refine jt_callS (rm := gR d) hd hk hy hv hn hst hcat (Nat.le_refl _) (by show 8 + (yL Y + 11) + d * 40 ≤ (d + 1) * 40; omega) (Nat.le_refl _) (Nat.le_refl _) (hM f0 sz) ?_
  intro rv f' sz' hq
  obtain ⟨J, B, rfl, rfl, hq⟩ := hq
  exact kk rv J B hq
end CME

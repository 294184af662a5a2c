/-! the heap's instructions -/
def jFl (own : String) (i ci k : Nat) : Prop := ∃ (C : String) (T : u_T) (N : Nat), jCl[ci]? = some (C, T, N) ∧ k < N ∧ (Cond.fieldLink own i (T k).1 (T k).2.1 (T k).2.2.1 ∈ jTs ∨ ∃ host : String, Cond.fieldLinkNest own i (T k).1 (T k).2.1 (T k).2.2.1 host ∈ jNw)
def jFw (y : MethodName) (i ci k : Nat) (ty : FieldType) : Prop := ∃ (C : String) (T : u_T) (N : Nat), jCl[ci]? = some (C, T, N) ∧ k < N ∧ parseFieldDescriptor (T k).2.2.1 = some ty ∧
  (((T k).2.2.2 = false ∧ (Cond.fieldLink y.cls i (T k).1 (T k).2.1 (T k).2.2.1 ∈ jTs ∨ ∃ host : String, Cond.fieldLinkNest y.cls i (T k).1 (T k).2.1 (T k).2.2.1 host ∈ jNw)) ∨
   ((T k).2.2.2 = true ∧ y.name = "<init>" ∧ (T k).1 = y.cls ∧ Cond.fieldLink y.cls i (T k).1 (T k).2.1 (T k).2.2.1 ∈ jTs))
section JH
variable {K : jK} {pc : Nat} {L L' : jLs} {r st : List Value} {f : jF} {sz ce sl a : Nat}
set_option maxHeartbeats 4000000 in
theorem jt_getf {i ci k : Nat} {fs : List Value} {v : Value} (hd : decode (yc (kY K)) pc = .ok (.getfield i, 3)) (hf : jFl (yN (kY K)).cls i ci k) (ha : f a = some (jOb ci fs)) (hv : fs[k]? = some v) (kk : jt K (pc + 3) L (v :: st) f sz ce sl) : jt K pc L (.ref a :: st) f sz ce sl := by
  intro p e s m args below meth c H locs ls C X hs hP hS hl
  obtain ⟨Cn, T, N, hc, hk, hlk⟩ := hf
  have hin := (jCl_ok _ (List.mem_of_getElem? hc)).1
  have w := kk p e s m args below meth c H locs ls C X hs hP hS hl
  have h1 := hP.one ha
  rcases hlk with h | ⟨host, h⟩
  · exact va_get (D := gD (kG K)) (ci := ci) (fs := fs) C.1 C.2.1 C.2.2.2.2.2.1 hin C.2.2.2.2.1 C.2.2.2.2.2.2.2.1.1 h1 0 rfl hc k hk (C.2.2.2.2.2.1 _ h) (fun _ q => q) hv hd w
  · exact va_getN (D := gD (kG K)) (ci := ci) (fs := fs) C.1 C.2.1 C.2.2.2.2.2.1 hin C.2.2.2.2.1 C.2.2.2.2.2.2.2.1.1 h1 0 rfl hc k hk (va_Nw.use rfl (C.2.2.2.2.2.2.2.1.2.1 _ h)) (fun _ q => q) hv hd w
set_option maxHeartbeats 4000000 in
theorem jt_putf {i ci k : Nat} {fs : List Value} {v : Value} {ty : FieldType} (hd : decode (yc (kY K)) pc = .ok (.putfield i, 3)) (hf : jFw (yN (kY K)) i ci k ty) (ha : f a = some (jOb ci fs)) (hn : narrow ty v = v) (hfit : fits ty v = true) (hlen : k < fs.length) (kk : jt K (pc + 3) L st (va_up f a (some (jOb ci (fs.set k v)))) sz ce sl) : jt K pc L (v :: .ref a :: st) f sz ce sl := by
  intro p e s m args below meth c H locs ls C X hs hP hS hl
  obtain ⟨Cn, T, N, hc, hk, hd2, hw⟩ := hf
  obtain ⟨hin, hty, hnm⟩ := jCl_ok _ (List.mem_of_getElem? hc)
  have hK := C.2.2.2.2.2.2.2.1.1
  have hts := C.2.2.2.2.2.1
  have hown := C.2.2.2.2.1
  have hap := va_apart (own := (yN (kY K)).cls) (args := args) hts hin (fun j => (parseFieldDescriptor (T j).2.2.1).getD .int) hty hnm hK hc
  obtain ⟨hb0, rr, h1, cell, q1, q2, q3, q4⟩ := hP a _ ha
  have hr : rr = (Cn, T, N) := Option.some.inj (h1.symm.trans hc)
  subst hr
  obtain ⟨hSl, hfc, kC, hkC, hkind⟩ := hK.1 ci _ hc
  obtain ⟨cf, kf, fi, fd, hi, hsl⟩ := hSl k hk
  have hst := (u_facts hfc hkC (u_lays hts hin hk) hi).1
  have fin : ∀ H' : Heap, H'[a]? = some (cell.setSlot fd.slot v) → H'.size = H.size → (∀ q, q ≠ a → H'[q]? = H[q]?) → W p (gl (kG K)) e (kR K) s m args below meth c H' (locs ++ [⟨a, fd.slot⟩]) ce sl (kZ K below args s) (F0 m (pc + 3) ls st) := by
    intro H' e1 e2 e3
    rw [hsl] at e1 ⊢
    exact kk p e s m args below meth c H' _ ls C X (e2.trans hs) (hP.set hb0 ⟨_, hc, t_OB.to (V := updV (vp_V fs) k v) ⟨_, e1, q2, q3, t_set q4 hap hk v⟩ (fun j _ => vp_updV_set hlen v j)⟩ e3) (hS.put e2 e3 hb0) hl
  have hslot : fd.slot < cell.slots.size := by rw [hsl]; exact k2_hasslot (q4 k hk)
  have hlay := hts _ (hin _ (u_in_lay hk))
  unfold u_lay at hlay
  rcases hw with ⟨hfin, h | ⟨host, h⟩⟩ | ⟨hfin, hini, hdecl, h⟩
  · rw [if_neg (by rw [hfin]; decide)] at hlay
    have h6 := u_store hfc hkC hkind hlay hi hd2 hn hfit
    exact W.putK C.1 C.2.1 (f := fd) ⟨hown, hts _ h, ⟨_, _, _, hi⟩, hst⟩ (by rw [q2]; exact h6) q1 q3 hslot rfl rfl hd fin
  · rw [if_neg (by rw [hfin]; decide)] at hlay
    have h6 := u_store hfc hkC hkind hlay hi hd2 hn hfit
    exact va_WputK C.1 C.2.1 (f := fd) hown (va_Nw.use rfl (C.2.2.2.2.2.2.2.1.2.1 _ h)) hi hst (by rw [q2]; exact h6) q1 q3 hslot rfl rfl hd fin
  · rw [if_pos hfin] at hlay
    have hcf : m.cls = cf := by
      obtain ⟨_, _, c', _, _, _, -, -, hf', -, -, -, hown2, -⟩ := Cond.laysFinal_spec hlay
      have e1 : c' = cf := by have := hi.symm.trans hf'; simp at this; exact this.1.symm
      rw [hdecl] at hown2
      rw [← e1]; exact Option.some.inj (hown.symm.trans hown2)
    have h6 := u_fits hfc hkC hkind (Or.inr hlay) hi hd2 hn hfit
    exact W.putFinK C.1 C.2.1 hown (hts _ h) hi hst hcf (C.2.2.2.2.2.2.2.2.2 hini) (by rw [q2]; exact h6) q1 q3 hslot rfl rfl hd fin
/-- the array classes -/
theorem jArr {U : State} {G : jG} {t : Nat} {ty : FieldType} (h : jE G U) (ht : jTy[t]? = some ty) : ArrOfT U (gA G t) ty ∧ va_RA U (gA G t) ty := h.1.2 t _ (jtys_at G ht)
theorem jt_iaload {n : Nat} {g : Int → Int} {z : Int} (hd : decode (yc (kY K)) pc = .ok (.iaload, 1)) (ha : f a = some (jAI n g)) (h0 : 0 ≤ z) (h1 : z < n) (hn : (n : Int) ≤ 2147483647) (kk : jt K (pc + 1) L (.int (jI (g z)) :: st) f sz ce sl) : jt K pc L (.int (jI z) :: .ref a :: st) f sz ce sl := by
  intro p e s m args below meth c H locs ls C X hs hP hS hl
  have w := kk p e s m args below meth c H locs ls C X hs hP hS hl
  refine va_iald (D := gD (kG K)) C.1 C.2.1 C.2.2.2.2.2.2.2.1.1 (hP.one ha) 0 0 rfl (jtys_at (kG K) jTy_0) (jI_in h0 h1 hn) hd ?_
  rw [jI_nat ⟨by omega, by omega⟩]
  show W _ _ _ _ _ _ _ _ _ _ _ _ _ _ _ (F0 m (pc + 1) ls (.int (jI (g ((z.toNat : Nat) : Int))) :: st))
  rw [show ((z.toNat : Nat) : Int) = z by omega]
  exact w
theorem jt_laload {n : Nat} {g : Int → Int} {z : Int} (hd : decode (yc (kY K)) pc = .ok (.laload, 1)) (ha : f a = some (jAL n g)) (h0 : 0 ≤ z) (h1 : z < n) (hn : (n : Int) ≤ 2147483647) (kk : jt K (pc + 1) L (.long (jL (g z)) :: st) f sz ce sl) : jt K pc L (.int (jI z) :: .ref a :: st) f sz ce sl := by
  intro p e s m args below meth c H locs ls C X hs hP hS hl
  have w := kk p e s m args below meth c H locs ls C X hs hP hS hl
  refine va_lald (D := gD (kG K)) C.1 C.2.1 C.2.2.2.2.2.2.2.1.1 (hP.one ha) 0 1 rfl (jtys_at (kG K) jTy_1) (jI_in h0 h1 hn) hd ?_
  rw [jI_nat ⟨by omega, by omega⟩]
  show W _ _ _ _ _ _ _ _ _ _ _ _ _ _ _ (F0 m (pc + 1) ls (.long (jL (g ((z.toNat : Nat) : Int))) :: st))
  rw [show ((z.toNat : Nat) : Int) = z by omega]
  exact w
theorem jt_zaload {n : Nat} {g : Int → Int} {z : Int} (hd : decode (yc (kY K)) pc = .ok (.baload, 1)) (ha : f a = some (jAZ n g)) (h0 : 0 ≤ z) (h1 : z < n) (hn : (n : Int) ≤ 2147483647) (kk : jt K (pc + 1) L (.int (jI (g z)) :: st) f sz ce sl) : jt K pc L (.int (jI z) :: .ref a :: st) f sz ce sl := by
  intro p e s m args below meth c H locs ls C X hs hP hS hl
  have w := kk p e s m args below meth c H locs ls C X hs hP hS hl
  refine va_zald (D := gD (kG K)) C.1 C.2.1 C.2.2.2.2.2.2.2.1.1 (hP.one ha) 0 2 rfl (jtys_at (kG K) jTy_2) (jI_in h0 h1 hn) hd ?_
  rw [jI_nat ⟨by omega, by omega⟩]
  show W _ _ _ _ _ _ _ _ _ _ _ _ _ _ _ (F0 m (pc + 1) ls (.int (jI (g ((z.toNat : Nat) : Int))) :: st))
  rw [show ((z.toNat : Nat) : Int) = z by omega]
  exact w
theorem jt_aaload {n t : Nat} {Cn : String} {g : Int → Option Nat} {z : Int} {v : Value} (hd : decode (yc (kY K)) pc = .ok (.aaload, 1)) (ht : jTy[t]? = some (.object Cn)) (ha : f a = some (jAR t n g)) (h0 : 0 ≤ z) (h1 : z < n) (hn : (n : Int) ≤ 2147483647) (hv : va_rf (g z) = v) (kk : jt K (pc + 1) L (v :: st) f sz ce sl) : jt K pc L (.int (jI z) :: .ref a :: st) f sz ce sl := by
  intro p e s m args below meth c H locs ls C X hs hP hS hl
  have w := kk p e s m args below meth c H locs ls C X hs hP hS hl
  refine va_aldq (D := gD (kG K)) C.1 C.2.1 C.2.2.2.2.2.2.2.1.1 (hP.one ha) 0 t rfl (jtys_at (kG K) ht) (jI_in h0 h1 hn) hd ?_
  rw [jI_nat ⟨by omega, by omega⟩]
  show W _ _ _ _ _ _ _ _ _ _ _ _ _ _ _ (F0 m (pc + 1) ls (va_rf (g ((z.toNat : Nat) : Int)) :: st))
  rw [show ((z.toNat : Nat) : Int) = z by omega, hv]
  exact w
theorem jt_alen {n t : Nat} {x : (Nat → Int32) ⊕ (Nat → Int64) ⊕ (Nat → UInt32) ⊕ (Nat → UInt64) ⊕ (Nat → Option Nat)} {ty : FieldType} (hd : decode (yc (kY K)) pc = .ok (.arraylength, 1)) (ht : jTy[t]? = some ty) (ha : f a = some (.inl (t, n, x))) (kk : jt K (pc + 1) L (.int (jI (n : Int)) :: st) f sz ce sl) : jt K pc L (.ref a :: st) f sz ce sl := by
  intro p e s m args below meth c H locs ls C X hs hP hS hl
  have w := kk p e s m args below meth c H locs ls C X hs hP hS hl
  exact va_alen (D := gD (kG K)) C.1 C.2.1 C.2.2.2.2.2.2.2.1.1 (hP.one ha) 0 t rfl (jtys_at (kG K) ht) (v := jI (n : Int)) (Int32.toInt_inj.mp (by unfold jI; simp)) hd w
theorem jupd (F : Int → Value) (g : Int → Int) {z : Int} (v : Int) (h0 : 0 ≤ z) (h1 : z ≤ 2147483647) : updV (fun j : Nat => F (g (j : Int))) (jI z).toNatClampNeg (F v) = fun j : Nat => F (ju g z v (j : Int)) := by
  rw [jI_nat ⟨by omega, h1⟩]
  funext j
  by_cases hj : j = z.toNat
  · have e : (j : Int) = z := by omega
    rw [e, ju_self]
    simp [updV, hj]
  · have e : (j : Int) ≠ z := by omega
    rw [ju_ne _ _ e]
    simp [updV, hj]
set_option maxHeartbeats 4000000 in
theorem jt_iastore {n : Nat} {g : Int → Int} {z v : Int} (hd : decode (yc (kY K)) pc = .ok (.iastore, 1)) (ha : f a = some (jAI n g)) (h0 : 0 ≤ z) (h1 : z < n) (hn : (n : Int) ≤ 2147483647) (kk : jt K (pc + 1) L st (va_up f a (some (jAI n (ju g z v)))) sz ce sl) : jt K pc L (.int (jI v) :: .int (jI z) :: .ref a :: st) f sz ce sl := by
  intro p e s m args below meth c H locs ls C X hs hP hS hl
  obtain ⟨hb0, hcell⟩ := hP a _ ha
  have hT := (jArr C.2.2.2.2.2.2.2.1 jTy_0).1 n (fun j => .int (jI (g (j : Int))))
  refine W.iast C.1 C.2.1 (cell := arrV (gA (kG K) 0) n (fun j => .int (jI (g (j : Int))))) hcell hT (fun q => by cases q) (by rw [arrV_size]; exact jI_in h0 h1 hn) rfl rfl hd fun H1 e1 z1 o1 => ?_
  refine kk p e s m args below meth c H1 _ ls C X (z1.trans hs) (hP.set hb0 ?_ o1) (hS.put z1 o1 hb0) hl
  show H1[a]? = some (arrV (gA (kG K) 0) n (fun j => .int (jI (ju g z v (j : Int)))))
  rw [e1, arrV_store, jupd (fun y => .int (jI y)) g v h0 (by omega)]
set_option maxHeartbeats 4000000 in
theorem jt_lastore {n : Nat} {g : Int → Int} {z v : Int} (hd : decode (yc (kY K)) pc = .ok (.lastore, 1)) (ha : f a = some (jAL n g)) (h0 : 0 ≤ z) (h1 : z < n) (hn : (n : Int) ≤ 2147483647) (kk : jt K (pc + 1) L st (va_up f a (some (jAL n (ju g z v)))) sz ce sl) : jt K pc L (.long (jL v) :: .int (jI z) :: .ref a :: st) f sz ce sl := by
  intro p e s m args below meth c H locs ls C X hs hP hS hl
  obtain ⟨hb0, hcell⟩ := hP a _ ha
  have hT := (jArr C.2.2.2.2.2.2.2.1 jTy_1).1 n (fun j => .long (jL (g (j : Int))))
  refine W.last C.1 C.2.1 (cell := arrV (gA (kG K) 1) n (fun j => .long (jL (g (j : Int))))) hcell hT (fun q => by cases q) (by rw [arrV_size]; exact jI_in h0 h1 hn) rfl rfl hd fun H1 e1 z1 o1 => ?_
  refine kk p e s m args below meth c H1 _ ls C X (z1.trans hs) (hP.set hb0 ?_ o1) (hS.put z1 o1 hb0) hl
  show H1[a]? = some (arrV (gA (kG K) 1) n (fun j => .long (jL (ju g z v (j : Int)))))
  rw [e1, arrV_store, jupd (fun y => .long (jL y)) g v h0 (by omega)]
theorem jnz {v : Int} (h : v = 0 ∨ v = 1) : narrow .boolean (.int (jI v)) = .int (jI v) := by
  rcases h with rfl | rfl <;> decide
set_option maxHeartbeats 4000000 in
theorem jt_zastore {n : Nat} {g : Int → Int} {z v : Int} (hd : decode (yc (kY K)) pc = .ok (.bastore, 1)) (ha : f a = some (jAZ n g)) (hv : v = 0 ∨ v = 1) (h0 : 0 ≤ z) (h1 : z < n) (hn : (n : Int) ≤ 2147483647) (kk : jt K (pc + 1) L st (va_up f a (some (jAZ n (ju g z v)))) sz ce sl) : jt K pc L (.int (jI v) :: .int (jI z) :: .ref a :: st) f sz ce sl := by
  intro p e s m args below meth c H locs ls C X hs hP hS hl
  obtain ⟨hb0, hcell⟩ := hP a _ ha
  have hT := (jArr C.2.2.2.2.2.2.2.1 jTy_2).1 n (fun j => .int (jI (g (j : Int))))
  refine W.zast C.1 C.2.1 (cell := arrV (gA (kG K) 2) n (fun j => .int (jI (g (j : Int))))) hcell hT (fun q => by cases q) (by rw [arrV_size]; exact jI_in h0 h1 hn) rfl rfl hd fun H1 e1 z1 o1 => ?_
  refine kk p e s m args below meth c H1 _ ls C X (z1.trans hs) (hP.set hb0 ?_ o1) (hS.put z1 o1 hb0) hl
  show H1[a]? = some (arrV (gA (kG K) 2) n (fun j => .int (jI (ju g z v (j : Int)))))
  rw [e1, jnz hv, arrV_store, jupd (fun y => .int (jI y)) g v h0 (by omega)]
end JH

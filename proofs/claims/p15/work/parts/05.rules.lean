/-! RULES: one for each instruction, of the judgement jt -/
section JR
variable {K : jK} {pc : Nat} {L L' : jLs} {r st : List Value} {f : jF} {sz ce sl : Nat} {a b : Int}
theorem jt_iconst {z : Int} (hd : decode (yc (kY K)) pc = .ok (.iconst z, 1)) (k : jt K (pc + 1) L (.int (jI z) :: st) f sz ce sl) : jt K pc L st f sz ce sl :=
  jt_pu (fun _ _ _ _ _ _ _ _ _ _ _ _ _ _ C _ w => lv_iconst C.1 C.2.1 hd rfl w) k
theorem jt_bipush {z : Int} (hd : decode (yc (kY K)) pc = .ok (.bipush z, 2)) (h : -128 ≤ z ∧ z ≤ 127) (k : jt K (pc + 2) L (.int (jI z) :: st) f sz ce sl) : jt K pc L st f sz ce sl :=
  jt_pu (fun _ _ _ _ _ _ _ _ _ _ _ _ _ _ C _ w => lv_bipush C.1 C.2.1 hd (jI_byte h.1 h.2) w) k
theorem jt_sipush {z : Int} (hd : decode (yc (kY K)) pc = .ok (.sipush z, 3)) (h : -32768 ≤ z ∧ z ≤ 32767) (k : jt K (pc + 3) L (.int (jI z) :: st) f sz ce sl) : jt K pc L st f sz ce sl :=
  jt_pu (fun _ _ _ _ _ _ _ _ _ _ _ _ _ _ C _ w => lv_sipush C.1 C.2.1 hd (jI_short h.1 h.2) w) k
theorem jt_lconst {n : Fin 2} {z : Int} (hd : decode (yc (kY K)) pc = .ok (.lconst n, 1)) (h : Int64.ofNat (n : Nat) = jL z) (k : jt K (pc + 1) L (.long (jL z) :: st) f sz ce sl) : jt K pc L st f sz ce sl :=
  jt_pu (fun _ _ _ _ _ _ _ _ _ _ _ _ _ _ C _ w => lv_lconst C.1 C.2.1 hd h w) k
theorem jt_ldc {i : Nat} {z : Int} (hd : decode (yc (kY K)) pc = .ok (.ldc i, 2)) (h : Jvm.Cond.constant (yN (kY K)).cls i (jI z) ∈ jTs) (k : jt K (pc + 2) L (.int (jI z) :: st) f sz ce sl) : jt K pc L st f sz ce sl :=
  jt_pu (fun _ _ _ _ _ _ _ _ _ _ _ _ _ _ C _ w => lv_ldc C.1 C.2.1 C.2.2.2.2.1 (C.2.2.2.2.2.1 _ h) hd w) k
theorem jt_ldc2 {i : Nat} {z : Int} (hd : decode (yc (kY K)) pc = .ok (.ldc2_w i, 3)) (h : Jvm.Cond.constantLong (yN (kY K)).cls i (jL z) ∈ jTs) (k : jt K (pc + 3) L (.long (jL z) :: st) f sz ce sl) : jt K pc L st f sz ce sl :=
  jt_pu (fun _ _ _ _ _ _ _ _ _ _ _ _ _ _ C _ w => lv_ldc2 C.1 C.2.1 C.2.2.2.2.1 (C.2.2.2.2.2.1 _ h) hd w) k
theorem jl_at {ls : Array Slot} {n i : Nat} {v : Value} (h : lv_has ls n L) (hl : jlk L i = some v) : ls[i]? = some (.val v) := h.2.2 (i, v) (jlk_mem hl)
theorem jt_iload {i : Nat} {x : Int32} (hd : decode (yc (kY K)) pc = .ok (.iload i, 2)) (hl : jlk L i = some (.int x)) (k : jt K (pc + 2) L (.int x :: st) f sz ce sl) : jt K pc L st f sz ce sl :=
  jt_pu (fun _ _ _ _ _ _ _ _ _ _ _ _ _ _ C h w => lv_iload C.1 C.2.1 hd (jl_at h hl) w) k
theorem jt_iload_n {i : Fin 4} {x : Int32} (hd : decode (yc (kY K)) pc = .ok (.iload_n i, 1)) (hl : jlk L (i : Nat) = some (.int x)) (k : jt K (pc + 1) L (.int x :: st) f sz ce sl) : jt K pc L st f sz ce sl :=
  jt_pu (fun _ _ _ _ _ _ _ _ _ _ _ _ _ _ C h w => lv_iload_n C.1 C.2.1 hd rfl (jl_at h hl) w) k
theorem jt_lload {i : Nat} {x : Int64} (hd : decode (yc (kY K)) pc = .ok (.lload i, 2)) (hl : jlk L i = some (.long x)) (k : jt K (pc + 2) L (.long x :: st) f sz ce sl) : jt K pc L st f sz ce sl :=
  jt_pu (fun _ _ _ _ _ _ _ _ _ _ _ _ _ _ C h w => lv_lload C.1 C.2.1 hd (jl_at h hl) w) k
theorem jt_lload_n {i : Fin 4} {x : Int64} (hd : decode (yc (kY K)) pc = .ok (.lload_n i, 1)) (hl : jlk L (i : Nat) = some (.long x)) (k : jt K (pc + 1) L (.long x :: st) f sz ce sl) : jt K pc L st f sz ce sl :=
  jt_pu (fun _ _ _ _ _ _ _ _ _ _ _ _ _ _ C h w => lv_lload_n C.1 C.2.1 hd rfl (jl_at h hl) w) k
theorem jt_aload {i : Nat} {x : Nat} (hd : decode (yc (kY K)) pc = .ok (.aload i, 2)) (hl : jlk L i = some (.ref x)) (k : jt K (pc + 2) L (.ref x :: st) f sz ce sl) : jt K pc L st f sz ce sl :=
  jt_pu (fun _ _ _ _ _ _ _ _ _ _ _ _ _ _ C h w => lv_aload C.1 C.2.1 hd (jl_at h hl) w) k
theorem jt_aload_n {i : Fin 4} {x : Nat} (hd : decode (yc (kY K)) pc = .ok (.aload_n i, 1)) (hl : jlk L (i : Nat) = some (.ref x)) (k : jt K (pc + 1) L (.ref x :: st) f sz ce sl) : jt K pc L st f sz ce sl :=
  jt_pu (fun _ _ _ _ _ _ _ _ _ _ _ _ _ _ C h w => lv_aload_n C.1 C.2.1 hd rfl (jl_at h hl) w) k
theorem jl_s1 {ls : Array Slot} {n i : Nat} {v : Value} (h : lv_has ls n ((i, v) :: L.filter (fun q => !(q.1 == i) && !(q.1 + 1 == i && q.2.category == 2)))) : lv_has ls n (jst1 L i v) := ⟨h.1, h.2.1, fun q hq => h.2.2 q (jst1_mem hq)⟩
theorem jl_s2 {ls : Array Slot} {n i : Nat} {v : Value} (h : lv_has ls n ((i, v) :: L.filter (fun q => !(q.1 == i) && (!(q.1 == i + 1) && !(q.1 + 1 == i && q.2.category == 2))))) : lv_has ls n (jst2 L i v) := ⟨h.1, h.2.1, fun q hq => h.2.2 q (jst2_mem hq)⟩
theorem jt_istore {i : Nat} {x : Int32} (hd : decode (yc (kY K)) pc = .ok (.istore i, 2)) (hn : i < yL (kY K)) (hl : jst1 L i (.int x) = L') (k : jt K (pc + 2) L' st f sz ce sl) : jt K pc L (.int x :: st) f sz ce sl :=
  fun p e s m args below meth c H locs _ C X hs hP hS h => lv_istore C.1 C.2.1 hd h hn rfl (fun ls h2 => k p e s m args below meth c H locs ls C X hs hP hS (hl ▸ jl_s1 h2))
theorem jt_istore_n {i : Fin 4} {x : Int32} (hd : decode (yc (kY K)) pc = .ok (.istore_n i, 1)) (hn : (i : Nat) < yL (kY K)) (hl : jst1 L (i : Nat) (.int x) = L') (k : jt K (pc + 1) L' st f sz ce sl) : jt K pc L (.int x :: st) f sz ce sl :=
  fun p e s m args below meth c H locs _ C X hs hP hS h => lv_istore_n C.1 C.2.1 hd rfl h hn rfl (fun ls h2 => k p e s m args below meth c H locs ls C X hs hP hS (hl ▸ jl_s1 h2))
theorem jt_astore {i : Nat} {x : Nat} (hd : decode (yc (kY K)) pc = .ok (.astore i, 2)) (hn : i < yL (kY K)) (hl : jst1 L i (.ref x) = L') (k : jt K (pc + 2) L' st f sz ce sl) : jt K pc L (.ref x :: st) f sz ce sl :=
  fun p e s m args below meth c H locs _ C X hs hP hS h => lv_astore C.1 C.2.1 hd h hn rfl (fun ls h2 => k p e s m args below meth c H locs ls C X hs hP hS (hl ▸ jl_s1 h2))
theorem jt_astore_n {i : Fin 4} {x : Nat} (hd : decode (yc (kY K)) pc = .ok (.astore_n i, 1)) (hn : (i : Nat) < yL (kY K)) (hl : jst1 L (i : Nat) (.ref x) = L') (k : jt K (pc + 1) L' st f sz ce sl) : jt K pc L (.ref x :: st) f sz ce sl :=
  fun p e s m args below meth c H locs _ C X hs hP hS h => lv_astore_n C.1 C.2.1 hd rfl h hn rfl (fun ls h2 => k p e s m args below meth c H locs ls C X hs hP hS (hl ▸ jl_s1 h2))
theorem jt_lstore {i : Nat} {x : Int64} (hd : decode (yc (kY K)) pc = .ok (.lstore i, 2)) (hn : i + 1 < yL (kY K)) (hl : jst2 L i (.long x) = L') (k : jt K (pc + 2) L' st f sz ce sl) : jt K pc L (.long x :: st) f sz ce sl :=
  fun p e s m args below meth c H locs _ C X hs hP hS h => lv_lstore C.1 C.2.1 hd h hn rfl (fun ls h2 => k p e s m args below meth c H locs ls C X hs hP hS (hl ▸ jl_s2 h2))
theorem jt_lstore_n {i : Fin 4} {x : Int64} (hd : decode (yc (kY K)) pc = .ok (.lstore_n i, 1)) (hn : (i : Nat) + 1 < yL (kY K)) (hl : jst2 L (i : Nat) (.long x) = L') (k : jt K (pc + 1) L' st f sz ce sl) : jt K pc L (.long x :: st) f sz ce sl :=
  fun p e s m args below meth c H locs _ C X hs hP hS h => lv_lstore_n C.1 C.2.1 hd rfl h hn rfl (fun ls h2 => k p e s m args below meth c H locs ls C X hs hP hS (hl ▸ jl_s2 h2))
theorem jt_iinc {i : Nat} {z : Int} (hd : decode (yc (kY K)) pc = .ok (.iinc i z, 3)) (hl : jlk L i = some (.int (jI a))) (hn : i < yL (kY K)) (hl2 : jst1 L i (.int (jI (a + z))) = L') (k : jt K (pc + 3) L' st f sz ce sl) : jt K pc L st f sz ce sl := by
  intro p e s m args below meth c H locs ls C X hs hP hS h
  obtain ⟨j, hj⟩ := List.getElem?_of_mem (jlk_mem hl)
  exact lv_iinc C.1 C.2.1 hd h hj (jI_add a z) hn rfl (fun ls h2 => k p e s m args below meth c H locs ls C X hs hP hS (hl2 ▸ jl_s1 h2))
/-- fewer locals -/
theorem jt_sub (h : ∀ q ∈ L', q ∈ L) (k : jt K pc L' st f sz ce sl) : jt K pc L st f sz ce sl :=
  fun p e s m args below meth c H locs ls C X hs hP hS hl => k p e s m args below meth c H locs ls C X hs hP hS ⟨hl.1, hl.2.1, fun q hq => hl.2.2 q (h q hq)⟩
theorem jt_iadd (hd : decode (yc (kY K)) pc = .ok (.iadd, 1)) (k : jt K (pc + 1) L (.int (jI (a + b)) :: st) f sz ce sl) : jt K pc L (.int (jI b) :: .int (jI a) :: st) f sz ce sl :=
  jt_pu (fun _ _ _ _ _ _ _ _ _ _ _ _ _ _ C _ w => lv_iadd C.1 C.2.1 hd (by rw [jI_add]; exact w)) k
theorem jt_isub (hd : decode (yc (kY K)) pc = .ok (.isub, 1)) (k : jt K (pc + 1) L (.int (jI (a - b)) :: st) f sz ce sl) : jt K pc L (.int (jI b) :: .int (jI a) :: st) f sz ce sl :=
  jt_pu (fun _ _ _ _ _ _ _ _ _ _ _ _ _ _ C _ w => lv_isub C.1 C.2.1 hd (by rw [jI_sub]; exact w)) k
theorem jt_imul (hd : decode (yc (kY K)) pc = .ok (.imul, 1)) (k : jt K (pc + 1) L (.int (jI (a * b)) :: st) f sz ce sl) : jt K pc L (.int (jI b) :: .int (jI a) :: st) f sz ce sl :=
  jt_pu (fun _ _ _ _ _ _ _ _ _ _ _ _ _ _ C _ w => lv_imul C.1 C.2.1 hd (by rw [jI_mul]; exact w)) k
theorem jt_ineg (hd : decode (yc (kY K)) pc = .ok (.ineg, 1)) (k : jt K (pc + 1) L (.int (jI (-a)) :: st) f sz ce sl) : jt K pc L (.int (jI a) :: st) f sz ce sl :=
  jt_pu (fun _ _ _ _ _ _ _ _ _ _ _ _ _ _ C _ w => lv_ineg C.1 C.2.1 hd (by rw [jI_neg]; exact w)) k
theorem jt_ladd (hd : decode (yc (kY K)) pc = .ok (.ladd, 1)) (k : jt K (pc + 1) L (.long (jL (a + b)) :: st) f sz ce sl) : jt K pc L (.long (jL b) :: .long (jL a) :: st) f sz ce sl :=
  jt_pu (fun _ _ _ _ _ _ _ _ _ _ _ _ _ _ C _ w => lv_ladd C.1 C.2.1 hd (by rw [jL_add]; exact w)) k
theorem jt_lsub (hd : decode (yc (kY K)) pc = .ok (.lsub, 1)) (k : jt K (pc + 1) L (.long (jL (a - b)) :: st) f sz ce sl) : jt K pc L (.long (jL b) :: .long (jL a) :: st) f sz ce sl :=
  jt_pu (fun _ _ _ _ _ _ _ _ _ _ _ _ _ _ C _ w => lv_lsub C.1 C.2.1 hd (by rw [jL_sub]; exact w)) k
theorem jt_lmul (hd : decode (yc (kY K)) pc = .ok (.lmul, 1)) (k : jt K (pc + 1) L (.long (jL (a * b)) :: st) f sz ce sl) : jt K pc L (.long (jL b) :: .long (jL a) :: st) f sz ce sl :=
  jt_pu (fun _ _ _ _ _ _ _ _ _ _ _ _ _ _ C _ w => lv_lmul C.1 C.2.1 hd (by rw [jL_mul]; exact w)) k
theorem jt_lneg (hd : decode (yc (kY K)) pc = .ok (.lneg, 1)) (k : jt K (pc + 1) L (.long (jL (-a)) :: st) f sz ce sl) : jt K pc L (.long (jL a) :: st) f sz ce sl :=
  jt_pu (fun _ _ _ _ _ _ _ _ _ _ _ _ _ _ C _ w => lv_lneg C.1 C.2.1 hd (by rw [jL_neg]; exact w)) k
theorem jt_i2l (hd : decode (yc (kY K)) pc = .ok (.i2l, 1)) (h : jRi a) (k : jt K (pc + 1) L (.long (jL a) :: st) f sz ce sl) : jt K pc L (.int (jI a) :: st) f sz ce sl :=
  jt_pu (fun _ _ _ _ _ _ _ _ _ _ _ _ _ _ C _ w => lv_i2l C.1 C.2.1 hd (jI_long h) w) k
theorem jt_l2i (hd : decode (yc (kY K)) pc = .ok (.l2i, 1)) (k : jt K (pc + 1) L (.int (jI a) :: st) f sz ce sl) : jt K pc L (.long (jL a) :: st) f sz ce sl :=
  jt_pu (fun _ _ _ _ _ _ _ _ _ _ _ _ _ _ C _ w => lv_l2i C.1 C.2.1 hd (jL_int a) w) k
theorem jt_dup {v : Value} (hd : decode (yc (kY K)) pc = .ok (.dup, 1)) (h : v.category = 1) (k : jt K (pc + 1) L (v :: v :: st) f sz ce sl) : jt K pc L (v :: st) f sz ce sl :=
  jt_pu (fun _ _ _ _ _ _ _ _ _ _ _ _ _ _ C _ w => lv_dup C.1 C.2.1 hd h w) k
theorem jt_pop {v : Value} (hd : decode (yc (kY K)) pc = .ok (.pop, 1)) (h : v.category = 1) (k : jt K (pc + 1) L st f sz ce sl) : jt K pc L (v :: st) f sz ce sl :=
  jt_pu (fun _ _ _ _ _ _ _ _ _ _ _ _ _ _ C _ w => lv_pop C.1 C.2.1 hd h w) k
theorem jt_dup_x1 {v w : Value} (hd : decode (yc (kY K)) pc = .ok (.dup_x1, 1)) (hv : v.category = 1) (hw : w.category = 1) (k : jt K (pc + 1) L (v :: w :: v :: st) f sz ce sl) : jt K pc L (v :: w :: st) f sz ce sl :=
  jt_pu (fun _ _ _ _ _ _ _ _ _ _ _ _ _ _ C _ q => lv_dup_x1 C.1 C.2.1 hd hv hw q) k
theorem jt_dup_x2 {v w x : Value} (hd : decode (yc (kY K)) pc = .ok (.dup_x2, 1)) (hv : v.category = 1) (hw : w.category = 1) (hx : x.category = 1) (k : jt K (pc + 1) L (v :: w :: x :: v :: st) f sz ce sl) : jt K pc L (v :: w :: x :: st) f sz ce sl :=
  jt_pu (fun _ _ _ _ _ _ _ _ _ _ _ _ _ _ C _ q => lv_dup_x2 C.1 C.2.1 hd hv hw hx q) k
theorem jt_dup2 {v w : Value} (hd : decode (yc (kY K)) pc = .ok (.dup2, 1)) (hv : v.category = 1) (hw : w.category = 1) (k : jt K (pc + 1) L (v :: w :: v :: w :: st) f sz ce sl) : jt K pc L (v :: w :: st) f sz ce sl :=
  jt_pu (fun _ _ _ _ _ _ _ _ _ _ _ _ _ _ C _ q => lv_dup2_11 C.1 C.2.1 hd hv hw q) k
theorem jt_dup2l {v : Value} (hd : decode (yc (kY K)) pc = .ok (.dup2, 1)) (hv : v.category = 2) (k : jt K (pc + 1) L (v :: v :: st) f sz ce sl) : jt K pc L (v :: st) f sz ce sl :=
  jt_pu (fun _ _ _ _ _ _ _ _ _ _ _ _ _ _ C _ q => lv_dup2_2 C.1 C.2.1 hd hv q) k
theorem jt_goto {o : Int} {t : Nat} (hd : decode (yc (kY K)) pc = .ok (.goto o, 3)) (h : (pc : Int) + o = (t : Int)) (k : jt K t L st f sz ce sl) : jt K pc L st f sz ce sl :=
  jt_pu (fun _ _ _ _ _ _ _ _ _ _ _ _ _ _ C _ w => lv_goto C.1 C.2.1 hd h w) k
theorem jt_topi (k : ∀ y : Int, y = a → jt K pc L (.int (jI y) :: st) f sz ce sl) : jt K pc L (.int (jI a) :: st) f sz ce sl := k a rfl
theorem jt_topl (k : ∀ y : Int, y = a → jt K pc L (.long (jL y) :: st) f sz ce sl) : jt K pc L (.long (jL a) :: st) f sz ce sl := k a rfl
theorem jt_mem (k : ∀ g : jF, g = f → jt K pc L st g sz ce sl) : jt K pc L st f sz ce sl := k f rfl
end JR

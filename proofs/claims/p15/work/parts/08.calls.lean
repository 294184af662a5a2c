/-! new cells, calls, ends -/
section JN
variable {K : jK} {pc : Nat} {L L' : jLs} {r st : List Value} {f : jF} {sz ce sl a : Nat}
theorem juR (g : Int → Option Nat) {z : Int} (v : Nat) (h0 : 0 ≤ z) (h1 : z ≤ 2147483647) : updV (fun j : Nat => va_rf (g (j : Int))) (jI z).toNatClampNeg (.ref v) = fun j : Nat => va_rf (ju g z (some v) (j : Int)) := by
  rw [jI_nat ⟨by omega, h1⟩]
  funext j
  by_cases hj : j = z.toNat
  · have e : (j : Int) = z := by omega
    rw [e, ju_self]
    simp [updV, hj, va_rf]
  · have e : (j : Int) ≠ z := by omega
    rw [ju_ne _ _ e]
    simp [updV, hj]
set_option maxHeartbeats 4000000 in
theorem jt_aastore {n t ci v : Nat} {Cn : String} {T : u_T} {N : Nat} {g : Int → Option Nat} {z : Int} {fs : List Value} (hd : decode (yc (kY K)) pc = .ok (.aastore, 1)) (ht : jTy[t]? = some (.object Cn)) (hc : jCl[ci]? = some (Cn, T, N)) (ha : f a = some (jAR t n g)) (hv : f v = some (jOb ci fs)) (h0 : 0 ≤ z) (h1 : z < n) (hn : (n : Int) ≤ 2147483647) (kk : jt K (pc + 1) L st (va_up f a (some (jAR t n (ju g z (some v))))) sz ce sl) : jt K pc L (.ref v :: .int (jI z) :: .ref a :: st) f sz ce sl := by
  intro p e s m args below meth c H locs ls C X hs hP hS hl
  obtain ⟨hb0, hcell⟩ := hP a _ ha
  have hK := C.2.2.2.2.2.2.2.1.1
  obtain ⟨-, r', hr', cellV, g1, g2, g3, -⟩ := hP v _ hv
  have hcls := (hK.1 ci _ hc).2
  obtain ⟨kA, comp, k1, k2, k3, -⟩ := (jArr C.2.2.2.2.2.2.2.1 ht).2
  have hcomp : comp = (gD (kG K)).1 ci := Option.some.inj (k3.symm.trans hcls.1)
  subst hcomp
  obtain ⟨kC, hkC, -⟩ := hcls.2
  have hin := jI_in h0 h1 hn
  have hlt : (jI z).toNatClampNeg < n := Nat.not_le.mp fun q => hin (Or.inr q)
  have hnn : ¬ jI z < 0 := fun q => hin (Or.inl q)
  refine W.aast C.1 C.2.1 (cell := arrV (gA (kG K) t) n (fun j => va_rf (g (j : Int)))) hcell (fun q h => by cases h) (fun h => by cases h) k1 k2 rfl hkC ⟨hnn, by rw [arrV_size]; exact hlt⟩ g1 (fun q h => by rw [g3] at h; cases h) (by rw [g2]; exact hkC) (by rw [g2]; exact va_assign hcls) rfl rfl hd fun H1 e1 z1 o1 => ?_
  refine kk p e s m args below meth c H1 _ ls C X (z1.trans hs) (hP.set hb0 ?_ o1) (hS.put z1 o1 hb0) hl
  show H1[a]? = some (arrV (gA (kG K) t) n (fun j => va_rf (ju g z (some v) (j : Int))))
  rw [e1, arrV_store, juR g v h0 (by omega)]
theorem jsz {G : jG} {s : State} {H : Heap} {locs : List Loc} {n : Nat} (hb : gb G ≤ s.heap.size) (hS : va_S (fun q => gb G ≤ q) s.heap H locs) (hs : H.size = n) : gb G ≤ n := by
  have := hS.1
  omega
theorem jS_new {b n : Nat} {H0 H H1 : Heap} {locs : List Loc} (hS : va_S (fun q => b ≤ q) H0 H locs) (hs : H.size = n) (z1 : H1.size = n + 1) (o1 : ∀ q : Nat, q < n → H1[q]? = H[q]?) : va_S (fun q => b ≤ q) H0 H1 locs :=
  ⟨by have := hS.1; omega, fun q h1 h2 => (o1 q (by have := hS.1; omega)).trans (hS.2.1 q h1 h2), hS.2.2⟩
set_option maxHeartbeats 4000000 in
theorem jt_new {i ci : Nat} {Cn : String} {T : u_T} {N : Nat} {fs : List Value} (hd : decode (yc (kY K)) pc = .ok (.new i, 3)) (hc : jCl[ci]? = some (Cn, T, N)) (hw : Cond.classLink (yN (kY K)).cls i Cn ∈ jTs ∧ Cond.instantiable Cn N ∈ jTs ∧ Cond.initialized Cn ∈ jTs) (hfs : ∀ j, j < N → defaultValue ((parseFieldDescriptor (T j).2.2.1).getD .int) = vp_V fs j) (hce : ce + 1 ≤ (kR K).cells) (hsl : sl + N ≤ (kR K).slots) (kk : jt K (pc + 3) L (.ref sz :: st) (va_up f sz (some (jOb ci fs))) (sz + 1) (ce + 1) (sl + N)) : jt K pc L st f sz ce sl := by
  intro p e s m args below meth c H locs ls C X hs hP hS hl
  have hK := C.2.2.2.2.2.2.2.1.1
  have hts := C.2.2.2.2.2.1
  obtain ⟨hin, hty, -⟩ := jCl_ok _ (List.mem_of_getElem? hc)
  have hKn := hK.1 ci _ hc
  refine W.newcK C.1 C.2.1 C.2.2.2.2.1 (hts _ hw.1) (hts _ hw.2.1) (hts _ hw.2.2) rfl hd hce hsl hKn.2.1 hs fun H1 kC hkC e1 z1 o1 => ?_
  exact kk p e s m args below meth c H1 locs ls C X z1 (hP.new hs (jsz C.2.2.2.2.2.2.2.2.1 hS hs) ⟨_, hc, (u_born _ hts hin hKn hkC e1 hty).to hfs⟩ o1) (jS_new hS hs z1 o1) hl
set_option maxHeartbeats 4000000 in
theorem jt_newarray {at_ : ArrayType} {t : Nat} {ty : FieldType} {z : Int} {n : Nat} {x : (Nat → Int32) ⊕ (Nat → Int64) ⊕ (Nat → UInt32) ⊕ (Nat → UInt64) ⊕ (Nat → Option Nat)} (hd : decode (yc (kY K)) pc = .ok (.newarray at_, 2)) (hty : newarray.typeOf at_ = ty) (ht : jTy[t]? = some ty) (hra : ∀ (U : State) (cA : ClassId), va_RA U cA ty → U.vm.findClass ("[" ++ ty.toString) = some cA) (hw : Cond.arrayClass ty ∈ jTs) (hx : ∀ cA : ClassId, vp_cell cA (n, x) = arrV cA n (fun _ => defaultValue ty)) (hz : z = (n : Int)) (hn : n ≤ 100000) (hb : n * componentBytes ty ≤ 536870912) (hce : ce + 1 ≤ (kR K).cells) (hsl : sl + n ≤ (kR K).slots) (kk : jt K (pc + 2) L (.ref sz :: st) (va_up f sz (some (.inl (t, n, x)))) (sz + 1) (ce + 1) (sl + n)) : jt K pc L (.int (jI z) :: st) f sz ce sl := by
  intro p e s m args below meth c H locs ls C X hs hP hS hl
  have hts := C.2.2.2.2.2.1
  subst hty
  subst hz
  have hri : jRi (n : Int) := ⟨by omega, by omega⟩
  have hn0 : ¬ jI (n : Int) < 0 := by rw [jI_0, jI_lt hri jRi0]; omega
  refine va_newaK C.1 C.2.1 (hts _ hw) rfl hd rfl hn0 (by rw [jI_nat hri]; omega) hb hce hsl hs fun H1 cA e1 z1 o1 hAr hNm => ?_
  have hca : cA = gA (kG K) t := Option.some.inj (hNm.symm.trans (hra s _ (jArr C.2.2.2.2.2.2.2.1 ht).2))
  subst hca
  refine kk p e s m args below meth c H1 locs ls C X z1 (hP.new hs (jsz C.2.2.2.2.2.2.2.2.1 hS hs) ?_ o1) (jS_new hS hs z1 o1) hl
  show H1[sz]? = some (vp_cell (gA (kG K) t) (n, x))
  rw [hx]
  exact e1
theorem jt_newI {z : Int} {n : Nat} (hd : decode (yc (kY K)) pc = .ok (.newarray .int, 2)) (hw : Cond.arrayClass .int ∈ jTs) (hz : z = (n : Int)) (hn : n ≤ 100000) (hce : ce + 1 ≤ (kR K).cells) (hsl : sl + n ≤ (kR K).slots) (kk : jt K (pc + 2) L (.ref sz :: st) (va_up f sz (some (jAI n (fun _ => 0)))) (sz + 1) (ce + 1) (sl + n)) : jt K pc L (.int (jI z) :: st) f sz ce sl :=
  jt_newarray (t := 0) (ty := .int) (n := n) (x := .inl (fun _ => jI 0)) hd rfl jTy_0 (fun U cA h => h) hw (fun cA => rfl) hz hn (by simp [componentBytes]; omega) hce hsl kk
theorem jt_newL {z : Int} {n : Nat} (hd : decode (yc (kY K)) pc = .ok (.newarray .long, 2)) (hw : Cond.arrayClass .long ∈ jTs) (hz : z = (n : Int)) (hn : n ≤ 100000) (hce : ce + 1 ≤ (kR K).cells) (hsl : sl + n ≤ (kR K).slots) (kk : jt K (pc + 2) L (.ref sz :: st) (va_up f sz (some (jAL n (fun _ => 0)))) (sz + 1) (ce + 1) (sl + n)) : jt K pc L (.int (jI z) :: st) f sz ce sl :=
  jt_newarray (t := 1) (ty := .long) (n := n) (x := .inr (.inl (fun _ => jL 0))) hd rfl jTy_1 (fun U cA h => h) hw (fun cA => rfl) hz hn (by simp [componentBytes]; omega) hce hsl kk
theorem jt_newZ {z : Int} {n : Nat} (hd : decode (yc (kY K)) pc = .ok (.newarray .boolean, 2)) (hw : Cond.arrayClass .boolean ∈ jTs) (hz : z = (n : Int)) (hn : n ≤ 100000) (hce : ce + 1 ≤ (kR K).cells) (hsl : sl + n ≤ (kR K).slots) (kk : jt K (pc + 2) L (.ref sz :: st) (va_up f sz (some (jAZ n (fun _ => 0)))) (sz + 1) (ce + 1) (sl + n)) : jt K pc L (.int (jI z) :: st) f sz ce sl :=
  jt_newarray (t := 2) (ty := .boolean) (n := n) (x := .inl (fun _ => jI 0)) hd rfl jTy_2 (fun U cA h => h) hw (fun cA => rfl) hz hn (by simp [componentBytes]; omega) hce hsl kk
set_option maxHeartbeats 4000000 in
theorem jt_anew {i t : Nat} {Cn : String} {z : Int} {n : Nat} (hd : decode (yc (kY K)) pc = .ok (.anewarray i, 3)) (ht : jTy[t]? = some (.object Cn)) (hw : Cond.classLink (yN (kY K)).cls i Cn ∈ jTs) (hao : Cn ∈ jAo) (hz : z = (n : Int)) (hn : n ≤ 100000) (hce : ce + 1 ≤ (kR K).cells) (hsl : sl + n ≤ (kR K).slots) (kk : jt K (pc + 3) L (.ref sz :: st) (va_up f sz (some (jAR t n (fun _ => none)))) (sz + 1) (ce + 1) (sl + n)) : jt K pc L (.int (jI z) :: st) f sz ce sl := by
  intro p e s m args below meth c H locs ls C X hs hP hS hl
  have hts := C.2.2.2.2.2.1
  subst hz
  have hri : jRi (n : Int) := ⟨by omega, by omega⟩
  have hn0 : ¬ jI (n : Int) < 0 := by rw [jI_0, jI_lt hri jRi0]; omega
  have hnn : (jI (n : Int)).toNatClampNeg = n := by rw [jI_nat hri]; omega
  refine W.anew C.1 C.2.1 C.2.2.2.2.1 (hts _ hw) (va_AO.use (C.2.2.2.2.2.2.2.1.2.2 _ hao)) rfl hd rfl hn0 (by rw [hnn]; omega) hce (by rw [hnn]; exact hsl) fun cA kA comp f1 f2 f3 f4 => ?_
  obtain ⟨kA', comp', g1, g2, g3, g4⟩ := (jArr C.2.2.2.2.2.2.2.1 ht).2
  have hca : cA = gA (kG K) t := Option.some.inj (f1.symm.trans g4)
  subst hca
  rw [hnn]
  generalize hH1 : H.push ({ cls := gA (kG K) t, slots := Array.replicate n .null, vm := .none } : Cell) = H1
  have z1 : H1.size = sz + 1 := by rw [← hH1, Array.size_push, hs]
  have e1 : H1[sz]? = some (arrV (gA (kG K) t) n (fun _ => .null)) := by rw [← hH1, ← hs, Array.getElem?_push_size, ← arrV_new]
  have o1 : ∀ q : Nat, q < sz → H1[q]? = H[q]? := fun q hq => by rw [← hH1, Array.getElem?_push, if_neg (by omega)]
  have w := kk p e s m args below meth c H1 locs ls C X z1 (hP.new hs (jsz C.2.2.2.2.2.2.2.2.1 hS hs) (show H1[sz]? = some (vp_cell (gA (kG K) t) (n, .inr (.inr (.inr (.inr (fun _ => none)))))) from e1) o1) (jS_new hS hs z1 o1) hl
  rw [← hs] at w
  exact w
/-- behind a call -/
theorem jt_back {mc ms : Nat} {rest : List Value} {Qp : Option Value → jF → Nat → Prop} {p : Program} {e : Env} {s : State} {m : MethodId} {args av : Array Value} {below : List Frame} {meth : Method} {c : Code} {H : Heap} {locs : List Loc} {ls : Array Slot} (C : jC K p s m args meth c) (X : kX K args s) (hS : va_S (fun q => gb (kG K) ≤ q) s.heap H locs) (hl : lv_has ls (yL (kY K)) L)
    (hr : va_Run p (gl (kG K)) e (kR K) s m args below meth c H locs ce sl mc ms (F0 m pc ls st) rest (jQ (kG K) Qp av) (fun q => gb (kG K) ≤ q)) (kk : ∀ (rv : Option Value) (f' : jF) (sz' : Nat), Qp rv f' sz' → jt K (pc + 3) L (rv.toList ++ rest) f' sz' (ce + mc) (sl + ms)) :
    W p (gl (kG K)) e (kR K) s m args below meth c H locs ce sl (kZ K below args s) (F0 m pc ls st) := by
  intro T hT XX
  obtain ⟨v, st₀, t, T', Lc, h0, X', hL, e1, e2, ⟨rv, f', sz', ho, hq, hz, hP', hF⟩, go⟩ := hr T hT XX
  have ho : v = rv := Outcome.returned.inj ho
  subst ho
  have hS' : va_S (fun q => gb (kG K) ≤ q) s.heap T'.heap (locs ++ Lc) := by
    refine ⟨by rw [e1]; exact Nat.le_trans hS.1 (by have := hF.1; rw [h0] at this; exact this), fun q h1 h2 => ?_, fun q hq2 => ?_⟩
    · rw [e1, hF.2 q (by rw [h0]; exact Nat.lt_of_lt_of_le h1 hS.1) h2, h0]
      exact hS.2.1 q h1 h2
    · rcases List.mem_append.mp hq2 with h | h
      · exact hS.2.2 q h
      · exact hL q h
  obtain ⟨t2, a1, b1⟩ := kk v f' sz' hq p e s m args below meth c T'.heap (locs ++ Lc) ls C X (by rw [e1]; exact hz) (by rw [e1]; exact hP') hS' hl T' rfl X'
  exact ⟨t2, go t2 a1, b1⟩
theorem jblind {G : jG} {av : List Value} {f : jF} {n : Nat} : FrameBlind (va_Pc av (fun U => U.heap.size = n ∧ gb G ≤ n ∧ jP G f U.heap ∧ jE G U)) :=
  fun a U g mk q => ⟨q.1, q.2.1, q.2.2.1, q.2.2.2.1, q.2.2.2.2.calling⟩
theorem jws {args : Array Value} {s : State} {w0 : Cond} (hts : ∀ w ∈ jTs, w.before args s = true) (h0 : w0 ∈ jTs) : ∀ w ∈ w0 :: jTs, ∀ (a' : Array Value) (U : State), s.WarmedH U.vm → w.before a' U = true := by
  refine pay_in hts fun w hw => ?_
  rcases List.mem_cons.mp hw with h | h
  · rw [h]; exact ⟨h0, jTs_good _ h0⟩
  · exact ⟨h, jTs_good _ h⟩
/-- the words of a call: by its link, or by a nest mate's -/
def jLk (own : String) (i : Nat) (Y : jY) : Prop := Cond.methodLink own i (yN Y) ∈ jTs ∨ ∃ host : String, Cond.methodLinkNest own i (yN Y) host ∈ jNw
def jYok (Y : jY) (n : Nat) : Prop := Cond.code (yN Y) (yc Y) (yL Y) (yr Y) ∈ jTs ∧ Cond.initialized (yN Y).cls ∈ jTs ∧ ((yN Y).cls ≠ "java/lang/invoke/MethodHandle" ∧ (yN Y).cls ≠ "java/lang/invoke/VarHandle") ∧ (parseMethodDescriptor (yN Y).desc).map (fun d => d.parameters.length) = some n
theorem jlen {d : String} {n : Nat} (h : (parseMethodDescriptor d).map (fun d => d.parameters.length) = some n) : ∀ sig, parseMethodDescriptor d = some sig → n = sig.parameters.length := by
  intro sig h2
  rw [h2] at h
  exact (Option.some.inj h).symm
set_option maxHeartbeats 4000000 in
theorem jt_callV {i n ci b : Nat} {Y : jY} {fs As rest : List Value} {T : u_T} {N : Nat} {rm : Room} {Qp : Option Value → jF → Nat → Prop} (hd : decode (yc (kY K)) pc = .ok (.invokevirtual i, 3)) (hk : jLk (yN (kY K)).cls i Y) (hy : jYok Y n) (hv : Cond.instanceMethod (yN Y) ∈ jTs ∧ Cond.selects (yN Y).cls (yN Y) (yN Y) ∈ jTs) (hc : jCl[ci]? = some ((yN Y).cls, T, N)) (hb : f b = some (jOb ci fs)) (hn : As.length = n) (hst : st = As.reverse ++ .ref b :: rest) (hcat : (rest.map fun v => v.category).sum ≤ 8)
    (hfr : rm.frames + 1 ≤ (kR K).frames) (hlo : 8 + (yL Y + 11) + rm.locals ≤ (kR K).locals) (hce : ce + rm.cells ≤ (kR K).cells) (hsl : sl + rm.slots ≤ (kR K).slots) (hM : jct (kG K) Y rm (.ref b :: As) f sz Qp) (kk : ∀ (rv : Option Value) (f' : jF) (sz' : Nat), Qp rv f' sz' → jt K (pc + 3) L (rv.toList ++ rest) f' sz' (ce + rm.cells) (sl + rm.slots)) : jt K pc L st f sz ce sl := by
  intro p e s m args below meth c H locs ls C X hs hP hS hl
  have hts := C.2.2.2.2.2.1
  have hE := C.2.2.2.2.2.2.2.1
  have hpre : PreV s H (yN Y).cls b (va_Pc (.ref b :: As) (fun U => U.heap.size = sz ∧ gb (kG K) ≤ sz ∧ jP (kG K) f U.heap ∧ jE (kG K) U)) As :=
    ⟨jblind, va_recv hE.1 (hP.one hb) hc (q0 := 0) rfl, fun U hU hW => ⟨rfl, by rw [hU]; exact hs, jsz C.2.2.2.2.2.2.2.2.1 hS hs, by rw [hU]; exact hP, hE.warm hW⟩⟩
  obtain ⟨hco, hini, hmh, hpar⟩ := hy
  refine jt_back (av := (Value.ref b :: As).toArray) C X hS hl ?_ kk
  rcases hk with h | ⟨host, h⟩
  · exact va_runV (n := n) ⟨C.1, C.2.1, C.2.2.1, C.2.2.2.2.1, hts⟩ hM ⟨⟨rfl, rfl, hfr, hlo, jws hts hco, List.mem_cons_self, hts _ hco, hts _ hini, hmh, jlen hpar, hts _ h⟩, hts _ hv.1, hts _ hv.2⟩ hpre rfl hn hl.1 hst (lv_room hcat) hd ⟨hce, hsl⟩
  · exact va_runVN (n := n) ⟨C.1, C.2.1, C.2.2.1, C.2.2.2.2.1, hts⟩ hM ⟨⟨⟨rfl, rfl, hfr, hlo, jws hts hco, List.mem_cons_self⟩, hts _ hco, hts _ hini, hmh, jlen hpar, va_Nw.use rfl (hE.2.1 _ h)⟩, hts _ hv.1, hts _ hv.2⟩ hpre rfl hn hl.1 hst (lv_room hcat) hd ⟨hce, hsl⟩
set_option maxHeartbeats 4000000 in
theorem jt_callS {i n : Nat} {Y : jY} {As rest : List Value} {rm : Room} {Qp : Option Value → jF → Nat → Prop} (hd : decode (yc (kY K)) pc = .ok (.invokestatic i, 3)) (hk : jLk (yN (kY K)).cls i Y) (hy : jYok Y n) (hv : Cond.static (yN Y) ∈ jTs) (hn : As.length = n) (hst : st = As.reverse ++ rest) (hcat : (rest.map fun v => v.category).sum ≤ 8)
    (hfr : rm.frames + 1 ≤ (kR K).frames) (hlo : 8 + (yL Y + 11) + rm.locals ≤ (kR K).locals) (hce : ce + rm.cells ≤ (kR K).cells) (hsl : sl + rm.slots ≤ (kR K).slots) (hM : jct (kG K) Y rm As f sz Qp) (kk : ∀ (rv : Option Value) (f' : jF) (sz' : Nat), Qp rv f' sz' → jt K (pc + 3) L (rv.toList ++ rest) f' sz' (ce + rm.cells) (sl + rm.slots)) : jt K pc L st f sz ce sl := by
  intro p e s m args below meth c H locs ls C X hs hP hS hl
  have hts := C.2.2.2.2.2.1
  have hE := C.2.2.2.2.2.2.2.1
  have hpre : PreS s H (va_Pc As (fun U => U.heap.size = sz ∧ gb (kG K) ≤ sz ∧ jP (kG K) f U.heap ∧ jE (kG K) U)) As :=
    ⟨jblind, fun U hU hW => ⟨rfl, by rw [hU]; exact hs, jsz C.2.2.2.2.2.2.2.2.1 hS hs, by rw [hU]; exact hP, hE.warm hW⟩⟩
  obtain ⟨hco, hini, hmh, hpar⟩ := hy
  refine jt_back (av := As.toArray) C X hS hl ?_ kk
  rcases hk with h | ⟨host, h⟩
  · exact va_runS (n := n) ⟨C.1, C.2.1, C.2.2.1, C.2.2.2.2.1, hts⟩ hM ⟨⟨rfl, rfl, hfr, hlo, jws hts hco, List.mem_cons_self, hts _ hco, hts _ hini, hmh, jlen hpar, hts _ h⟩, hts _ hv⟩ hpre rfl hn hl.1 hst (lv_room hcat) hd ⟨hce, hsl⟩
  · exact va_runSN (n := n) ⟨C.1, C.2.1, C.2.2.1, C.2.2.2.2.1, hts⟩ hM ⟨⟨⟨rfl, rfl, hfr, hlo, jws hts hco, List.mem_cons_self⟩, hts _ hco, hts _ hini, hmh, jlen hpar, va_Nw.use rfl (hE.2.1 _ h)⟩, hts _ hv, trivial⟩ hpre rfl hn hl.1 hst (lv_room hcat) hd ⟨hce, hsl⟩
set_option maxHeartbeats 4000000 in
theorem jt_callI {i n b : Nat} {Y : jY} {As rest : List Value} {rm : Room} {Qp : Option Value → jF → Nat → Prop} (hd : decode (yc (kY K)) pc = .ok (.invokespecial i, 3)) (hk : jLk (yN (kY K)).cls i Y) (hy : jYok Y n) (hv : Cond.instanceMethod (yN Y) ∈ jTs) (hnm : (yN Y).name = "<init>") (hre : yr Y = none) (hn : As.length = n) (hst : st = As.reverse ++ .ref b :: rest) (hcat : (rest.map fun v => v.category).sum ≤ 8)
    (hfr : rm.frames + 1 ≤ (kR K).frames) (hlo : 8 + (yL Y + 11) + rm.locals ≤ (kR K).locals) (hce : ce + rm.cells ≤ (kR K).cells) (hsl : sl + rm.slots ≤ (kR K).slots) (hM : jct (kG K) Y rm (.ref b :: As) f sz Qp) (kk : ∀ (rv : Option Value) (f' : jF) (sz' : Nat), Qp rv f' sz' → jt K (pc + 3) L (rv.toList ++ rest) f' sz' (ce + rm.cells) (sl + rm.slots)) : jt K pc L st f sz ce sl := by
  intro p e s m args below meth c H locs ls C X hs hP hS hl
  have hts := C.2.2.2.2.2.1
  have hE := C.2.2.2.2.2.2.2.1
  have hpre : PreS s H (va_Pc (.ref b :: As) (fun U => U.heap.size = sz ∧ gb (kG K) ≤ sz ∧ jP (kG K) f U.heap ∧ jE (kG K) U)) (.ref b :: As) :=
    ⟨jblind, fun U hU hW => ⟨rfl, by rw [hU]; exact hs, jsz C.2.2.2.2.2.2.2.2.1 hS hs, by rw [hU]; exact hP, hE.warm hW⟩⟩
  obtain ⟨hco, hini, hmh, hpar⟩ := hy
  unfold jct at hM
  rw [hre] at hM hco
  refine jt_back (av := (Value.ref b :: As).toArray) C X hS hl ?_ kk
  rcases hk with h | ⟨host, h⟩
  · exact va_runI (n := n) ⟨C.1, C.2.1, C.2.2.1, C.2.2.2.2.1, hts⟩ hM ⟨⟨rfl, rfl, hfr, hlo, jws hts hco, List.mem_cons_self, hts _ hco, hts _ hini, hmh, jlen hpar, hts _ h⟩, hnm, hts _ hv⟩ hpre rfl hn hl.1 hst (lv_room hcat) hd ⟨hce, hsl⟩
  · exact va_runIN (n := n) ⟨C.1, C.2.1, C.2.2.1, C.2.2.2.2.1, hts⟩ hM ⟨⟨⟨rfl, rfl, hfr, hlo, jws hts hco, List.mem_cons_self⟩, hts _ hco, hts _ hini, hmh, jlen hpar, va_Nw.use rfl (hE.2.1 _ h)⟩, hnm, hts _ hv⟩ hpre rfl hn hl.1 hst (lv_room hcat) hd ⟨hce, hsl⟩
theorem jt_objInit {i b : Nat} {rest : List Value} (hd : decode (yc (kY K)) pc = .ok (.invokespecial i, 3)) (hw : Cond.methodLink (yN (kY K)).cls i objectInit ∈ jTs ∧ Cond.instanceMethod objectInit ∈ jTs ∧ Cond.code objectInit ⟨#[0xb1]⟩ 1 none ∈ jTs) (hcat : (rest.map fun v => v.category).sum + 12 ≤ (kR K).locals) (hfr : 1 ≤ (kR K).frames) (kk : jt K (pc + 3) L rest f sz ce sl) : jt K pc L (.ref b :: rest) f sz ce sl := by
  intro p e s m args below meth c H locs ls C X hs hP hS hl
  have hts := C.2.2.2.2.2.1
  exact W.objInit C.1 C.2.1 C.2.2.2.2.1 (hts _ hw.1) (hts _ hw.2.1) (hts _ hw.2.2) rfl (by rw [C.2.2.1]; exact hl.1) rfl hd hfr (by show 2 * 0 + _ + 12 ≤ _; omega) (kk p e s m args below meth c H locs ls C X hs hP hS hl)
end JN
section JE
variable {G : jG} {Y : jY} {R : Room} {Qp : Option Value → jF → Nat → Prop} {pc : Nat} {L : jLs} {f : jF} {sz ce sl : Nat}
theorem jend {p : Program} {s : State} {m : MethodId} {args : Array Value} {meth : Method} {c : Code} {H : Heap} {locs : List Loc} {rv : Option Value} (hs : H.size = sz) (hP : jP G f H) (hS : va_S (fun q => gb G ≤ q) s.heap H locs) (q : Qp rv f sz) : ∀ t : State, t.heap = H → s.WarmedH t.vm → jQ G Qp args s (.returned rv) t :=
  fun t ht _ => ⟨rv, f, sz, rfl, q, by rw [ht]; exact hs, by rw [ht]; exact hP, hS.F ht⟩
theorem jt_iret {v : Int} {ty : FieldType} (hd : decode (yc Y) pc = .ok (.ireturn, 1)) (hr : yr Y = some ty) (hn : narrow ty (.int (jI v)) = .int (jI v)) (hce : ce ≤ R.cells) (hsl : sl ≤ R.slots) (q : Qp (some (.int (jI v))) f sz) : jt (jm G Y R Qp) pc L [.int (jI v)] f sz ce sl := by
  intro p e s m args below meth c H locs ls C X hs hP hS hl
  refine W.widen (k := R.cells) (n := R.slots) hce hsl ?_
  exact W.zret C.1 C.2.1 (C.2.2.2.1.trans hr) hn (jend (p := p) (m := m) (meth := meth) (c := c) hs hP hS q) hS.2.2 hd C.2.2.2.2.2.2.1
theorem jt_lret {v : Int} (hd : decode (yc Y) pc = .ok (.lreturn, 1)) (hr : yr Y = some .long) (hce : ce ≤ R.cells) (hsl : sl ≤ R.slots) (q : Qp (some (.long (jL v))) f sz) : jt (jm G Y R Qp) pc L [.long (jL v)] f sz ce sl := by
  intro p e s m args below meth c H locs ls C X hs hP hS hl
  refine W.widen (k := R.cells) (n := R.slots) hce hsl ?_
  exact W.lret C.1 C.2.1 (C.2.2.2.1.trans hr) (jend (p := p) (m := m) (meth := meth) (c := c) hs hP hS q) hS.2.2 hd C.2.2.2.2.2.2.1
theorem jt_vret (hd : decode (yc Y) pc = .ok (.return_, 1)) (hr : yr Y = none) (hce : ce ≤ R.cells) (hsl : sl ≤ R.slots) (q : Qp none f sz) : jt (jm G Y R Qp) pc L [] f sz ce sl := by
  intro p e s m args below meth c H locs ls C X hs hP hS hl
  refine W.widen (k := R.cells) (n := R.slots) hce hsl ?_
  exact W.vret C.1 C.2.1 (C.2.2.2.1.trans hr) (jend (p := p) (m := m) (meth := meth) (c := c) hs hP hS q) hS.2.2 hd C.2.2.2.2.2.2.1
theorem jt_aret {v : Nat} {rt : FieldType} (hd : decode (yc Y) pc = .ok (.areturn, 1)) (hr : yr Y = some rt) (hrt : (∃ n, rt = .object n) ∨ ∃ t, rt = .array t) (hce : ce ≤ R.cells) (hsl : sl ≤ R.slots) (q : Qp (some (.ref v)) f sz) : jt (jm G Y R Qp) pc L [.ref v] f sz ce sl := by
  intro p e s m args below meth c H locs ls C X hs hP hS hl
  refine W.widen (k := R.cells) (n := R.slots) hce hsl ?_
  exact W.aret C.1 C.2.1 (C.2.2.2.1.trans hr) hrt (Or.inr ⟨v, rfl⟩) (jend (p := p) (m := m) (meth := meth) (c := c) hs hP hS q) hS.2.2 hd C.2.2.2.2.2.2.1
end JE

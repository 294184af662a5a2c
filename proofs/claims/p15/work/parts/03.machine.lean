/-! THE MACHINE LAYER: memory is a function from addresses to cells (sz: the heap's size), locals are a list, ints and longs are named by integers; one judgement jt: 'from here the method ends well'. -/
def jI (z : Int) : Int32 := Int32.ofInt z
def jL (z : Int) : Int64 := Int64.ofInt z
abbrev jF : Type := Nat → Option va_E
abbrev jLs : Type := List (Nat × Value)
def jlk {α : Type} : List (Nat × α) → Nat → Option α
  | [], _ => none
  | q :: r, i => bif Nat.beq q.1 i then some q.2 else jlk r i
theorem jlk_mem {α : Type} : ∀ {l : List (Nat × α)} {i : Nat} {x : α}, jlk l i = some x → (i, x) ∈ l
  | [], _, _, h => by cases h
  | q :: r, i, x, h => by
    unfold jlk at h
    cases hq : Nat.beq q.1 i with
    | true =>
      rw [hq] at h
      have e : q.1 = i := Nat.eq_of_beq_eq_true hq
      have h2 : q.2 = x := Option.some.inj h
      subst e; subst h2
      exact List.mem_cons_self
    | false =>
      rw [hq] at h
      exact List.mem_cons_of_mem _ (jlk_mem h)
/-- a value of one slot, of two slots, is stored: in its old place, or behind the others -/
def jst1 (l : jLs) (i : Nat) (v : Value) : jLs :=
  bif l.any (fun q => q.1 == i) then (l.filter (fun q => !(q.1 + 1 == i && q.2.category == 2))).map (fun q => bif q.1 == i then (i, v) else q)
  else (l.filter (fun q => !(q.1 + 1 == i && q.2.category == 2))) ++ [(i, v)]
def jst2 (l : jLs) (i : Nat) (v : Value) : jLs :=
  bif l.any (fun q => q.1 == i) then (l.filter (fun q => !(q.1 == i + 1) && !(q.1 + 1 == i && q.2.category == 2))).map (fun q => bif q.1 == i then (i, v) else q)
  else (l.filter (fun q => !(q.1 == i + 1) && !(q.1 + 1 == i && q.2.category == 2))) ++ [(i, v)]
theorem jst1_mem {l : jLs} {i : Nat} {v : Value} {q : Nat × Value} (h : q ∈ jst1 l i v) : q ∈ (i, v) :: l.filter (fun q => !(q.1 == i) && !(q.1 + 1 == i && q.2.category == 2)) := by
  unfold jst1 at h
  cases hc : l.any (fun q => q.1 == i) with
  | true =>
    rw [hc] at h
    obtain ⟨x, hx, e⟩ := List.mem_map.mp h
    cases hi : x.1 == i with
    | true =>
      rw [hi] at e
      have e : (i, v) = q := e
      rw [← e]
      exact List.mem_cons_self
    | false =>
      rw [hi] at e
      have e : x = q := e
      subst e
      refine List.mem_cons_of_mem _ (List.mem_filter.mpr ⟨(List.mem_filter.mp hx).1, ?_⟩)
      have h2 := (List.mem_filter.mp hx).2
      simp only [hi, Bool.not_false, Bool.true_and]
      exact h2
  | false =>
    rw [hc] at h
    rcases List.mem_append.mp h with h | h
    · have h1 := List.mem_filter.mp h
      refine List.mem_cons_of_mem _ (List.mem_filter.mpr ⟨h1.1, ?_⟩)
      have h3 : (q.1 == i) = false := by
        have := List.any_eq_false.mp hc q h1.1
        simpa using this
      simp only [h3, Bool.not_false, Bool.true_and]
      exact h1.2
    · rw [List.mem_singleton.mp h]
      exact List.mem_cons_self
theorem jst2_mem {l : jLs} {i : Nat} {v : Value} {q : Nat × Value} (h : q ∈ jst2 l i v) : q ∈ (i, v) :: l.filter (fun q => !(q.1 == i) && (!(q.1 == i + 1) && !(q.1 + 1 == i && q.2.category == 2))) := by
  unfold jst2 at h
  cases hc : l.any (fun q => q.1 == i) with
  | true =>
    rw [hc] at h
    obtain ⟨x, hx, e⟩ := List.mem_map.mp h
    cases hi : x.1 == i with
    | true =>
      rw [hi] at e
      have e : (i, v) = q := e
      rw [← e]
      exact List.mem_cons_self
    | false =>
      rw [hi] at e
      have e : x = q := e
      subst e
      refine List.mem_cons_of_mem _ (List.mem_filter.mpr ⟨(List.mem_filter.mp hx).1, ?_⟩)
      have h2 := (List.mem_filter.mp hx).2
      simp only [hi, Bool.not_false, Bool.true_and]
      exact h2
  | false =>
    rw [hc] at h
    rcases List.mem_append.mp h with h | h
    · have h1 := List.mem_filter.mp h
      refine List.mem_cons_of_mem _ (List.mem_filter.mpr ⟨h1.1, ?_⟩)
      have h3 : (q.1 == i) = false := by
        have := List.any_eq_false.mp hc q h1.1
        simpa using this
      simp only [h3, Bool.not_false, Bool.true_and]
      exact h1.2
    · rw [List.mem_singleton.mp h]
      exact List.mem_cons_self
/-- G: the launch, the classes' numbers and slots, the array classes by their places in jTy, the first address that is ours -/
abbrev jG : Type := Launch × va_G × (Nat → ClassId) × Nat
abbrev gl (G : jG) : Launch := G.1
abbrev gD (G : jG) : va_G := G.2.1
abbrev gA (G : jG) : Nat → ClassId := G.2.2.1
abbrev gb (G : jG) : Nat := G.2.2.2
/-- the memory holds in a heap -/
def jcv (A : Nat → ClassId) (x : va_E) : va_E := match x with
  | .inl y => .inl (A y.1, y.2)
  | .inr o => .inr o
def jP (G : jG) (f : jF) (H : Heap) : Prop := ∀ (a : Nat) (x : va_E), f a = some x → gb G ≤ a ∧ va_at (gD G) jCl (a, jcv (gA G) x) H
theorem jP.set {G : jG} {f : jF} {H H1 : Heap} {a : Nat} {x : va_E} (h : jP G f H) (hb : gb G ≤ a) (hx : va_at (gD G) jCl (a, jcv (gA G) x) H1) (oq : ∀ q : Nat, q ≠ a → H1[q]? = H[q]?) : jP G (va_up f a (some x)) H1 := by
  intro q y hy
  by_cases hq : q = a
  · subst hq
    rw [va_up_self] at hy
    cases hy
    exact ⟨hb, hx⟩
  · rw [va_up_ne _ _ hq] at hy
    exact ⟨(h q y hy).1, (h q y hy).2.kept (oq q hq)⟩
theorem jP.new {G : jG} {f : jF} {H H1 : Heap} {n : Nat} {x : va_E} (h : jP G f H) (hn : H.size = n) (hb : gb G ≤ n) (hx : va_at (gD G) jCl (n, jcv (gA G) x) H1) (oq : ∀ q : Nat, q < n → H1[q]? = H[q]?) : jP G (va_up f n (some x)) H1 := by
  intro q y hy
  by_cases hq : q = n
  · subst hq
    rw [va_up_self] at hy
    cases hy
    exact ⟨hb, hx⟩
  · rw [va_up_ne _ _ hq] at hy
    exact ⟨(h q y hy).1, (h q y hy).2.kept (oq q (hn ▸ (h q y hy).2.lt))⟩
theorem jP.one {G : jG} {f : jF} {H : Heap} {a : Nat} {x : va_E} (h : jP G f H) (ha : f a = some x) : va_P (gD G) jCl [(a, jcv (gA G) x)] H := by
  intro k q hk
  have hz : k < 1 := (List.getElem?_eq_some_iff.mp hk).1
  rw [show k = 0 by omega] at hk
  cases hk
  exact (h a x ha).2
def jtys (G : jG) : List (ClassId × FieldType) := (List.range jTy.length).map (fun i => (gA G i, jTy.getD i .int))
theorem jtys_at (G : jG) {t : Nat} {ty : FieldType} (h : jTy[t]? = some ty) : (jtys G)[t]? = some (gA G t, ty) := by
  have hl := (List.getElem?_eq_some_iff.mp h).1
  unfold jtys
  rw [List.getElem?_map, List.getElem?_range hl]
  show some (gA G t, jTy.getD t .int) = _
  rw [List.getD_eq_getElem?_getD, h]
  rfl
def jE (G : jG) (U : State) : Prop := va_K (gD G) jCl (jtys G) U ∧ (∀ w ∈ jNw, va_Nw w U) ∧ ∀ C ∈ jAo, va_AO C U
theorem jE.warm {G : jG} {s U : State} (hW : s.WarmedH U.vm) (h : jE G s) : jE G U := by
  refine ⟨va_K.moved hW.alike h.1, fun w hw => ?_, fun C hC => va_AO.moved hW.alike (h.2.2 C hC)⟩
  have h1 := h.2.1 w hw
  have h2 := jNw_ok w hw
  cases w with
  | fieldLinkNest a i b n d q => exact va_Nw.warmF hW h1
  | methodLinkNest a i x q => exact va_Nw.warmM hW h1
  | _ => exact absurd h2 (by simp [jisNest])
theorem jE.calling {G : jG} {U : State} {g : JFrame} {mk : MethodId} {a : Array Value} (h : jE G U) : jE G (U.calling g mk a) := by
  refine ⟨va_K.moved (u := U) (U := U.calling g mk a) (Vm.Alike.refl U.vm) h.1, fun w hw => ?_, fun C hC => va_AO.moved (u := U) (U := U.calling g mk a) (Vm.Alike.refl U.vm) (h.2.2 C hC)⟩
  have h1 := h.2.1 w hw
  have h2 := jNw_ok w hw
  cases w with
  | fieldLinkNest a i b n d q => exact va_Nw.same rfl (rfl : U.vm = (U.calling g mk _).vm) h1
  | methodLinkNest a i x q => exact va_Nw.same rfl (rfl : U.vm = (U.calling g mk _).vm) h1
  | _ => exact absurd h2 (by simp [jisNest])
/-- Y: a method: its name, code, locals, result -/
abbrev jY : Type := MethodName × ByteArray × Nat × Option FieldType
abbrev yN (Y : jY) : MethodName := Y.1
abbrev yc (Y : jY) : ByteArray := Y.2.1
abbrev yL (Y : jY) : Nat := Y.2.2.1
abbrev yr (Y : jY) : Option FieldType := Y.2.2.2
abbrev jK : Type := jG × jY × Room × (Array Value → State → Prop) × (List Frame → Array Value → State → State → Prop)
abbrev kG (K : jK) : jG := K.1
abbrev kY (K : jK) : jY := K.2.1
abbrev kR (K : jK) : Room := K.2.2.1
abbrev kX (K : jK) : Array Value → State → Prop := K.2.2.2.1
abbrev kZ (K : jK) : List Frame → Array Value → State → State → Prop := K.2.2.2.2
/-- what holds in a method's body all the while -/
def jC (K : jK) (p : Program) (s : State) (m : MethodId) (args : Array Value) (meth : Method) (c : Code) : Prop :=
  p.tables.exec = Jvm.exec ∧ c.code = yc (kY K) ∧ c.maxLocals = yL (kY K) ∧ meth.sig.returnType = yr (kY K) ∧ s.vm.findClass (yN (kY K)).cls = some m.cls ∧ (∀ w ∈ jTs, w.before args s = true) ∧ meth.locks = false ∧ jE (kG K) s ∧ gb (kG K) ≤ s.heap.size ∧ ((yN (kY K)).name = "<init>" → meth.name = "<init>")
def jt (K : jK) (pc : Nat) (L : jLs) (st : List Value) (f : jF) (sz ce sl : Nat) : Prop :=
  ∀ (p : Program) (e : Env) (s : State) (m : MethodId) (args : Array Value) (below : List Frame) (meth : Method) (c : Code) (H : Heap) (locs : List Loc) (ls : Array Slot), jC K p s m args meth c → kX K args s → H.size = sz → jP (kG K) f H → va_S (fun q => gb (kG K) ≤ q) s.heap H locs → lv_has ls (yL (kY K)) L →
    W p (gl (kG K)) e (kR K) s m args below meth c H locs ce sl (kZ K below args s) (F0 m pc ls st)
/-- a step that leaves heap and locals as they are -/
def jS (K : jK) (pc : Nat) (L : jLs) (st : List Value) (pc' : Nat) (st' : List Value) : Prop :=
  ∀ (p : Program) (e : Env) (s : State) (m : MethodId) (args : Array Value) (below : List Frame) (meth : Method) (c : Code) (H : Heap) (locs : List Loc) (ls : Array Slot) (ce sl : Nat) (Q : State → Prop), jC K p s m args meth c → lv_has ls (yL (kY K)) L →
    W p (gl (kG K)) e (kR K) s m args below meth c H locs ce sl Q (F0 m pc' ls st') → W p (gl (kG K)) e (kR K) s m args below meth c H locs ce sl Q (F0 m pc ls st)
theorem jt_pu {K : jK} {pc pc' : Nat} {L : jLs} {st st' : List Value} {f : jF} {sz ce sl : Nat} (h : jS K pc L st pc' st') (k : jt K pc' L st' f sz ce sl) : jt K pc L st f sz ce sl :=
  fun p e s m args below meth c H locs ls C X hs hP hS hl => h p e s m args below meth c H locs ls ce sl _ C hl (k p e s m args below meth c H locs ls C X hs hP hS hl)
/-- the end of a method: its answer, the memory behind it -/
def jQ (G : jG) (Qp : Option Value → jF → Nat → Prop) : Array Value → State → Outcome → State → Prop := fun _ st oc t => ∃ (rv : Option Value) (f : jF) (sz : Nat), oc = .returned rv ∧ Qp rv f sz ∧ t.heap.size = sz ∧ jP G f t.heap ∧ va_F (fun q => gb G ≤ q) st t
def jZ (G : jG) (Qp : Option Value → jF → Nat → Prop) (mc ms : Nat) : List Frame → Array Value → State → State → Prop := fun below args s => MQ below (jQ G Qp) args s mc ms (fun q => gb G ≤ q)
abbrev jm (G : jG) (Y : jY) (R : Room) (Qp : Option Value → jF → Nat → Prop) : jK := (G, Y, R, fun _ _ => True, jZ G Qp R.cells R.slots)
/-- A CONTRACT: with these arguments over this memory the method returns, and Qp holds of its answer and of the memory behind it -/
def jct (G : jG) (Y : jY) (R : Room) (av : List Value) (f : jF) (sz : Nat) (Qp : Option Value → jF → Nat → Prop) : Prop :=
  Met (gl G) (yN Y) (Cond.code (yN Y) (yc Y) (yL Y) (yr Y) :: jTs) R (va_Pc av (fun U => U.heap.size = sz ∧ gb G ≤ sz ∧ jP G f U.heap ∧ jE G U)) (jQ G Qp) R.cells R.slots (fun q => gb G ≤ q)
set_option maxHeartbeats 4000000 in
theorem jct_of {G : jG} {Y : jY} {R : Room} {av : List Value} {f : jF} {sz : Nat} {Qp : Option Value → jF → Nat → Prop} (hy : plainName (yN Y).cls = true) (hl : (lg_sl av).length ≤ yL Y) (k : jt (jm G Y R Qp) 0 (lv_args 0 av) [] f sz 0 0) : jct G Y R av f sz Qp := by
  refine Met.ofW (cc := yc Y) (maxL := yL Y) (ret := yr Y) hy rfl ?_
  intro p e s m args below meth c s₁ B hml hv
  obtain ⟨rfl, hsz, hb, hP, hE⟩ := hv
  have hts := atoms_spec (ws := Cond.code (yN Y) (yc Y) (yL Y) (yr Y) :: jTs) B.pre
  have hn := (name_of_methodNamed B.named B.method).1
  have hv := lv_entry av (n := yL Y) hl
  rw [lg_entry_eq]
  exact k p e s m av.toArray below meth c s.heap [] _ ⟨B.exec, B.bytes, hml, B.returns, findClass_of_methodNamed B.named, fun w hw => hts w (List.mem_cons_of_mem _ hw), B.notSynchronized, hE, by rw [hsz]; exact hb, fun h => hn.trans h⟩ trivial hsz hP va_S.rf hv

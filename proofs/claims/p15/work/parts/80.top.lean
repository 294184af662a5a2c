/-! THE CLAIM OUT OF ONE WALK OF THE LAW'S BODY. Your part is whole_start (and what it stands on); all else here is the same for every law, but numbers. -/
def R_law : String := "GlyphCompilerLaw"
def lw_P (b : Addr) (xs : List Int32) (args : Array Value) (s : State) : Prop := args = #[.ref b] ∧ s.IntsAt b xs ∧ xs.length ≤ 1536 ∧ (Jvm.Cond.and given_1 narrow_1).before args s = true
def lw_Q (_ : Array Value) (s : State) (o : Outcome) (t : State) : Prop := o = .returned (some (.int 1)) ∧ Framed s o t [] 600000 7302250
def lw_Z (below : List Frame) (a : Array Value) (s : State) : State → Prop := fun t => ∃ o, t.status = .running ∧ Ended t below o ∧ lw_Q a s o t
/-- the law's own end, with 1 on the stack, nothing written that was there before, its room as the claim has it -/
theorem lw_ret {p : Program} {l : Launch} {e : Env} {s : State} {m : MethodId} {below : List Frame} {meth : Method} {c : Code} {b : Nat} (hx : p.tables.exec = Jvm.exec) (hb : c.code = code) (hr : meth.sig.returnType = ret) (hlocks : meth.locks = false) {pc : Nat} {H : Heap} {ls : Array Slot} (hdg : decode code pc = .ok (.ireturn, 1)) : W p l e room_1 s m #[Value.ref b] below meth c H [] 600000 7302250 (lw_Z below #[Value.ref b] s) (F0 m pc ls [.int 1]) := by
  intro T hT X
  obtain ⟨fs, hret, hrun, hended, hW, hframe⟩ := X.leave (v := some (.int 1)) (hlocks := hlocks) (fun h => by rw [hr] at h; cases h)
  have hmeth' : T.vm.method? m = some meth := X.method'
  refine ⟨T.setFrames fs, ?_, .returned (some (.int 1)), hrun, hended, rfl, ⟨_, rfl⟩, hW, hframe⟩
  jvm_step X.here [X.here.top, hx, hb, hdg, hmeth', hr, ret, narrow_b1]
  (try refine ⟨rfl, ?_⟩); (try refine ⟨rfl, ?_⟩)
  first | (intro acts; rw [hret _ acts rfl rfl rfl]) | rw [hret _ _ rfl rfl rfl]
  exact Steps.refl _
/-- what holds at the law's entry: the machine, the code, the tables' words (any of lw_tbl by 'hts w (by decide +kernel)'), the script of L ints xs at the cell b, what the Statement gives of the start (any of its parts by flat_of_before) -/
def lw_At (p : Program) (s : State) (m : MethodId) (meth : Method) (c : Code) (b L : Nat) (xs : Nat → Int32) : Prop :=
  p.tables.exec = Jvm.exec ∧ c.code = code ∧ meth.sig.returnType = ret ∧ c.maxLocals = 4 ∧ s.vm.findClass R_law = some m.cls ∧ (∀ w ∈ lw_tbl, w.before #[Value.ref b] s = true) ∧ va_X b L xs s s.heap ∧ b < s.heap.size ∧ meth.locks = false ∧ (Jvm.Cond.and given_1 narrow_1).before #[Value.ref b] s = true

def lY : jY := (x, code, 4, ret)
def lX (G : jG) (b L : Nat) (xs : Nat → Int32) : Array Value → State → Prop := fun args s => args = #[Value.ref b] ∧ va_X b L xs s s.heap ∧ b < s.heap.size ∧ gb G = s.heap.size
abbrev lK (G : jG) (b L : Nat) (xs : Nat → Int32) : jK := (G, lY, room_1, lX G b L xs, lw_Z)
theorem jar_prim {s : State} {args : Array Value} {ty : FieldType} (h : (Cond.arrayClass ty).before args s = true) (hr : ∀ (U : State) (cA : ClassId), U.vm.findClass ("[" ++ ty.toString) = some cA → va_RA U cA ty) : ∃ cA : ClassId, ArrOfT s cA ty ∧ va_RA s cA ty := by
  obtain ⟨cA, kA, comp, h1, h2, h3⟩ := Cond.arrayClass_spec h
  exact ⟨cA, fun n z => ⟨fun k h => (by cases h), kA, h2, comp, h3⟩, hr s cA h1⟩
theorem jar_obj {s : State} {args : Array Value} {C : String} (h : (Cond.arrayOver (.object C)).before args s = true) : ∃ cA : ClassId, ArrOfT s cA (.object C) ∧ va_RA s cA (.object C) := by
  obtain ⟨comp, cA, kA, h1, -, h3, h4, h5⟩ := Cond.arrayOver_spec h
  exact ⟨cA, fun n z => ⟨fun k h => (by cases h), kA, h3, comp, h4⟩, kA, comp, h3, h4, h1, h5⟩
set_option maxRecDepth 100000 in
set_option maxHeartbeats 4000000 in
theorem whole_of (hmain : ∀ (G : jG) (b L : Nat) (xs : Nat → Int32), L ≤ 1536 → jt (lK G b L xs) 0 [(0, .ref b)] [] (fun _ => none) (gb G) 0 0) {p : Program} {e : Env} {s : State} {m : MethodId} {below : List Frame} {meth : Method} {c : Code} (l : Launch) {b L : Nat} {xs : Nat → Int32} (hL : L ≤ 1536) (C0 : lw_At p s m meth c b L xs) : W p l e room_1 s m #[Value.ref b] below meth c s.heap [] 0 0 (lw_Z below #[Value.ref b] s) (entryFrame m ([Value.ref b] : List Value).toArray 4) := by
  obtain ⟨hx, hb, hr, hml, hown, hts, hX, hbl, hlocks, hgv⟩ := C0
  have htj : ∀ w ∈ jTs, w.before #[Value.ref b] s = true := fun w h => hts w (jTs_in w h)
  obtain ⟨c0, iS0, hKn0⟩ := u_known (C := R_TR) (T := T_TR) (N := 4) (n := 4) htj in_TR (htj (.instantiable R_TR 4) (jin_t (jin_1 23 rfl) rfl))
  obtain ⟨c1, iS1, hKn1⟩ := u_known (C := R_EX) (T := T_EX) (N := 7) (n := 7) htj in_EX (htj (.instantiable R_EX 7) (jin_t (jin_1 51 rfl) rfl))
  obtain ⟨c2, iS2, hKn2⟩ := u_known (C := R_RD) (T := T_RD) (N := 13) (n := 13) htj in_RD (htj (.instantiable R_RD 13) (jin_t (jin_1 84 rfl) rfl))
  obtain ⟨c3, iS3, hKn3⟩ := u_known (C := R_VA) (T := T_VA) (N := 4) (n := 4) htj in_VA (htj (.instantiable R_VA 4) (jin_t (jin_1 92 rfl) rfl))
  obtain ⟨c4, iS4, hKn4⟩ := u_known (C := R_FO) (T := T_FO) (N := 1) (n := 1) htj in_FO (htj (.instantiable R_FO 1) (jin_t (jin_1 102 rfl) rfl))
  obtain ⟨c5, iS5, hKn5⟩ := u_known (C := R_OU) (T := T_OU) (N := 4) (n := 4) htj in_OU (htj (.instantiable R_OU 4) (jin_t (jin_1 193 rfl) rfl))
  obtain ⟨c6, iS6, hKn6⟩ := u_known (C := R_PI) (T := T_PI) (N := 2) (n := 2) htj in_PI (htj (.instantiable R_PI 2) (jin_t (jin_1 215 rfl) rfl))
  obtain ⟨c7, iS7, hKn7⟩ := u_known (C := R_GC) (T := T_GC) (N := 10) (n := 10) htj in_GC (htj (.instantiable R_GC 10) (jin_t (jin_1 15 rfl) rfl))
  obtain ⟨c8, iS8, hKn8⟩ := u_known (C := R_GM) (T := T_GM) (N := 46) (n := 46) htj in_GM (htj (.instantiable R_GM 46) (jin_t (jin_3 117 rfl) rfl))
  obtain ⟨dC, dI, hKc⟩ : ∃ (dC : Nat → ClassId) (dI : Nat → Nat → Nat), ∀ (k : Nat) (q : vw_C), jCl[k]? = some q → u_Kn s q.1 q.2.1 q.2.2 (dC k) (dI k) := by
    refine ⟨fun k => ([c0, c1, c2, c3, c4, c5, c6, c7, c8] : List ClassId).getD k 0, fun k => ([iS0, iS1, iS2, iS3, iS4, iS5, iS6, iS7, iS8] : List (Nat → Nat)).getD k (fun _ => 0), ?_⟩
    intro k q hq
    match k, hq with
    | 0, hq => cases hq; exact hKn0
    | 1, hq => cases hq; exact hKn1
    | 2, hq => cases hq; exact hKn2
    | 3, hq => cases hq; exact hKn3
    | 4, hq => cases hq; exact hKn4
    | 5, hq => cases hq; exact hKn5
    | 6, hq => cases hq; exact hKn6
    | 7, hq => cases hq; exact hKn7
    | 8, hq => cases hq; exact hKn8
    | k + 9, hq => simp [jCl] at hq
  obtain ⟨a0, ha0⟩ := jar_prim (ty := .int) (htj _ (jin_t (jin_1 49 rfl) rfl)) (fun _ _ h => h)
  obtain ⟨a1, ha1⟩ := jar_prim (ty := .long) (htj _ (jin_t (jin_1 114 rfl) rfl)) (fun _ _ h => h)
  obtain ⟨a2, ha2⟩ := jar_prim (ty := .boolean) (htj _ (jin_t (jin_1 189 rfl) rfl)) (fun _ _ h => h)
  have ho0 : (Cond.arrayOver (.object "GlyphCompiler$TokenRow")).before #[Value.ref b] s = true := hts _ (List.mem_append_right _ (jin_1 57 rfl))
  obtain ⟨a3, ha3⟩ := jar_obj ho0
  have ho1 : (Cond.arrayOver (.object "GlyphCompiler$Form")).before #[Value.ref b] s = true := hts _ (List.mem_append_right _ (jin_1 101 rfl))
  obtain ⟨a4, ha4⟩ := jar_obj ho1
  have hK : va_K (dC, dI) jCl (jtys (l, (dC, dI), (fun k => ([a0, a1, a2, a3, a4] : List ClassId).getD k 0), s.heap.size)) s := by
    refine ⟨hKc, fun k q h => ?_⟩
    match k, h with
    | 0, h => cases h; exact ha0
    | 1, h => cases h; exact ha1
    | 2, h => cases h; exact ha2
    | 3, h => cases h; exact ha3
    | 4, h => cases h; exact ha4
    | k + 5, h => simp [jtys, jTy] at h
  have hE : jE (l, (dC, dI), (fun k => ([a0, a1, a2, a3, a4] : List ClassId).getD k 0), s.heap.size) s := by
    refine ⟨hK, ?_, ?_⟩
    · exact List.forall_mem_cons.mpr ⟨va_Nw.of rfl (hts (Jvm.Cond.methodLinkNest "GlyphCompiler" (27 : Nat) ({ cls := "GlyphCompiler$Reader", name := "<init>", desc := "()V" } : Jvm.MethodName) "GlyphCompiler") (List.mem_append_right _ (jin_1 85 rfl))), List.forall_mem_cons.mpr ⟨va_Nw.of rfl (hts (Jvm.Cond.methodLinkNest "GlyphCompiler$Variables" (25 : Nat) ({ cls := "GlyphCompiler$Form", name := "<init>", desc := "()V" } : Jvm.MethodName) "GlyphCompiler") (List.mem_append_right _ (jin_1 116 rfl))), List.forall_mem_cons.mpr ⟨va_Nw.of rfl (hts (Jvm.Cond.methodLinkNest "GlyphCompiler" (41 : Nat) ({ cls := "GlyphCompiler$Outline", name := "<init>", desc := "()V" } : Jvm.MethodName) "GlyphCompiler") (List.mem_append_right _ (jin_1 194 rfl))), List.forall_mem_cons.mpr ⟨va_Nw.of rfl (hts (Jvm.Cond.methodLinkNest "GlyphCompiler" (48 : Nat) ({ cls := "GlyphCompiler$Picture", name := "<init>", desc := "()V" } : Jvm.MethodName) "GlyphCompiler") (List.mem_append_right _ (jin_1 216 rfl))), fun _ h => absurd h List.not_mem_nil⟩⟩⟩⟩
    · exact List.forall_mem_cons.mpr ⟨va_AO.of ho0, List.forall_mem_cons.mpr ⟨va_AO.of ho1, fun _ h => absurd h List.not_mem_nil⟩⟩
  have hv := lv_entry [Value.ref b] (n := 4) (Nat.le_of_ble_eq_true rfl)
  rw [lg_entry_eq]
  exact hmain (l, (dC, dI), _, s.heap.size) b L xs hL p e s m #[Value.ref b] below meth c s.heap [] _ ⟨hx, hb, hml, hr, hown, htj, hlocks, hE, Nat.le_refl _, fun h => absurd (show (yN lY).name = "<init>" from h) (by decide)⟩ ⟨rfl, hX, hbl, rfl⟩ rfl (fun a x h => by cases h) va_S.rf hv

/-! rests, quotients, Math, arraycopy, switches -/
theorem jI_div (a b : Int) (ha : jRi a) (hb : jRi b) : jI a / jI b = jI (a.tdiv b) := by
  apply Int32.toInt_inj.mp
  rw [Int32.toInt_div, jI_toInt ha, jI_toInt hb]
  unfold jI
  rw [Int32.toInt_ofInt]
theorem jL_div (a b : Int) (ha : jRl a) (hb : jRl b) : jL a / jL b = jL (a.tdiv b) := by
  apply Int64.toInt_inj.mp
  rw [Int64.toInt_div, jL_toInt ha, jL_toInt hb]
  unfold jL
  rw [Int64.toInt_ofInt]
theorem jI_rem (a b : Int) (ha : jRi a) (hb : jRi b) : jI a - jI a / jI b * jI b = jI (a.tmod b) := by
  rw [jI_div a b ha hb, jI_mul, jI_sub, Int.tmod_def, Int.mul_comm]
theorem jL_rem (a b : Int) (ha : jRl a) (hb : jRl b) : jL a - jL a / jL b * jL b = jL (a.tmod b) := by
  rw [jL_div a b ha hb, jL_mul, jL_sub, Int.tmod_def, Int.mul_comm]
def jcp {α : Type} (g h : Int → α) (sp dp n : Int) : Int → α := fun k => if dp ≤ k ∧ k < dp + n then g (sp + (k - dp)) else h k
section JO
variable {K : jK} {pc : Nat} {L L' : jLs} {r st : List Value} {f : jF} {sz ce sl : Nat} {a b : Int}
theorem jt_idiv (hd : decode (yc (kY K)) pc = .ok (.idiv, 1)) (ha : jRi a) (hb : jRi b) (h0 : ¬ b = 0) (k : jt K (pc + 1) L (.int (jI (a.tdiv b)) :: st) f sz ce sl) : jt K pc L (.int (jI b) :: .int (jI a) :: st) f sz ce sl :=
  jt_pu (fun _ _ _ _ _ _ _ _ _ _ _ _ _ _ C _ w => lv_idiv C.1 C.2.1 hd (by rw [jI_0, jI_eq hb jRi0]; exact h0) (by rw [jI_div a b ha hb]; exact w)) k
theorem jt_irem (hd : decode (yc (kY K)) pc = .ok (.irem, 1)) (ha : jRi a) (hb : jRi b) (h0 : ¬ b = 0) (k : jt K (pc + 1) L (.int (jI (a.tmod b)) :: st) f sz ce sl) : jt K pc L (.int (jI b) :: .int (jI a) :: st) f sz ce sl :=
  jt_pu (fun _ _ _ _ _ _ _ _ _ _ _ _ _ _ C _ w => lv_irem C.1 C.2.1 hd (by rw [jI_0, jI_eq hb jRi0]; exact h0) (by rw [jI_rem a b ha hb]; exact w)) k
theorem jt_ldiv (hd : decode (yc (kY K)) pc = .ok (.ldiv, 1)) (ha : jRl a) (hb : jRl b) (h0 : ¬ b = 0) (k : jt K (pc + 1) L (.long (jL (a.tdiv b)) :: st) f sz ce sl) : jt K pc L (.long (jL b) :: .long (jL a) :: st) f sz ce sl :=
  jt_pu (fun _ _ _ _ _ _ _ _ _ _ _ _ _ _ C _ w => lv_ldiv C.1 C.2.1 hd (by rw [jL_0, jL_eq hb jRl0]; exact h0) (by rw [jL_div a b ha hb]; exact w)) k
theorem jt_lrem (hd : decode (yc (kY K)) pc = .ok (.lrem, 1)) (ha : jRl a) (hb : jRl b) (h0 : ¬ b = 0) (k : jt K (pc + 1) L (.long (jL (a.tmod b)) :: st) f sz ce sl) : jt K pc L (.long (jL b) :: .long (jL a) :: st) f sz ce sl :=
  jt_pu (fun _ _ _ _ _ _ _ _ _ _ _ _ _ _ C _ w => lv_lrem C.1 C.2.1 hd (by rw [jL_0, jL_eq hb jRl0]; exact h0) (by rw [jL_rem a b ha hb]; exact w)) k
theorem jt_tableIn {d lo hi : Int} {os : Array Int} {n t : Nat} {z o : Int} (hd : decode (yc (kY K)) pc = .ok (.tableswitch d lo hi os, n)) (hz : jRi z) (h1 : lo ≤ z) (h2 : z ≤ hi) (ho : os[(z - lo).toNat]? = some o) (ht : (pc : Int) + o = (t : Int)) (k : jt K t L st f sz ce sl) : jt K pc L (.int (jI z) :: st) f sz ce sl :=
  jt_pu (fun _ _ _ _ _ _ _ _ _ _ _ _ _ _ C _ w => lv_tableIn C.1 C.2.1 hd (by rw [jI_toInt hz]; omega) (by rw [jI_toInt hz]; omega) (by rw [jI_toInt hz]; exact ho) ht w) k
theorem jt_tableOut {d lo hi : Int} {os : Array Int} {n t : Nat} {z : Int} (hd : decode (yc (kY K)) pc = .ok (.tableswitch d lo hi os, n)) (hz : jRi z) (h : z < lo ∨ hi < z) (ht : (pc : Int) + d = (t : Int)) (k : jt K t L st f sz ce sl) : jt K pc L (.int (jI z) :: st) f sz ce sl :=
  jt_pu (fun _ _ _ _ _ _ _ _ _ _ _ _ _ _ C _ w => lv_tableOut C.1 C.2.1 hd (by rw [jI_toInt hz]; exact h) ht w) k
theorem jt_lookup {d : Int} {ps : Array (Int × Int)} {n t : Nat} {z o : Int} (hd : decode (yc (kY K)) pc = .ok (.lookupswitch d ps, n)) (hp : (ps.toList.zip (ps.toList.drop 1)).all (fun (a, next) => a.1 < next.1) = true) (hz : jRi z) (ho : Op.lookupswitch.offset ps.toList d z = o) (ht : (pc : Int) + o = (t : Int)) (k : jt K t L st f sz ce sl) : jt K pc L (.int (jI z) :: st) f sz ce sl :=
  jt_pu (fun _ _ _ _ _ _ _ _ _ _ _ _ _ _ C _ w => lv_lookup C.1 C.2.1 hd hp (by rw [jI_toInt hz]; exact ho) ht w) k
theorem jt_mmax {i : Nat} (hd : decode (yc (kY K)) pc = .ok (.invokestatic i, 3)) (hw : Cond.methodLink (yN (kY K)).cls i Lib.Math.max.name ∈ jTs ∧ Cond.static Lib.Math.max.name ∈ jTs ∧ Cond.initialized "java/lang/Math" ∈ jTs ∧ Cond.code Lib.Math.max.name Lib.Math.max.code 2 (some .int) ∈ jTs) (ha : jRi a) (hb : jRi b) (hfr : 1 ≤ (kR K).frames) (hlo : (st.map fun v => v.category).sum + 13 ≤ (kR K).locals) (hce : ce ≤ (kR K).cells) (hsl : sl ≤ (kR K).slots) (k : jt K (pc + 3) L (.int (jI (max a b)) :: st) f sz ce sl) : jt K pc L (.int (jI b) :: .int (jI a) :: st) f sz ce sl := by
  intro p e s m args below meth c H locs ls C X hs hP hS hl
  have hts := C.2.2.2.2.2.1
  refine va_mmax C.1 C.2.1 (C.2.2.1.trans hl.1.symm) C.2.2.2.2.1 (hts _ hw.1) (hts _ hw.2.1) (hts _ hw.2.2.1) (hts _ hw.2.2.2) hfr hlo hce hsl hd ?_
  have e9 : (if jI a < jI b then jI b else jI a) = jI (max a b) := by
    by_cases q : a < b
    · rw [if_pos ((jI_lt ha hb).mpr q), Int.max_eq_right (by omega)]
    · rw [if_neg (fun z => q ((jI_lt ha hb).mp z)), Int.max_eq_left (by omega)]
  rw [e9]
  exact k p e s m args below meth c H locs ls C X hs hP hS hl
theorem jt_mmin {i : Nat} (hd : decode (yc (kY K)) pc = .ok (.invokestatic i, 3)) (hw : Cond.methodLink (yN (kY K)).cls i Lib.Math.min.name ∈ jTs ∧ Cond.static Lib.Math.min.name ∈ jTs ∧ Cond.initialized "java/lang/Math" ∈ jTs ∧ Cond.code Lib.Math.min.name Lib.Math.min.code 2 (some .int) ∈ jTs) (ha : jRi a) (hb : jRi b) (hfr : 1 ≤ (kR K).frames) (hlo : (st.map fun v => v.category).sum + 13 ≤ (kR K).locals) (hce : ce ≤ (kR K).cells) (hsl : sl ≤ (kR K).slots) (k : jt K (pc + 3) L (.int (jI (min a b)) :: st) f sz ce sl) : jt K pc L (.int (jI b) :: .int (jI a) :: st) f sz ce sl := by
  intro p e s m args below meth c H locs ls C X hs hP hS hl
  have hts := C.2.2.2.2.2.1
  refine va_mmin C.1 C.2.1 (C.2.2.1.trans hl.1.symm) C.2.2.2.2.1 (hts _ hw.1) (hts _ hw.2.1) (hts _ hw.2.2.1) (hts _ hw.2.2.2) hfr hlo hce hsl hd ?_
  have e9 : (if jI b < jI a then jI b else jI a) = jI (min a b) := by
    by_cases q : b < a
    · rw [if_pos ((jI_lt hb ha).mpr q), Int.min_eq_right (by omega)]
    · rw [if_neg (fun z => q ((jI_lt hb ha).mp z)), Int.min_eq_left (by omega)]
  rw [e9]
  exact k p e s m args below meth c H locs ls C X hs hP hS hl
theorem jt_labs {i : Nat} (hd : decode (yc (kY K)) pc = .ok (.invokestatic i, 3)) (hw : Cond.methodLink (yN (kY K)).cls i Lib.MathLoose.abs_long.x ∈ jTs ∧ Cond.static Lib.MathLoose.abs_long.x ∈ jTs ∧ Cond.initialized "java/lang/Math" ∈ jTs ∧ Cond.code Lib.MathLoose.abs_long.x Lib.MathLoose.abs_long.code 2 (some .long) ∈ jTs) (ha : jRl a) (hfr : 1 ≤ (kR K).frames) (hlo : (st.map fun v => v.category).sum + 13 ≤ (kR K).locals) (hce : ce ≤ (kR K).cells) (hsl : sl ≤ (kR K).slots) (k : jt K (pc + 3) L (.long (jL (if 0 < a then a else -a)) :: st) f sz ce sl) : jt K pc L (.long (jL a) :: st) f sz ce sl := by
  intro p e s m args below meth c H locs ls C X hs hP hS hl
  have hts := C.2.2.2.2.2.1
  refine va_mabs_long C.1 C.2.1 (C.2.2.1.trans hl.1.symm) C.2.2.2.2.1 (hts _ hw.1) (hts _ hw.2.1) (hts _ hw.2.2.1) (hts _ hw.2.2.2) hfr hlo hce hsl hd ?_
  have e9 : (if 0 < jL a then jL a else -jL a) = jL (if 0 < a then a else -a) := by
    rw [jL_0]
    by_cases q : 0 < a
    · rw [if_pos ((jL_lt jRl0 ha).mpr q), if_pos q]
    · rw [if_neg (fun z => q ((jL_lt jRl0 ha).mp z)), if_neg q, jL_neg]
  rw [e9]
  exact k p e s m args below meth c H locs ls C X hs hP hS hl
theorem jcp_cpy (F : Int → Int32) (g h : Int → Int) {sp dp n : Int} (h1 : 0 ≤ sp) (h2 : 0 ≤ dp) (h3 : 0 ≤ n) : va_cpy (fun k : Nat => F (g (k : Int))) (fun k : Nat => F (h (k : Int))) sp.toNat dp.toNat n.toNat = fun k : Nat => F (jcp g h sp dp n (k : Int)) := by
  funext k
  unfold va_cpy jcp
  by_cases q : dp.toNat ≤ k ∧ k < dp.toNat + n.toNat
  · have e : ((sp.toNat + (k - dp.toNat) : Nat) : Int) = sp + ((k : Int) - dp) := by omega
    rw [if_pos q, if_pos (by omega)]
    show F (g ((sp.toNat + (k - dp.toNat) : Nat) : Int)) = _
    rw [e]
  · rw [if_neg q, if_neg (by omega)]
set_option maxHeartbeats 4000000 in
theorem jt_acopyI {i a0 a1 n0 n1 : Nat} {g0 g1 : Int → Int} {sp dp n : Int} (hd : decode (yc (kY K)) pc = .ok (.invokestatic i, 3)) (hw : Cond.methodLink (yN (kY K)).cls i arraycopyName ∈ jTs ∧ Cond.native arraycopyName ∈ jTs ∧ Cond.static arraycopyName ∈ jTs ∧ Cond.initialized "java/lang/System" ∈ jTs) (ha0 : f a0 = some (jAI n0 g0)) (ha1 : f a1 = some (jAI n1 g1)) (h1 : 0 ≤ sp) (h2 : 0 ≤ dp) (h3 : 0 ≤ n) (h4 : sp + n ≤ n0) (h5 : dp + n ≤ n1) (hn0 : (n0 : Int) ≤ 2147483647) (hn1 : (n1 : Int) ≤ 2147483647) (hfr : 1 ≤ (kR K).frames) (hlo : (st.map fun v => v.category).sum + (nativeFrameWords "java/lang/System" "arraycopy" 5 + 11) ≤ (kR K).locals)
    (kk : jt K (pc + 3) L st (va_up f a1 (some (jAI n1 (jcp g0 g1 sp dp n)))) sz ce sl) : jt K pc L (.int (jI n) :: .int (jI dp) :: .ref a1 :: .int (jI sp) :: .ref a0 :: st) f sz ce sl := by
  intro p e s m args below meth c H locs ls C Xt hs hP hS hl
  have hts := C.2.2.2.2.2.1
  have rs : jRi sp := ⟨by omega, by omega⟩
  have rd : jRi dp := ⟨by omega, by omega⟩
  have rn : jRi n := ⟨by omega, by omega⟩
  obtain ⟨hb1, hc1⟩ := hP a1 _ ha1
  have hc0 := (hP a0 _ ha0).2
  have hc0 : H[a0]? = some (vp_cell (gA (kG K) 0) (n0, .inl (fun k => jI (g0 (k : Int))))) := hc0
  have hc1 : H[a1]? = some (vp_cell (gA (kG K) 0) (n1, .inl (fun k => jI (g1 (k : Int))))) := hc1
  obtain ⟨-, k0, hk0, cm0, hkk0⟩ := (jArr C.2.2.2.2.2.2.2.1 jTy_0).1 n0 (fun j => .int (jI (g0 (j : Int))))
  intro T hT X
  have i0 : ∀ {z : Int}, jRi z → 0 ≤ z → ¬ jI z < 0 := fun r h => by rw [jI_0, jI_lt r jRi0]; omega
  obtain ⟨vm', X', step⟩ := X.arraycopy C.1 C.2.2.2.2.1 (hts _ hw.1) (hts _ hw.2.1) (hts _ hw.2.2.1) (hts _ hw.2.2.2) (src := a0) (dst := a1) (cs := vp_cell (gA (kG K) 0) (n0, .inl (fun k => jI (g0 (k : Int))))) (cd := vp_cell (gA (kG K) 0) (n1, .inl (fun k => jI (g1 (k : Int))))) (srcPos := jI sp) (destPos := jI dp) (n := jI n) (by rw [hT]; exact hc0) (by rw [hT]; exact hc1)
    (fun _ h => by cases h) (fun _ h => by cases h) (fun h => by cases h) (fun h => by cases h) hk0 hk0 hkk0 hkk0 (by simp [refKind]) (i0 rs h1) (i0 rd h2) (i0 rn h3)
    (by rw [jI_toInt rs, jI_toInt rn]; show ¬ _ > ((arrV (gA (kG K) 0) n0 (fun j => .int (jI (g0 (j : Int))))).slots.size : Int); rw [arrV_size]; omega)
    (by rw [jI_toInt rd, jI_toInt rn]; show ¬ _ > ((arrV (gA (kG K) 0) n1 (fun j => .int (jI (g1 (j : Int))))).slots.size : Int); rw [arrV_size]; omega)
    (fun vm₁ _ i hi => by
      have hi2 : i < n.toNat := by rw [← jI_nat rn]; exact hi
      have e : (vp_cell (gA (kG K) 0) (n0, .inl (fun k => jI (g0 (k : Int))))).slots.getD ((jI sp).toNatClampNeg + i) .null = .int (jI (g0 (((jI sp).toNatClampNeg + i : Nat) : Int))) := by
        show (arrV (gA (kG K) 0) n0 (fun j => .int (jI (g0 (j : Int))))).slots.getD _ _ = _
        rw [Array.getD_eq_getD_getElem?, arrV_read _ _ (by rw [jI_nat rs]; omega)]
        rfl
      refine ⟨?_, ?_⟩
      · rw [e]
        rfl
      · rw [e]
        exact trivial)
    (g := F0 m pc ls (.int (jI n) :: .int (jI dp) :: .ref a1 :: .int (jI sp) :: .ref a0 :: st)) rfl (hl.1.trans C.2.2.1.symm) (rest := st) rfl (by rw [C.2.1]; exact hd) hfr (by show 2 * 0 + _ + _ ≤ _; omega)
  have e1 : copied (vp_cell (gA (kG K) 0) (n0, .inl (fun k => jI (g0 (k : Int))))) (vp_cell (gA (kG K) 0) (n1, .inl (fun k => jI (g1 (k : Int))))) (jI sp) (jI dp) (jI n) = vp_cell (gA (kG K) 0) (n1, .inl (fun k => jI (jcp g0 g1 sp dp n (k : Int)))) := by
    have e0 := va_copied (fun z => .int z) (gA (kG K) 0) (gA (kG K) 0) (n0 := n0) (n1 := n1) (sp := (jI sp).toNatClampNeg) (dp := (jI dp).toNatClampNeg) (n := (jI n).toNatClampNeg) (fun k => jI (g0 (k : Int))) (fun k => jI (g1 (k : Int))) (by rw [jI_nat rs, jI_nat rn]; omega)
    refine Eq.trans (show copied _ _ _ _ _ = _ from e0) ?_
    rw [jI_nat rs, jI_nat rd, jI_nat rn, jcp_cpy jI g0 g1 h1 h2 h3]
    rfl
  rw [e1] at X' step
  have hlt : a1 < H.size := (Array.getElem?_eq_some_iff.mp hc1).1
  generalize hcell : vp_cell (gA (kG K) 0) (n1, .inl (fun k => jI (jcp g0 g1 sp dp n (k : Int)))) = cell at X' step
  have hheap : ((T.setVm vm').setCell a1 cell).heap = H.setIfInBounds a1 cell := by rw [← hT]; rfl
  have oq : ∀ q : Nat, q ≠ a1 → (H.setIfInBounds a1 cell)[q]? = H[q]? := fun q hq => by simp [Array.getElem?_setIfInBounds, Ne.symm hq]
  have zq : (H.setIfInBounds a1 cell).size = H.size := by simp
  have sq : (H.setIfInBounds a1 cell)[a1]? = some cell := by simp [Array.getElem?_setIfInBounds, hlt]
  obtain ⟨t, r1, r2⟩ := kk p e s m args below meth c (H.setIfInBounds a1 cell) _ ls C Xt (zq.trans hs) (hP.set hb1 (show (H.setIfInBounds a1 cell)[a1]? = some (vp_cell (gA (kG K) 0) (n1, .inl (fun k => jI (jcp g0 g1 sp dp n (k : Int))))) by rw [hcell]; exact sq) oq) ⟨by rw [zq]; exact hS.1, fun q q1 q2 => by
      rw [oq q (fun e => q2 (by rw [e]; exact hb1))]
      exact hS.2.1 q q1 q2, fun q hq => by
      rcases List.mem_append.mp hq with h | h
      · exact hS.2.2 q h
      · obtain ⟨z, -, hz⟩ := List.mem_map.mp h
        rw [← hz]
        exact hb1⟩ hl _ hheap X'
  exact ⟨t, step t r1, r2⟩
end JO

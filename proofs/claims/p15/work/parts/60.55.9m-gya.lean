set_option maxRecDepth 100000 in
set_option maxHeartbeats 1000000 in
theorem l224_GM_equationsy (G : jG) (d m : Nat)  (I : Nat → Int) (A : Nat → Int → Int) (hT : gT I A) (hI : gSI I) (hA : gSA A) (z5 : I 5 = 0) (h13 : I 13 = 0) (z15 : I 15 = 0) (V9 : Int → Int → Int) (hV : gVr V9 A) (hI9 : VI (A 30) V9) (rq : FQ) (hR : EQ (I 1) (A 22) (A 23) V9 (I 4) rq) (e9 : Int) (s9 : Int → Int) (V8 : Int → Int → Int) (hE : ∀ (q : Int) (fs : List (Int → Int)) (g : Prop), rq = .ok q fs g → xW (I 1) (A 22) (A 23) q 6 → g → EA fs (A 30) V9 e9 s9 V8) (f0 : jF) (sz : Nat) (n : Int) (e : Int) (fs : List (Int → Int)) (hn : n = (fs.length : Int) ∧ 2 ≤ n ∧ n ≤ 150) (g15 : Int) (hrq : rq = .ok e fs (g15 = 0)) (hw6 : xV (I 1) (A 22) (A 23) e 6) (K : Nat → Int → Int) (hro : g15 = 0 → gRo K fs) (e0 : 0 ≤ e ∧ e ≤ 300 ∧ I 4 < e + 1) (E5 : Int) (E6 : Int) (C9 : Nat → Int → Int) (hen : (E5 = 0 → g15 = 0 ∧ e9 = 0) ∧ (E5 ≠ 0 → E6 = e ∧ (g15 = 0 → E5 = e9) ∧ (g15 ≠ 0 → E5 = -9))) (hok9 : E5 = 0 → gVs s9 V8 C9) (v : Int) (v0 : 0 ≤ v ∧ v < 12) (ne5 : E5 ≠ 0) (hout : ∀ (i : Int) (J : Nat → Int) (B : Nat → Int → Int), gPo [4, 5, 6, 9, 13, 14, 15] [30, 31, 33, 34, 35, 36, 37, 38] I A J B → (0 ≤ i) → (i ≤ 13) → (J 4 = e + 1 ∧ J 5 = E5 ∧ J 6 = E6) → (gBk A B 12) → (gRs A B v) → (B 30 v = A 30 v ∧ ∀ j, 0 ≤ j → j < i → B 31 (v * 13 + j) = A 31 (v * 13 + j)) → (i = 13) → jt (jm G Y_GM_equations (gR (d + 5)) (gQ m f0 sz (fun (rv : Option Value) (I2 : Nat → Int) (A2 : Nat → Int → Int) => rv = none ∧ gPo [4, 5, 6, 9, 13, 14, 15] [30, 31, 33, 34, 35, 36, 37, 38] I A I2 A2 ∧ (I2 5 = 0 → I 4 < I2 4) ∧ qQ (I 1) (A 22) (A 23) rq e9 s9 V8 A I2 A2))) 265 [(0, .ref m), (1, .int (jI n)), (2, .int (jI e)), (3, .int (jI v)), (4, .int (jI i))] [] (gmf m f0 J B) sz 0 0) : ∀ (n9 : Nat) (i : Int) (J : Nat → Int) (B : Nat → Int → Int), gPo [4, 5, 6, 9, 13, 14, 15] [30, 31, 33, 34, 35, 36, 37, 38] I A J B → (0 ≤ i) → (i ≤ 13) → (J 4 = e + 1 ∧ J 5 = E5 ∧ J 6 = E6) → (gBk A B 12) → (gRs A B v) → (B 30 v = A 30 v ∧ ∀ j, 0 ≤ j → j < i → B 31 (v * 13 + j) = A 31 (v * 13 + j)) → 13 - i < (n9 : Int) → jt (jm G Y_GM_equations (gR (d + 5)) (gQ m f0 sz (fun (rv : Option Value) (I2 : Nat → Int) (A2 : Nat → Int → Int) => rv = none ∧ gPo [4, 5, 6, 9, 13, 14, 15] [30, 31, 33, 34, 35, 36, 37, 38] I A I2 A2 ∧ (I2 5 = 0 → I 4 < I2 4) ∧ qQ (I 1) (A 22) (A 23) rq e9 s9 V8 A I2 A2))) 224 [(0, .ref m), (1, .int (jI n)), (2, .int (jI e)), (3, .int (jI v)), (4, .int (jI i))] [] (gmf m f0 J B) sz 0 0 := by
  have r4 : 0 ≤ I 4 ∧ I 4 ≤ 300 := hI 4
  have r5 : -13 ≤ I 5 ∧ I 5 ≤ 0 := hI 5
  have r13 : 0 ≤ I 13 ∧ I 13 ≤ 320 := hI 13
  obtain ⟨r0, hr0, hk1, hk2⟩ := EQ_first hR
  have t0 := hT.1
  have t1 := hT.2.1
  intro n9
  induction n9 with
  | zero =>
    intro i J B hJ i0 i1 hfi hbk hrs hv hmeas
    exfalso
    omega
  | succ n9 ih =>
    intro i J B hJ i0 i1 hfi hbk hrs hv hmeas
    have f1 : J 1 = I 1 := hJ.2.2.1 1 rfl
    refine jt_iload d_GM_equations_224 rfl ?_
    refine jt_bipush d_GM_equations_226 (by omega) ?_
    refine jt_icmp_ge (t := 265) d_GM_equations_228 rfl (by unfold jRi; omega) (by unfold jRi; omega) (fun c101 => ?_) (fun c101 => ?_)
    · skip
      exact hout i J B hJ i0 i1 hfi hbk hrs hv (by omega)
    · skip
      refine jt_aload_n d_GM_equations_231 rfl ?_
      refine gm_gA (k := 31) (a := m + 16) d_GM_equations_232 GM_f105 (by decide) (by decide) rfl ?_
      refine jt_iload_n d_GM_equations_235 rfl ?_
      refine jt_bipush d_GM_equations_236 (by omega) ?_
      refine jt_imul d_GM_equations_238 ?_
      refine jt_iload d_GM_equations_239 rfl ?_
      refine jt_iadd d_GM_equations_241 ?_
      refine jt_aload_n d_GM_equations_242 rfl ?_
      refine gm_gA (k := 35) (a := m + 20) d_GM_equations_243 GM_f118 (by decide) (by decide) rfl ?_
      refine jt_sipush d_GM_equations_246 (by omega) ?_
      refine jt_iload_n d_GM_equations_249 rfl ?_
      refine jt_iadd d_GM_equations_250 ?_
      refine jt_bipush d_GM_equations_251 (by omega) ?_
      refine jt_imul d_GM_equations_253 ?_
      refine jt_iload d_GM_equations_254 rfl ?_
      refine jt_iadd d_GM_equations_256 ?_
      refine gm_ld1 (k := 35) (n := 5200) (v := (B 35) (((201 + v) * 13) + i)) d_GM_equations_257 rfl (by decide) (by decide) rfl rfl (by omega) (by omega) (by omega) rfl ?_
      refine jt_topl (fun v102 ev102 => ?_)
      have bv102 : (-9223372036854775808) ≤ v102 ∧ v102 ≤ 9223372036854775807 := by rw [ev102]; exact hJ.2.1 35 (((201 + v) * 13) + i)
      refine gm_st1 (k := 31) (n := 156) (B := va_up B 31 (ju (B 31) ((v * 13) + i) v102)) d_GM_equations_258 rfl (by decide) (by decide) rfl rfl (by omega) (by omega) (by omega) rfl ?_
      have p103 := gPo.A 31 (ju (B 31) ((v * 13) + i) v102) hJ rfl (gju (hJ.2.1 31) (show -9223372036854775808 ≤ v102 ∧ v102 ≤ 9223372036854775807 by omega))
      refine jt_iinc (L' := [(0, .ref m), (1, .int (jI n)), (2, .int (jI e)), (3, .int (jI v)), (4, .int (jI (i + 1)))]) d_GM_equations_259 rfl (Nat.le_of_ble_eq_true rfl) rfl ?_
      refine jt_goto (t := 224) d_GM_equations_262 rfl ?_
      exact ih (i + 1) J (va_up B 31 (ju (B 31) ((v * 13) + i) v102)) p103 (by omega) (by omega) hfi hbk (fun u u0 u1 => ⟨(hrs u u0 u1).1, fun j j0 j1 => (ju_ne _ _ (by omega)).trans ((hrs u u0 u1).2 j j0 j1)⟩) ⟨hv.1, fun j a c => by rcases Classical.em (j = i) with e9 | e9; exact (by rw [e9]; exact (ju_self _ _ _).trans (by rw [ev102]; exact (hbk v (by omega) (by omega)).2 i (by omega) (by omega))); exact (ju_ne _ _ (by omega)).trans (hv.2 j a (by omega))⟩ (by omega)
set_option maxRecDepth 100000 in
set_option maxHeartbeats 1000000 in
theorem l191_GM_equationsy (G : jG) (d m : Nat)  (I : Nat → Int) (A : Nat → Int → Int) (hT : gT I A) (hI : gSI I) (hA : gSA A) (z5 : I 5 = 0) (h13 : I 13 = 0) (z15 : I 15 = 0) (V9 : Int → Int → Int) (hV : gVr V9 A) (hI9 : VI (A 30) V9) (rq : FQ) (hR : EQ (I 1) (A 22) (A 23) V9 (I 4) rq) (e9 : Int) (s9 : Int → Int) (V8 : Int → Int → Int) (hE : ∀ (q : Int) (fs : List (Int → Int)) (g : Prop), rq = .ok q fs g → xW (I 1) (A 22) (A 23) q 6 → g → EA fs (A 30) V9 e9 s9 V8) (f0 : jF) (sz : Nat) (n : Int) (e : Int) (fs : List (Int → Int)) (hn : n = (fs.length : Int) ∧ 2 ≤ n ∧ n ≤ 150) (g15 : Int) (hrq : rq = .ok e fs (g15 = 0)) (hw6 : xV (I 1) (A 22) (A 23) e 6) (K : Nat → Int → Int) (hro : g15 = 0 → gRo K fs) (e0 : 0 ≤ e ∧ e ≤ 300 ∧ I 4 < e + 1) (E5 : Int) (E6 : Int) (C9 : Nat → Int → Int) (hen : (E5 = 0 → g15 = 0 ∧ e9 = 0) ∧ (E5 ≠ 0 → E6 = e ∧ (g15 = 0 → E5 = e9) ∧ (g15 ≠ 0 → E5 = -9))) (hok9 : E5 = 0 → gVs s9 V8 C9) : ∀ (n9 : Nat) (v : Int) (J : Nat → Int) (B : Nat → Int → Int), gPo [4, 5, 6, 9, 13, 14, 15] [30, 31, 33, 34, 35, 36, 37, 38] I A J B → (0 ≤ v) → (v ≤ 12) → (J 4 = e + 1 ∧ J 5 = E5 ∧ J 6 = E6) → (gBk A B 12) → (E5 = 0 → B = C9) → (gRs A B v) → 12 - v < (n9 : Int) → jt (jm G Y_GM_equations (gR (d + 5)) (gQ m f0 sz (fun (rv : Option Value) (I2 : Nat → Int) (A2 : Nat → Int → Int) => rv = none ∧ gPo [4, 5, 6, 9, 13, 14, 15] [30, 31, 33, 34, 35, 36, 37, 38] I A I2 A2 ∧ (I2 5 = 0 → I 4 < I2 4) ∧ qQ (I 1) (A 22) (A 23) rq e9 s9 V8 A I2 A2))) 191 [(0, .ref m), (1, .int (jI n)), (2, .int (jI e)), (3, .int (jI v))] [] (gmf m f0 J B) sz 0 0 := by
  have r4 : 0 ≤ I 4 ∧ I 4 ≤ 300 := hI 4
  have r5 : -13 ≤ I 5 ∧ I 5 ≤ 0 := hI 5
  have r13 : 0 ≤ I 13 ∧ I 13 ≤ 320 := hI 13
  obtain ⟨r0, hr0, hk1, hk2⟩ := EQ_first hR
  have t0 := hT.1
  have t1 := hT.2.1
  intro n9
  induction n9 with
  | zero =>
    intro v J B hJ v0 v1 hfi hbk hsm hrs hmeas
    have q5 : -13 ≤ J 5 ∧ J 5 ≤ 0 := hJ.1 5
    exfalso
    omega
  | succ n9 ih =>
    intro v J B hJ v0 v1 hfi hbk hsm hrs hmeas
    have f1 : J 1 = I 1 := hJ.2.2.1 1 rfl
    have q5 : -13 ≤ J 5 ∧ J 5 ≤ 0 := hJ.1 5
    refine jt_iload_n d_GM_equations_191 rfl ?_
    refine jt_bipush d_GM_equations_192 (by omega) ?_
    refine jt_icmp_ge (t := 271) d_GM_equations_194 rfl (by unfold jRi; omega) (by unfold jRi; omega) (fun c201 => ?_) (fun c201 => ?_)
    · skip
      exact gm_vret d_GM_equations_271 rfl (by
        refine ⟨rfl, hJ, fun z => show I 4 < J 4 by omega, qQ_o hrq hw6 hfi.1 (fun z => ?_) (fun z => ?_)⟩
        · have h1 : g15 ≠ 0 := z
          have h2 : E5 ≠ 0 := fun y => h1 (hen.1 y).1
          have h3 := hen.2 h2
          exact ⟨by have h4 := h3.2.2 h1; omega, by omega, gRs_m (by rw [show v = 12 by omega] at hrs; exact hrs)⟩
        · have h1 : g15 = 0 := z
          by_cases h2 : E5 = 0
          · have h3 := hen.1 h2
            exact ⟨by omega, fun y => absurd h3.2 y, fun _ => by rw [hsm h2]; exact hok9 h2⟩
          · have h3 := hen.2 h2
            have h4 := h3.2.1 h1
            exact ⟨by omega, fun _ => ⟨by omega, gRs_m (by rw [show v = 12 by omega] at hrs; exact hrs)⟩, fun y => by exfalso; omega⟩)
    · skip
      refine jt_aload_n d_GM_equations_197 rfl ?_
      refine gm_gI (k := 5) (v := J 5) d_GM_equations_198 GM_f25 (by decide) rfl ?_
      have rb202 : -13 ≤ J 5 ∧ J 5 ≤ 0 := hJ.1 5
      refine jt_if_eq (t := 271) d_GM_equations_201 rfl (by unfold jRi; omega) (fun c203 => ?_) (fun c203 => ?_)
      · skip
        exact gm_vret d_GM_equations_271 rfl (by
        refine ⟨rfl, hJ, fun z => show I 4 < J 4 by omega, qQ_o hrq hw6 hfi.1 (fun z => ?_) (fun z => ?_)⟩
        · have h1 : g15 ≠ 0 := z
          have h2 : E5 ≠ 0 := fun y => h1 (hen.1 y).1
          have h3 := hen.2 h2
          exact ⟨by have h4 := h3.2.2 h1; omega, by omega, gRs_m (by rw [show v = 12 by omega] at hrs; exact hrs)⟩
        · have h1 : g15 = 0 := z
          by_cases h2 : E5 = 0
          · have h3 := hen.1 h2
            exact ⟨by omega, fun y => absurd h3.2 y, fun _ => by rw [hsm h2]; exact hok9 h2⟩
          · have h3 := hen.2 h2
            have h4 := h3.2.1 h1
            exact ⟨by omega, fun _ => ⟨by omega, gRs_m (by rw [show v = 12 by omega] at hrs; exact hrs)⟩, fun y => by exfalso; omega⟩)
      · skip
        refine jt_aload_n d_GM_equations_204 rfl ?_
        refine gm_gA (k := 30) (a := m + 15) d_GM_equations_205 GM_f102 (by decide) (by decide) rfl ?_
        refine jt_iload_n d_GM_equations_208 rfl ?_
        refine jt_aload_n d_GM_equations_209 rfl ?_
        refine gm_gA (k := 35) (a := m + 20) d_GM_equations_210 GM_f118 (by decide) (by decide) rfl ?_
        refine jt_sipush d_GM_equations_213 (by omega) ?_
        refine jt_iload_n d_GM_equations_216 rfl ?_
        refine jt_iadd d_GM_equations_217 ?_
        refine gm_ld1 (k := 35) (n := 5200) (v := (B 35) (2600 + v)) d_GM_equations_218 rfl (by decide) (by decide) rfl rfl (by omega) (by omega) (by omega) rfl ?_
        refine jt_topl (fun v204 ev204 => ?_)
        have bv204 : (-9223372036854775808) ≤ v204 ∧ v204 ≤ 9223372036854775807 := by rw [ev204]; exact hJ.2.1 35 (2600 + v)
        have sb : v204 = A 30 v := by rw [ev204]; exact (hbk v (by omega) (by omega)).1
        have sc : -2147483648 ≤ A 30 v ∧ A 30 v ≤ 2147483647 := hA 30 v
        refine jt_l2i d_GM_equations_219 ?_
        refine gm_st0 (k := 30) (n := 12) (B := va_up B 30 (ju (B 30) v v204)) d_GM_equations_220 rfl (by decide) (by decide) rfl rfl (by omega) (by omega) (by omega) rfl ?_
        have p205 := gPo.A 30 (ju (B 30) v v204) hJ rfl (gju (hJ.2.1 30) (show -2147483648 ≤ v204 ∧ v204 ≤ 2147483647 by omega))
        refine jt_iconst d_GM_equations_221 ?_
        refine jt_istore (L' := [(0, .ref m), (1, .int (jI n)), (2, .int (jI e)), (3, .int (jI v)), (4, .int (jI 0))]) d_GM_equations_222 (Nat.le_of_ble_eq_true rfl) rfl ?_
        refine l224_GM_equationsy G d m  I A hT hI hA z5 h13 z15 V9 hV hI9 rq hR e9 s9 V8 hE f0 sz n e fs hn g15 hrq hw6 K hro ((by omega)) E5 E6 C9 hen hok9 v ((by omega)) ((by omega)) (fun io206 Jo206 Bo206 hJo206 i0o206 i1o206 hfio206 hbko206 hrso206 hvo206 izo206 => ?_) 14 0 J (va_up B 30 (ju (B 30) v v204)) p205 (by omega) (by omega) hfi hbk (fun u u0 u1 => ⟨(ju_ne _ _ (by omega)).trans (hrs u u0 u1).1, (hrs u u0 u1).2⟩) ⟨(ju_self _ _ _).trans (by rw [ev204]; exact (hbk v (by omega) (by omega)).1), fun j a c => by omega⟩ (by omega)
        have f1o206 : Jo206 1 = I 1 := hJo206.2.2.1 1 rfl
        refine jt_iinc (L' := [(0, .ref m), (1, .int (jI n)), (2, .int (jI e)), (3, .int (jI (v + 1))), (4, .int (jI io206))]) d_GM_equations_265 rfl (Nat.le_of_ble_eq_true rfl) rfl ?_
        refine jt_goto (t := 191) d_GM_equations_268 rfl ?_
        refine jt_sub (L' := [(0, .ref m), (1, .int (jI n)), (2, .int (jI e)), (3, .int (jI (v + 1)))]) (fun _ h => List.mem_append_left [(4, Value.int (jI io206))] h) ?_
        exact ih (v + 1) Jo206 Bo206 hJo206 (by omega) (by omega) hfio206 hbko206 (fun z => absurd z (by omega)) (fun u u0 u1 => by rcases Classical.em (u = v) with e9 | e9; exact (by rw [e9]; exact ⟨hvo206.1, fun j a c => hvo206.2 j a (by omega)⟩); exact hrso206 u u0 (by omega)) (by omega)
set_option maxRecDepth 100000 in
set_option maxHeartbeats 1000000 in
theorem l162_GM_equationsy (G : jG) (d m : Nat)  (I : Nat → Int) (A : Nat → Int → Int) (hT : gT I A) (hI : gSI I) (hA : gSA A) (z5 : I 5 = 0) (h13 : I 13 = 0) (z15 : I 15 = 0) (V9 : Int → Int → Int) (hV : gVr V9 A) (hI9 : VI (A 30) V9) (rq : FQ) (hR : EQ (I 1) (A 22) (A 23) V9 (I 4) rq) (e9 : Int) (s9 : Int → Int) (V8 : Int → Int → Int) (hE : ∀ (q : Int) (fs : List (Int → Int)) (g : Prop), rq = .ok q fs g → xW (I 1) (A 22) (A 23) q 6 → g → EA fs (A 30) V9 e9 s9 V8) (f0 : jF) (sz : Nat) (n : Int) (e : Int) (fs : List (Int → Int)) (hn : n = (fs.length : Int) ∧ 2 ≤ n ∧ n ≤ 150) (g15 : Int) (hrq : rq = .ok e fs (g15 = 0)) (hw6 : xV (I 1) (A 22) (A 23) e 6) (K : Nat → Int → Int) (hro : g15 = 0 → gRo K fs) (e0 : 0 ≤ e ∧ e ≤ 300 ∧ I 4 < e + 1) : ∀ (n9 : Nat) (v : Int) (J : Nat → Int) (B : Nat → Int → Int), gPo [4, 5, 6, 9, 13, 14, 15] [30, 31, 33, 34, 35, 36, 37, 38] I A J B → (1 ≤ v) → (v ≤ n) → (J 4 = e + 1) → (∀ z, z < 2600 → B 35 z = K 35 z) → (gBk A B 12) → (eLp fs v g15 e9 e s9 V8 J B) → n - v < (n9 : Int) → jt (jm G Y_GM_equations (gR (d + 5)) (gQ m f0 sz (fun (rv : Option Value) (I2 : Nat → Int) (A2 : Nat → Int → Int) => rv = none ∧ gPo [4, 5, 6, 9, 13, 14, 15] [30, 31, 33, 34, 35, 36, 37, 38] I A I2 A2 ∧ (I2 5 = 0 → I 4 < I2 4) ∧ qQ (I 1) (A 22) (A 23) rq e9 s9 V8 A I2 A2))) 162 [(0, .ref m), (1, .int (jI n)), (2, .int (jI e)), (3, .int (jI v))] [] (gmf m f0 J B) sz 0 0 := by
  have r4 : 0 ≤ I 4 ∧ I 4 ≤ 300 := hI 4
  have r5 : -13 ≤ I 5 ∧ I 5 ≤ 0 := hI 5
  have r13 : 0 ≤ I 13 ∧ I 13 ≤ 320 := hI 13
  obtain ⟨r0, hr0, hk1, hk2⟩ := EQ_first hR
  have t0 := hT.1
  have t1 := hT.2.1
  intro n9
  induction n9 with
  | zero =>
    intro v J B hJ v0 v1 j4 hlo hbk hlp hmeas
    have q5 : -13 ≤ J 5 ∧ J 5 ≤ 0 := hJ.1 5
    exfalso
    omega
  | succ n9 ih =>
    intro v J B hJ v0 v1 j4 hlo hbk hlp hmeas
    have f1 : J 1 = I 1 := hJ.2.2.1 1 rfl
    have q5 : -13 ≤ J 5 ∧ J 5 ≤ 0 := hJ.1 5
    refine jt_iload_n d_GM_equations_162 rfl ?_
    refine jt_iload_n d_GM_equations_163 rfl ?_
    refine jt_icmp_ge (t := 189) d_GM_equations_164 rfl (by unfold jRi; omega) (by unfold jRi; omega) (fun c301 => ?_) (fun c301 => ?_)
    · skip
      refine jt_iconst d_GM_equations_189 ?_
      refine jt_istore_n (L' := [(0, .ref m), (1, .int (jI n)), (2, .int (jI e)), (3, .int (jI 0))]) d_GM_equations_190 (Nat.le_of_ble_eq_true rfl) rfl ?_
      exact l191_GM_equationsy G d m  I A hT hI hA z5 h13 z15 V9 hV hI9 rq hR e9 s9 V8 hE f0 sz n e fs hn g15 hrq hw6 K hro ((by omega)) ((J 5)) ((J 6)) B (⟨fun z => by obtain ⟨h1, h2, Vc, h3, h4, h5⟩ := hlp.1 z; have h6 := EA_last h5 (by rw [List.length_drop]; omega); exact ⟨h1, h6.1⟩, hlp.2⟩) ((fun z => by obtain ⟨h1, h2, Vc, h3, h4, h5⟩ := hlp.1 z; have h6 := EA_last h5 (by rw [List.length_drop]; omega); exact gVs_same h3 h6.2 rfl rfl)) 13 0 J B hJ (by omega) (by omega) ⟨j4, rfl, rfl⟩ hbk (fun _ => rfl) (fun u a c => by omega) (by omega)
    · skip
      refine jt_aload_n d_GM_equations_167 rfl ?_
      refine gm_gI (k := 5) (v := J 5) d_GM_equations_168 GM_f25 (by decide) rfl ?_
      have rb302 : -13 ≤ J 5 ∧ J 5 ≤ 0 := hJ.1 5
      refine jt_if_ne (t := 189) d_GM_equations_171 rfl (by unfold jRi; omega) (fun c303 => ?_) (fun c303 => ?_)
      · skip
        refine jt_iconst d_GM_equations_189 ?_
        refine jt_istore_n (L' := [(0, .ref m), (1, .int (jI n)), (2, .int (jI e)), (3, .int (jI 0))]) d_GM_equations_190 (Nat.le_of_ble_eq_true rfl) rfl ?_
        exact l191_GM_equationsy G d m  I A hT hI hA z5 h13 z15 V9 hV hI9 rq hR e9 s9 V8 hE f0 sz n e fs hn g15 hrq hw6 K hro ((by omega)) ((J 5)) ((J 6)) B (⟨fun z => by obtain ⟨h1, h2, Vc, h3, h4, h5⟩ := hlp.1 z; have h6 := EA_last h5 (by rw [List.length_drop]; omega); exact ⟨h1, h6.1⟩, hlp.2⟩) ((fun z => by obtain ⟨h1, h2, Vc, h3, h4, h5⟩ := hlp.1 z; have h6 := EA_last h5 (by rw [List.length_drop]; omega); exact gVs_same h3 h6.2 rfl rfl)) 13 0 J B hJ (by omega) (by omega) ⟨j4, rfl, rfl⟩ hbk (fun _ => rfl) (fun u a c => by omega) (by omega)
      · skip
        obtain ⟨hg0, hz15, Vc, hgv, hvi, hea⟩ := hlp.1 (by omega)
        have hr9 := hro hg0
        have hr8 : gRo B fs := gRo_fr hr9 (fun z hz => hlo z (by omega))
        obtain ⟨FF, hf1, hFF⟩ := gRo_at hr8 (show 0 ≤ v - 1 by omega) (by omega)
        obtain ⟨GG, hg1, hGG⟩ := gRo_at hr8 (show 0 ≤ v by omega) (by omega)
        have hain := (EQ_say (by rw [hrq] at hR; exact hR)).1 hg0
        have hFi := aIn_at hain hf1
        have hGi := aIn_at hain hg1
        obtain ⟨e1, s1, V1, hE1, hE2⟩ := EA_at hea (by omega) (by omega) hf1 hg1
        replace hE2 : Hd _ := hE2
        refine jt_aload_n d_GM_equations_174 rfl ?_
        refine jt_iload_n d_GM_equations_175 rfl ?_
        refine jt_iconst d_GM_equations_176 ?_
        refine jt_isub d_GM_equations_177 ?_
        refine jt_iload_n d_GM_equations_178 rfl ?_
        refine jt_iload_n d_GM_equations_179 rfl ?_
        refine gct_call (Y := Y_GM_equate) (As := [.int (jI (v - 1)), .int (jI v), .int (jI e)]) (rest := []) d_GM_equations_180 GM_c317 yk_GM_equate yv_GM_equate rfl (Nat.le_of_ble_eq_true rfl) rfl rfl (Nat.le_of_ble_eq_true rfl) (y_GM_equate G _ m (v - 1) v e J B hJ.1 hJ.2.1 (by omega) (by omega) (by omega) (by omega) hz15 FF hFF hFi GG hGG hGi Vc hgv hvi e1 s1 V1 hE1) (fun rvq304 Iq304 Aq304 hq304 => ?_)
        obtain ⟨rfl, hqq304, hxq304⟩ := hq304
        have hpq304 := gPo.trans hJ hqq304 rfl rfl
        have f1q304 : Iq304 1 = I 1 := hpq304.2.2.1 1 rfl
        have m4q304 : Iq304 4 = J 4 := hqq304.2.2.1 4 rfl
        have m13q304 : Iq304 13 = J 13 := hqq304.2.2.1 13 rfl
        replace hxq304 : Hd _ := hxq304
        show jt _ 183 [(0, .ref m), (1, .int (jI n)), (2, .int (jI e)), (3, .int (jI v))] [] (gmf m f0 Iq304 Aq304) _ _ _
        refine jt_iinc (L' := [(0, .ref m), (1, .int (jI n)), (2, .int (jI e)), (3, .int (jI (v + 1)))]) d_GM_equations_183 rfl (Nat.le_of_ble_eq_true rfl) rfl ?_
        refine jt_goto (t := 162) d_GM_equations_186 rfl ?_
        exact ih (v + 1) Iq304 Aq304 hpq304 (by omega) (by omega) (by show Iq304 4 = e + 1; rw [hqq304.2.2.1 4 rfl]; exact j4) (fun z hz => by rw [hxq304.2.2.2 z (by omega)]; exact hlo z hz) (gBk_fr hbk (by omega) (fun z hz => hxq304.2.2.2 z hz)) ⟨fun z => by
        have h5 := hxq304.1
        rcases hE2 with ⟨n1, n2⟩ | ⟨n1, n2⟩
        · exact absurd (h5.symm.trans z) n1
        · obtain ⟨m1, m2⟩ := hxq304.2.2.1 n1
          rw [n1] at hE1
          have hv2 := VI_eq hvi hE1
          exact ⟨hg0, m1, V1, m2.2, VI_s m2.1 hv2, EA_s m2.1 n2⟩, fun z => by
        have h5 := hxq304.1
        rcases hE2 with ⟨n1, n2⟩ | ⟨n1, n2⟩
        · exact ⟨hxq304.2.1 n1, fun _ => h5.trans n2.symm, fun y => absurd hg0 y⟩
        · exact absurd (h5.trans n1) z⟩ (by omega)
set_option maxRecDepth 100000 in
set_option maxHeartbeats 1000000 in
theorem l113_GM_equationsy (G : jG) (d m : Nat)  (I : Nat → Int) (A : Nat → Int → Int) (hT : gT I A) (hI : gSI I) (hA : gSA A) (z5 : I 5 = 0) (h13 : I 13 = 0) (z15 : I 15 = 0) (V9 : Int → Int → Int) (hV : gVr V9 A) (hI9 : VI (A 30) V9) (rq : FQ) (hR : EQ (I 1) (A 22) (A 23) V9 (I 4) rq) (e9 : Int) (s9 : Int → Int) (V8 : Int → Int → Int) (hE : ∀ (q : Int) (fs : List (Int → Int)) (g : Prop), rq = .ok q fs g → xW (I 1) (A 22) (A 23) q 6 → g → EA fs (A 30) V9 e9 s9 V8) (f0 : jF) (sz : Nat) (n : Int) (e : Int) (fs : List (Int → Int)) (hn : n = (fs.length : Int) ∧ 2 ≤ n ∧ n ≤ 150) (g15 : Int) (hrq : rq = .ok e fs (g15 = 0)) (hw6 : xV (I 1) (A 22) (A 23) e 6) (K : Nat → Int → Int) (hro : g15 = 0 → gRo K fs) (e0 : 0 ≤ e ∧ e ≤ 300 ∧ I 4 < e + 1) (v : Int) (v0 : 0 ≤ v ∧ v < 12) (hout : ∀ (i : Int) (J : Nat → Int) (B : Nat → Int → Int), gPo [4, 5, 6, 9, 13, 14, 15] [30, 31, 33, 34, 35, 36, 37, 38] I A J B → (0 ≤ i) → (i ≤ 13) → (J 4 = e + 1 ∧ J 15 = g15 ∧ (g15 = 0 → J 5 = 0) ∧ (g15 ≠ 0 → J 5 = -9 ∧ J 6 = e)) → (B 30 = A 30 ∧ B 31 = A 31) → (∀ z, z < 2600 → B 35 z = K 35 z) → (gBk A B v) → (B 35 (2600 + v) = A 30 v ∧ ∀ j, 0 ≤ j → j < i → B 35 ((201 + v) * 13 + j) = A 31 (v * 13 + j)) → (i = 13) → jt (jm G Y_GM_equations (gR (d + 5)) (gQ m f0 sz (fun (rv : Option Value) (I2 : Nat → Int) (A2 : Nat → Int → Int) => rv = none ∧ gPo [4, 5, 6, 9, 13, 14, 15] [30, 31, 33, 34, 35, 36, 37, 38] I A I2 A2 ∧ (I2 5 = 0 → I 4 < I2 4) ∧ qQ (I 1) (A 22) (A 23) rq e9 s9 V8 A I2 A2))) 154 [(0, .ref m), (1, .int (jI n)), (2, .int (jI e)), (3, .int (jI v)), (4, .int (jI i))] [] (gmf m f0 J B) sz 0 0) : ∀ (n9 : Nat) (i : Int) (J : Nat → Int) (B : Nat → Int → Int), gPo [4, 5, 6, 9, 13, 14, 15] [30, 31, 33, 34, 35, 36, 37, 38] I A J B → (0 ≤ i) → (i ≤ 13) → (J 4 = e + 1 ∧ J 15 = g15 ∧ (g15 = 0 → J 5 = 0) ∧ (g15 ≠ 0 → J 5 = -9 ∧ J 6 = e)) → (B 30 = A 30 ∧ B 31 = A 31) → (∀ z, z < 2600 → B 35 z = K 35 z) → (gBk A B v) → (B 35 (2600 + v) = A 30 v ∧ ∀ j, 0 ≤ j → j < i → B 35 ((201 + v) * 13 + j) = A 31 (v * 13 + j)) → 13 - i < (n9 : Int) → jt (jm G Y_GM_equations (gR (d + 5)) (gQ m f0 sz (fun (rv : Option Value) (I2 : Nat → Int) (A2 : Nat → Int → Int) => rv = none ∧ gPo [4, 5, 6, 9, 13, 14, 15] [30, 31, 33, 34, 35, 36, 37, 38] I A I2 A2 ∧ (I2 5 = 0 → I 4 < I2 4) ∧ qQ (I 1) (A 22) (A 23) rq e9 s9 V8 A I2 A2))) 113 [(0, .ref m), (1, .int (jI n)), (2, .int (jI e)), (3, .int (jI v)), (4, .int (jI i))] [] (gmf m f0 J B) sz 0 0 := by
  have r4 : 0 ≤ I 4 ∧ I 4 ≤ 300 := hI 4
  have r5 : -13 ≤ I 5 ∧ I 5 ≤ 0 := hI 5
  have r13 : 0 ≤ I 13 ∧ I 13 ≤ 320 := hI 13
  obtain ⟨r0, hr0, hk1, hk2⟩ := EQ_first hR
  have t0 := hT.1
  have t1 := hT.2.1
  intro n9
  induction n9 with
  | zero =>
    intro i J B hJ i0 i1 hst h30 hlo hbk hv hmeas
    exfalso
    omega
  | succ n9 ih =>
    intro i J B hJ i0 i1 hst h30 hlo hbk hv hmeas
    have f1 : J 1 = I 1 := hJ.2.2.1 1 rfl
    refine jt_iload d_GM_equations_113 rfl ?_
    refine jt_bipush d_GM_equations_115 (by omega) ?_
    refine jt_icmp_ge (t := 154) d_GM_equations_117 rfl (by unfold jRi; omega) (by unfold jRi; omega) (fun c401 => ?_) (fun c401 => ?_)
    · skip
      exact hout i J B hJ i0 i1 hst h30 hlo hbk hv (by omega)
    · skip
      refine jt_aload_n d_GM_equations_120 rfl ?_
      refine gm_gA (k := 35) (a := m + 20) d_GM_equations_121 GM_f118 (by decide) (by decide) rfl ?_
      refine jt_sipush d_GM_equations_124 (by omega) ?_
      refine jt_iload_n d_GM_equations_127 rfl ?_
      refine jt_iadd d_GM_equations_128 ?_
      refine jt_bipush d_GM_equations_129 (by omega) ?_
      refine jt_imul d_GM_equations_131 ?_
      refine jt_iload d_GM_equations_132 rfl ?_
      refine jt_iadd d_GM_equations_134 ?_
      refine jt_aload_n d_GM_equations_135 rfl ?_
      refine gm_gA (k := 31) (a := m + 16) d_GM_equations_136 GM_f105 (by decide) (by decide) rfl ?_
      refine jt_iload_n d_GM_equations_139 rfl ?_
      refine jt_bipush d_GM_equations_140 (by omega) ?_
      refine jt_imul d_GM_equations_142 ?_
      refine jt_iload d_GM_equations_143 rfl ?_
      refine jt_iadd d_GM_equations_145 ?_
      refine gm_ld1 (k := 31) (n := 156) (v := (B 31) ((v * 13) + i)) d_GM_equations_146 rfl (by decide) (by decide) rfl rfl (by omega) (by omega) (by omega) rfl ?_
      refine jt_topl (fun v402 ev402 => ?_)
      have bv402 : (-9223372036854775808) ≤ v402 ∧ v402 ≤ 9223372036854775807 := by rw [ev402]; exact hJ.2.1 31 ((v * 13) + i)
      refine gm_st1 (k := 35) (n := 5200) (B := va_up B 35 (ju (B 35) (((201 + v) * 13) + i) v402)) d_GM_equations_147 rfl (by decide) (by decide) rfl rfl (by omega) (by omega) (by omega) rfl ?_
      have p403 := gPo.A 35 (ju (B 35) (((201 + v) * 13) + i) v402) hJ rfl (gju (hJ.2.1 35) (show -9223372036854775808 ≤ v402 ∧ v402 ≤ 9223372036854775807 by omega))
      refine jt_iinc (L' := [(0, .ref m), (1, .int (jI n)), (2, .int (jI e)), (3, .int (jI v)), (4, .int (jI (i + 1)))]) d_GM_equations_148 rfl (Nat.le_of_ble_eq_true rfl) rfl ?_
      refine jt_goto (t := 113) d_GM_equations_151 rfl ?_
      exact ih (i + 1) J (va_up B 35 (ju (B 35) (((201 + v) * 13) + i) v402)) p403 (by omega) (by omega) hst h30 (fun z hz => (ju_ne _ _ (by omega)).trans (hlo z hz)) (fun u u0 u1 => ⟨(ju_ne _ _ (by omega)).trans (hbk u u0 u1).1, fun j j0 j1 => (ju_ne _ _ (by omega)).trans ((hbk u u0 u1).2 j j0 j1)⟩) ⟨(ju_ne _ _ (by omega)).trans hv.1, fun j a c => by rcases Classical.em (j = i) with e9 | e9; exact (by rw [e9]; exact (ju_self _ _ _).trans (by rw [ev402, h30.2])); exact (ju_ne _ _ (by omega)).trans (hv.2 j a (by omega))⟩ (by omega)
set_option maxRecDepth 100000 in
set_option maxHeartbeats 1000000 in
theorem l87_GM_equationsy (G : jG) (d m : Nat)  (I : Nat → Int) (A : Nat → Int → Int) (hT : gT I A) (hI : gSI I) (hA : gSA A) (z5 : I 5 = 0) (h13 : I 13 = 0) (z15 : I 15 = 0) (V9 : Int → Int → Int) (hV : gVr V9 A) (hI9 : VI (A 30) V9) (rq : FQ) (hR : EQ (I 1) (A 22) (A 23) V9 (I 4) rq) (e9 : Int) (s9 : Int → Int) (V8 : Int → Int → Int) (hE : ∀ (q : Int) (fs : List (Int → Int)) (g : Prop), rq = .ok q fs g → xW (I 1) (A 22) (A 23) q 6 → g → EA fs (A 30) V9 e9 s9 V8) (f0 : jF) (sz : Nat) (n : Int) (e : Int) (fs : List (Int → Int)) (hn : n = (fs.length : Int) ∧ 2 ≤ n ∧ n ≤ 150) (g15 : Int) (hrq : rq = .ok e fs (g15 = 0)) (hw6 : xV (I 1) (A 22) (A 23) e 6) (K : Nat → Int → Int) (hro : g15 = 0 → gRo K fs) (e0 : 0 ≤ e ∧ e ≤ 300 ∧ I 4 < e + 1) : ∀ (n9 : Nat) (v : Int) (J : Nat → Int) (B : Nat → Int → Int), gPo [4, 5, 6, 9, 13, 14, 15] [30, 31, 33, 34, 35, 36, 37, 38] I A J B → (0 ≤ v) → (v ≤ 12) → (J 4 = e + 1 ∧ J 15 = g15 ∧ (g15 = 0 → J 5 = 0) ∧ (g15 ≠ 0 → J 5 = -9 ∧ J 6 = e)) → (B 30 = A 30 ∧ B 31 = A 31) → (∀ z, z < 2600 → B 35 z = K 35 z) → (gBk A B v) → 12 - v < (n9 : Int) → jt (jm G Y_GM_equations (gR (d + 5)) (gQ m f0 sz (fun (rv : Option Value) (I2 : Nat → Int) (A2 : Nat → Int → Int) => rv = none ∧ gPo [4, 5, 6, 9, 13, 14, 15] [30, 31, 33, 34, 35, 36, 37, 38] I A I2 A2 ∧ (I2 5 = 0 → I 4 < I2 4) ∧ qQ (I 1) (A 22) (A 23) rq e9 s9 V8 A I2 A2))) 87 [(0, .ref m), (1, .int (jI n)), (2, .int (jI e)), (3, .int (jI v))] [] (gmf m f0 J B) sz 0 0 := by
  have r4 : 0 ≤ I 4 ∧ I 4 ≤ 300 := hI 4
  have r5 : -13 ≤ I 5 ∧ I 5 ≤ 0 := hI 5
  have r13 : 0 ≤ I 13 ∧ I 13 ≤ 320 := hI 13
  obtain ⟨r0, hr0, hk1, hk2⟩ := EQ_first hR
  have t0 := hT.1
  have t1 := hT.2.1
  intro n9
  induction n9 with
  | zero =>
    intro v J B hJ v0 v1 hst h30 hlo hbk hmeas
    have q15g : 0 ≤ J 15 ∧ J 15 ≤ 1 := hJ.1 15
    exfalso
    omega
  | succ n9 ih =>
    intro v J B hJ v0 v1 hst h30 hlo hbk hmeas
    have f1 : J 1 = I 1 := hJ.2.2.1 1 rfl
    have q15g : 0 ≤ J 15 ∧ J 15 ≤ 1 := hJ.1 15
    refine jt_iload_n d_GM_equations_87 rfl ?_
    refine jt_bipush d_GM_equations_88 (by omega) ?_
    refine jt_icmp_ge (t := 160) d_GM_equations_90 rfl (by unfold jRi; omega) (by unfold jRi; omega) (fun c501 => ?_) (fun c501 => ?_)
    · skip
      refine jt_iconst d_GM_equations_160 ?_
      refine jt_istore_n (L' := [(0, .ref m), (1, .int (jI n)), (2, .int (jI e)), (3, .int (jI 1))]) d_GM_equations_161 (Nat.le_of_ble_eq_true rfl) rfl ?_
      exact l162_GM_equationsy G d m  I A hT hI hA z5 h13 z15 V9 hV hI9 rq hR e9 s9 V8 hE f0 sz n e fs hn g15 hrq hw6 K hro ((by omega)) 301 1 J B hJ (by omega) (by omega) hst.1 hlo (by rw [show v = 12 by omega] at hbk; exact hbk) ⟨fun z => by
      have hg0 : g15 = 0 := by omega
      refine ⟨hg0, by omega, V9, by unfold gVr; rw [h30.1, h30.2]; exact hV, by rw [h30.1]; exact hI9, ?_⟩
      rw [h30.1]
      exact hE e fs _ hrq hw6 hg0, fun z => ⟨by omega, fun y => by omega, fun y => by omega⟩⟩ (by omega)
    · skip
      refine jt_aload_n d_GM_equations_93 rfl ?_
      refine gm_gA (k := 35) (a := m + 20) d_GM_equations_94 GM_f118 (by decide) (by decide) rfl ?_
      refine jt_sipush d_GM_equations_97 (by omega) ?_
      refine jt_iload_n d_GM_equations_100 rfl ?_
      refine jt_iadd d_GM_equations_101 ?_
      refine jt_aload_n d_GM_equations_102 rfl ?_
      refine gm_gA (k := 30) (a := m + 15) d_GM_equations_103 GM_f102 (by decide) (by decide) rfl ?_
      refine jt_iload_n d_GM_equations_106 rfl ?_
      refine gm_ld0 (k := 30) (n := 12) (v := (B 30) v) d_GM_equations_107 rfl (by decide) (by decide) rfl rfl (by omega) (by omega) (by omega) rfl ?_
      refine jt_topi (fun v502 ev502 => ?_)
      have bv502 : (-2147483648) ≤ v502 ∧ v502 ≤ 2147483647 := by rw [ev502]; exact hJ.2.1 30 v
      refine jt_i2l d_GM_equations_108 (by unfold jRi; omega) ?_
      refine gm_st1 (k := 35) (n := 5200) (B := va_up B 35 (ju (B 35) (2600 + v) v502)) d_GM_equations_109 rfl (by decide) (by decide) rfl rfl (by omega) (by omega) (by omega) rfl ?_
      have p503 := gPo.A 35 (ju (B 35) (2600 + v) v502) hJ rfl (gju (hJ.2.1 35) (show -9223372036854775808 ≤ v502 ∧ v502 ≤ 9223372036854775807 by omega))
      refine jt_iconst d_GM_equations_110 ?_
      refine jt_istore (L' := [(0, .ref m), (1, .int (jI n)), (2, .int (jI e)), (3, .int (jI v)), (4, .int (jI 0))]) d_GM_equations_111 (Nat.le_of_ble_eq_true rfl) rfl ?_
      refine l113_GM_equationsy G d m  I A hT hI hA z5 h13 z15 V9 hV hI9 rq hR e9 s9 V8 hE f0 sz n e fs hn g15 hrq hw6 K hro ((by omega)) v ((by omega)) (fun io504 Jo504 Bo504 hJo504 i0o504 i1o504 hsto504 h30o504 hloo504 hbko504 hvo504 izo504 => ?_) 14 0 J (va_up B 35 (ju (B 35) (2600 + v) v502)) p503 (by omega) (by omega) hst h30 (fun z hz => (ju_ne _ _ (by omega)).trans (hlo z hz)) (fun u u0 u1 => ⟨(ju_ne _ _ (by omega)).trans (hbk u u0 u1).1, fun j j0 j1 => (ju_ne _ _ (by omega)).trans ((hbk u u0 u1).2 j j0 j1)⟩) ⟨(ju_self _ _ _).trans (by rw [ev502, h30.1]), fun j a c => by omega⟩ (by omega)
      have f1o504 : Jo504 1 = I 1 := hJo504.2.2.1 1 rfl
      refine jt_iinc (L' := [(0, .ref m), (1, .int (jI n)), (2, .int (jI e)), (3, .int (jI (v + 1))), (4, .int (jI io504))]) d_GM_equations_154 rfl (Nat.le_of_ble_eq_true rfl) rfl ?_
      refine jt_goto (t := 87) d_GM_equations_157 rfl ?_
      refine jt_sub (L' := [(0, .ref m), (1, .int (jI n)), (2, .int (jI e)), (3, .int (jI (v + 1)))]) (fun _ h => List.mem_append_left [(4, Value.int (jI io504))] h) ?_
      exact ih (v + 1) Jo504 Bo504 hJo504 (by omega) (by omega) hsto504 h30o504 hloo504 (fun u u0 u1 => by rcases Classical.em (u = v) with e9 | e9; exact (by rw [e9]; exact ⟨hvo504.1, fun j a c => hvo504.2 j a (by omega)⟩); exact hbko504 u u0 (by omega)) (by omega)
set_option maxRecDepth 100000 in
set_option maxHeartbeats 1000000 in
theorem l7_GM_equationsy (G : jG) (d m : Nat)  (I : Nat → Int) (A : Nat → Int → Int) (hT : gT I A) (hI : gSI I) (hA : gSA A) (z5 : I 5 = 0) (h13 : I 13 = 0) (z15 : I 15 = 0) (V9 : Int → Int → Int) (hV : gVr V9 A) (hI9 : VI (A 30) V9) (rq : FQ) (hR : EQ (I 1) (A 22) (A 23) V9 (I 4) rq) (e9 : Int) (s9 : Int → Int) (V8 : Int → Int → Int) (hE : ∀ (q : Int) (fs : List (Int → Int)) (g : Prop), rq = .ok q fs g → xW (I 1) (A 22) (A 23) q 6 → g → EA fs (A 30) V9 e9 s9 V8) (f0 : jF) (sz : Nat)  : ∀ (n9 : Nat) (n : Int) (t : Int) (J : Nat → Int) (B : Nat → Int → Int), gPo [4, 5, 6, 9, 13, 14, 15] [30, 31, 33, 34, 35, 36, 37, 38] I A J B → (1 ≤ n ∧ n ≤ 299) → (J 5 = 0 → 2 * n - 1 ≤ J 4) → (J 5 = 0 → I 4 < J 4 ∧ J 13 = 0) → (J 5 = 0 → 301 - J 4 ≤ t) → (0 ≤ t) → (Hd (J 5 = 0 → ∃ fs : List (Int → Int), n = (fs.length : Int) ∧ EQL (I 1) (A 22) (A 23) V9 (J 4) fs (J 15 = 0) rq ∧ (J 15 = 0 → gRo B fs))) → (J 5 ≠ 0 → rq = .err (J 5) (J 6)) → (B 30 = A 30 ∧ B 31 = A 31) → t < (n9 : Int) → jt (jm G Y_GM_equations (gR (d + 5)) (gQ m f0 sz (fun (rv : Option Value) (I2 : Nat → Int) (A2 : Nat → Int → Int) => rv = none ∧ gPo [4, 5, 6, 9, 13, 14, 15] [30, 31, 33, 34, 35, 36, 37, 38] I A I2 A2 ∧ (I2 5 = 0 → I 4 < I2 4) ∧ qQ (I 1) (A 22) (A 23) rq e9 s9 V8 A I2 A2))) 7 [(0, .ref m), (1, .int (jI n))] [] (gmf m f0 J B) sz 0 0 := by
  have r4 : 0 ≤ I 4 ∧ I 4 ≤ 300 := hI 4
  have r5 : -13 ≤ I 5 ∧ I 5 ≤ 0 := hI 5
  have r13 : 0 ≤ I 13 ∧ I 13 ≤ 320 := hI 13
  obtain ⟨r0, hr0, hk1, hk2⟩ := EQ_first hR
  have t0 := hT.1
  have t1 := hT.2.1
  intro n9
  induction n9 with
  | zero =>
    intro n t J B hJ n0 n1 k5 ht t9 hl hr f30 hmeas
    have q4 : 0 ≤ J 4 ∧ J 4 ≤ 300 := hJ.1 4
    have q5 : -13 ≤ J 5 ∧ J 5 ≤ 0 := hJ.1 5
    have q13 : 0 ≤ J 13 ∧ J 13 ≤ 320 := hJ.1 13
    exfalso
    omega
  | succ n9 ih =>
    intro n t J B hJ n0 n1 k5 ht t9 hl hr f30 hmeas
    have f1 : J 1 = I 1 := hJ.2.2.1 1 rfl
    have q4 : 0 ≤ J 4 ∧ J 4 ≤ 300 := hJ.1 4
    have q5 : -13 ≤ J 5 ∧ J 5 ≤ 0 := hJ.1 5
    have q13 : 0 ≤ J 13 ∧ J 13 ≤ 320 := hJ.1 13
    refine jt_aload_n d_GM_equations_7 rfl ?_
    refine gm_gI (k := 5) (v := J 5) d_GM_equations_8 GM_f25 (by decide) rfl ?_
    have rb601 : -13 ≤ J 5 ∧ J 5 ≤ 0 := hJ.1 5
    refine jt_if_ne (t := 50) d_GM_equations_11 rfl (by unfold jRi; omega) (fun c602 => ?_) (fun c602 => ?_)
    · skip
      refine jt_aload_n d_GM_equations_50 rfl ?_
      refine jt_bipush d_GM_equations_51 (by omega) ?_
      refine gct_call (Y := Y_GM_need) (As := [.int (jI 6)]) (rest := []) d_GM_equations_53 GM_c241 yk_GM_need yv_GM_need rfl (Nat.le_of_ble_eq_true rfl) rfl rfl (Nat.le_of_ble_eq_true rfl) (y_GM_need G _ m 6 J B (gT_of hJ hT rfl rfl rfl) hJ.1 hJ.2.1 (by unfold jRi; omega)) (fun rvq603 Iq603 Aq603 hq603 => ?_)
      obtain ⟨rfl, hqq603, hxq603⟩ := hq603
      have hpq603 := gPo.trans hJ hqq603 rfl rfl
      have f1q603 : Iq603 1 = I 1 := hpq603.2.2.1 1 rfl
      have m13q603 : Iq603 13 = J 13 := hqq603.2.2.1 13 rfl
      replace hxq603 : Hd _ := hxq603
      show jt _ 56 [(0, .ref m), (1, .int (jI n))] [] (gmf m f0 Iq603 Aq603) _ _ _
      have e6w : ∀ q, Hd (gW J B q 6 ↔ xW (I 1) (A 22) (A 23) q 6) := fun q => by show xW (J 1) (B 22) (B 23) q 6 ↔ _; rw [f1, hJ.2.2.2 22 rfl, hJ.2.2.2 23 rfl]
      refine jt_aload_n d_GM_equations_56 rfl ?_
      refine gm_gI (k := 5) (v := Iq603 5) d_GM_equations_57 GM_f25 (by decide) rfl ?_
      have rb604 : -13 ≤ Iq603 5 ∧ Iq603 5 ≤ 0 := hpq603.1 5
      refine jt_if_eq (t := 64) d_GM_equations_60 rfl (by unfold jRi; omega) (fun c605 => ?_) (fun c605 => ?_)
      · skip
        exfalso
        have h8 := congrFun (hxq603.2.2 (by omega)) 5
        omega
      · skip
        exact gm_vret d_GM_equations_63 rfl (by
        refine ⟨rfl, hpq603, fun z => absurd z (by omega), ?_⟩
        have y : J 5 ≠ 0 := by omega
        have h8 := hxq603.2.2 y
        exact qQ_e (hr y) (by rw [h8]) (by rw [h8]) (gSm_e ⟨by rw [hqq603.2.2.2 30 rfl]; exact f30.1, by rw [hqq603.2.2.2 31 rfl]; exact f30.2⟩))
    · skip
      refine jt_aload_n d_GM_equations_14 rfl ?_
      refine jt_iconst d_GM_equations_15 ?_
      refine gct_call (Y := Y_GM_word) (As := [.int (jI 2)]) (rest := []) d_GM_equations_16 GM_c201 yk_GM_word yv_GM_word rfl (Nat.le_of_ble_eq_true rfl) rfl rfl (Nat.le_of_ble_eq_true rfl) (c_GM_word G _ m 2 J B (gP_of hJ.1 (gT_of hJ hT rfl rfl rfl)) (by unfold jRi; omega)) (fun rvq606 Iq606 Aq606 hq606 => ?_)
      obtain ⟨haq606, hbq606, hIq606, hAq606⟩ := hq606
      rw [hIq606, hAq606]
      by_cases gq606 : xV (J 1) (B 22) (B 23) (J 4) 2
      · skip
        obtain rfl := haq606 gq606
        clear haq606 hbq606 hIq606 hAq606
        have tq606 : J 1 ≤ 300 := (gT_of hJ hT rfl rfl rfl).2.1
        have kq606 : (J 4) < (J 1) ∧ B 22 (J 4) = 4 ∧ B 23 (J 4) = 2 := gq606
        show jt _ 19 [(0, .ref m), (1, .int (jI n))] [.int (jI 1)] (gmf m f0 J B) _ _ _
        refine jt_if_ne (t := 27) d_GM_equations_19 rfl (by unfold jRi; omega) (fun c607 => ?_) (fun c607 => ?_)
        · skip
          obtain ⟨fs, hn, hql, hrow⟩ := hl (by omega)
          have k5z := k5 (by omega)
          obtain ⟨r1, hr1, hk1, hk2⟩ := EQL_more hql (by have h9 := gq606; unfold xV at h9; rw [f1, hJ.2.2.2 22 rfl, hJ.2.2.2 23 rfl] at h9; exact h9)
          refine jt_aload_n d_GM_equations_27 rfl ?_
          refine jt_iconst d_GM_equations_28 ?_
          refine gct_call (Y := Y_GM_need) (As := [.int (jI 2)]) (rest := []) d_GM_equations_29 GM_c241 yk_GM_need yv_GM_need rfl (Nat.le_of_ble_eq_true rfl) rfl rfl (Nat.le_of_ble_eq_true rfl) (y_GM_need G _ m 2 J B (gT_of hJ hT rfl rfl rfl) hJ.1 hJ.2.1 (by unfold jRi; omega)) (fun rvq608 Iq608 Aq608 hq608 => ?_)
          obtain ⟨rfl, hqq608, hxq608⟩ := hq608
          have hpq608 := gPo.trans hJ hqq608 rfl rfl
          have f1q608 : Iq608 1 = I 1 := hpq608.2.2.1 1 rfl
          have m13q608 : Iq608 13 = J 13 := hqq608.2.2.1 13 rfl
          replace hxq608 : Hd _ := hxq608
          show jt _ 32 [(0, .ref m), (1, .int (jI n))] [] (gmf m f0 Iq608 Aq608) _ _ _
          have nq : Hd (needQ 2 J B Iq608) := hxq608.2.1 (by omega)
          have n5 := (nq.1 gq606)
          refine jt_aload_n d_GM_equations_32 rfl ?_
          refine gm_gI (k := 5) (v := Iq608 5) d_GM_equations_33 GM_f25 (by decide) rfl ?_
          have rb609 : -13 ≤ Iq608 5 ∧ Iq608 5 ≤ 0 := hpq608.1 5
          refine jt_if_ne (t := 44) d_GM_equations_36 rfl (by unfold jRi; omega) (fun c610 => ?_) (fun c610 => ?_)
          · skip
            refine jt_iinc (L' := [(0, .ref m), (1, .int (jI (n + 1)))]) d_GM_equations_44 rfl (Nat.le_of_ble_eq_true rfl) rfl ?_
            refine jt_goto (t := 7) d_GM_equations_47 rfl ?_
            exact ih (n + 1) (t - 1) Iq608 Aq608 hpq608 (by omega) (by exfalso; omega) (by exfalso; omega) (by exfalso; omega) (by omega) (by exfalso; omega) (by exfalso; omega) (by exfalso; omega) (by omega)
          · skip
            refine jt_aload_n d_GM_equations_39 rfl ?_
            refine jt_iload_n d_GM_equations_40 rfl ?_
            refine gct_call (Y := Y_GM_expr) (As := [.int (jI n)]) (rest := []) d_GM_equations_41 GM_c250 yk_GM_expr yv_GM_expr rfl (Nat.le_of_ble_eq_true rfl) rfl rfl (Nat.le_of_ble_eq_true rfl) (x_GM_expr G _ m n Iq608 Aq608 (gT_of hpq608 hT rfl rfl rfl) hpq608.1 hpq608.2.1 (by omega) (by omega) (fun _ => show Iq608 13 = 0 by omega) V9 (by unfold gVr; rw [hqq608.2.2.2 30 rfl, hqq608.2.2.2 31 rfl, f30.1, f30.2]; exact hV) (J 15 = 0) r1 (fun z => by rw [show Iq608 1 = I 1 from hpq608.2.2.1 1 rfl, hpq608.2.2.2 22 rfl, hpq608.2.2.2 23 rfl]; rw [show Iq608 4 = J 4 + 1 from (hxq608.1 z).2]; exact hr1) (by rw [show Iq608 15 = J 15 from hqq608.2.2.1 15 rfl])) (fun rvq611 Iq611 Aq611 hq611 => ?_)
            obtain ⟨rfl, hqq611, hxq611⟩ := hq611
            have hpq611 := gPo.trans hpq608 hqq611 rfl rfl
            have f1q611 : Iq611 1 = I 1 := hpq611.2.2.1 1 rfl
            replace hxq611 : Hd _ := hxq611
            show jt _ 44 [(0, .ref m), (1, .int (jI n))] [] (gmf m f0 Iq611 Aq611) _ _ _
            refine jt_iinc (L' := [(0, .ref m), (1, .int (jI (n + 1)))]) d_GM_equations_44 rfl (Nat.le_of_ble_eq_true rfl) rfl ?_
            refine jt_goto (t := 7) d_GM_equations_47 rfl ?_
            exact ih (n + 1) (t - 1) Iq611 Aq611 hpq611 (by omega) (fun z => by have k9 := hxq611.1 z; show 2 * (n + 1) - 1 ≤ Iq611 4; have k8 := n1 (by omega); omega) (fun z => by have k9 := hxq611.1 z; omega) (fun z => by have k9 := hxq611.1 z; have k8 := ht (by omega); show 301 - Iq611 4 ≤ t - 1; omega) (by omega) (fun z => by
        obtain ⟨q9, F9, g9, h1, h2, h3, h4, h5⟩ := (hxq611.2.2.1 (by omega)).1 z
        have hm9 := EX_mono (by rw [h1] at hr1; exact hr1)
        exact ⟨fs ++ [F9], by rw [List.length_append]; simp; omega, by rw [h2, propext h3]; exact hk1 q9 F9 g9 h1, fun z15 => gRo_add (hrow (hm9 (h3.mp z15))) (fun y hy => by rw [hxq611.2.2.2 y (by omega) (by omega), hqq608.2.2.2 35 rfl]) (fun j a c => by rw [← hn]; exact h5 (h3.mp z15) j a c)⟩) (fun z => hk2 _ _ ((hxq611.2.2.1 (by omega)).2 z)) ⟨by rw [hqq611.2.2.2 30 rfl, hqq608.2.2.2 30 rfl]; exact f30.1, by rw [hqq611.2.2.2 31 rfl, hqq608.2.2.2 31 rfl]; exact f30.2⟩ (by omega)
        · skip
          exfalso
          omega
      · skip
        obtain rfl := hbq606 gq606
        clear haq606 hbq606 hIq606 hAq606
        show jt _ 19 [(0, .ref m), (1, .int (jI n))] [.int (jI 0)] (gmf m f0 J B) _ _ _
        refine jt_if_ne (t := 27) d_GM_equations_19 rfl (by unfold jRi; omega) (fun c612 => ?_) (fun c612 => ?_)
        · skip
          exfalso
          omega
        · skip
          refine jt_iload_n d_GM_equations_22 rfl ?_
          refine jt_iconst d_GM_equations_23 ?_
          refine jt_icmp_ne (t := 50) d_GM_equations_24 rfl (by unfold jRi; omega) (by unfold jRi; omega) (fun c613 => ?_) (fun c613 => ?_)
          · skip
            refine jt_aload_n d_GM_equations_50 rfl ?_
            refine jt_bipush d_GM_equations_51 (by omega) ?_
            refine gct_call (Y := Y_GM_need) (As := [.int (jI 6)]) (rest := []) d_GM_equations_53 GM_c241 yk_GM_need yv_GM_need rfl (Nat.le_of_ble_eq_true rfl) rfl rfl (Nat.le_of_ble_eq_true rfl) (y_GM_need G _ m 6 J B (gT_of hJ hT rfl rfl rfl) hJ.1 hJ.2.1 (by unfold jRi; omega)) (fun rvq614 Iq614 Aq614 hq614 => ?_)
            obtain ⟨rfl, hqq614, hxq614⟩ := hq614
            have hpq614 := gPo.trans hJ hqq614 rfl rfl
            have f1q614 : Iq614 1 = I 1 := hpq614.2.2.1 1 rfl
            have m13q614 : Iq614 13 = J 13 := hqq614.2.2.1 13 rfl
            replace hxq614 : Hd _ := hxq614
            show jt _ 56 [(0, .ref m), (1, .int (jI n))] [] (gmf m f0 Iq614 Aq614) _ _ _
            have e6w : ∀ q, Hd (gW J B q 6 ↔ xW (I 1) (A 22) (A 23) q 6) := fun q => by show xW (J 1) (B 22) (B 23) q 6 ↔ _; rw [f1, hJ.2.2.2 22 rfl, hJ.2.2.2 23 rfl]
            refine jt_aload_n d_GM_equations_56 rfl ?_
            refine gm_gI (k := 5) (v := Iq614 5) d_GM_equations_57 GM_f25 (by decide) rfl ?_
            have rb615 : -13 ≤ Iq614 5 ∧ Iq614 5 ≤ 0 := hpq614.1 5
            refine jt_if_eq (t := 64) d_GM_equations_60 rfl (by unfold jRi; omega) (fun c616 => ?_) (fun c616 => ?_)
            · skip
              have y5 : J 5 = 0 := by omega
              obtain ⟨fs, hn, hql, hrow⟩ := hl y5
              have hok := (EQL_stop hql (by have h9 := gq606; unfold xV at h9; rw [f1, hJ.2.2.2 22 rfl, hJ.2.2.2 23 rfl] at h9; exact h9)).2 (by omega)
              have k6 : Hd (needQ 6 J B Iq614) := hxq614.2.1 y5
              have k4n := (hxq614.1 (by omega)).2
              have w6 : xV (I 1) (A 22) (A 23) (J 4) 6 := by rcases Classical.em (xV (I 1) (A 22) (A 23) (J 4) 6) with x | x; exact x; exact absurd (k6.2 (fun z => x ((e6w _).mp z))).1 (by omega)
              have n15 : Iq614 15 = J 15 := hqq614.2.2.1 15 rfl
              have n30 : Aq614 30 = A 30 ∧ Aq614 31 = A 31 := ⟨by rw [hqq614.2.2.2 30 rfl]; exact f30.1, by rw [hqq614.2.2.2 31 rfl]; exact f30.2⟩
              have n35 : Aq614 35 = B 35 := hqq614.2.2.2 35 rfl
              have k5y := (k5 y5).1
              have q15n : 0 ≤ J 15 ∧ J 15 ≤ 1 := hJ.1 15
              refine jt_aload_n d_GM_equations_64 rfl ?_
              refine gm_gI (k := 4) (v := Iq614 4) d_GM_equations_65 GM_f22 (by decide) rfl ?_
              have rb617 : 0 ≤ Iq614 4 ∧ Iq614 4 ≤ 300 := hpq614.1 4
              refine jt_iconst d_GM_equations_68 ?_
              refine jt_isub d_GM_equations_69 ?_
              refine jt_topi (fun v618 ev618 => ?_)
              refine jt_istore_n (L' := [(0, .ref m), (1, .int (jI n)), (2, .int (jI v618))]) d_GM_equations_70 (Nat.le_of_ble_eq_true rfl) rfl ?_
              refine jt_aload_n d_GM_equations_71 rfl ?_
              refine gm_gI (k := 15) (v := Iq614 15) d_GM_equations_72 GM_f55 (by decide) rfl ?_
              have rb619 : 0 ≤ Iq614 15 ∧ Iq614 15 ≤ 1 := hpq614.1 15
              refine jt_if_eq (t := 85) d_GM_equations_75 rfl (by unfold jRi; omega) (fun c620 => ?_) (fun c620 => ?_)
              · skip
                refine jt_iconst d_GM_equations_85 ?_
                refine jt_istore_n (L' := [(0, .ref m), (1, .int (jI n)), (2, .int (jI v618)), (3, .int (jI 0))]) d_GM_equations_86 (Nat.le_of_ble_eq_true rfl) rfl ?_
                exact l87_GM_equationsy G d m  I A hT hI hA z5 h13 z15 V9 hV hI9 rq hR e9 s9 V8 hE f0 sz n v618 fs (⟨hn, by have h9 := (EQ_say (by rw [hok] at hR; exact hR)).2; omega, by have h9 := n1 y5; omega⟩) ((J 15)) ((by rw [show v618 = J 4 by omega]; exact hok)) ((by rw [show v618 = J 4 by omega]; exact w6)) B hrow ((by omega)) 13 0 Iq614 Aq614 hpq614 (by omega) (by omega) (show Iq614 4 = v618 + 1 ∧ Iq614 15 = J 15 ∧ (J 15 = 0 → Iq614 5 = 0) ∧ (J 15 ≠ 0 → Iq614 5 = -9 ∧ Iq614 6 = v618) by omega) n30 (fun z _ => by rw [n35]) (fun u a c => by omega) (by omega)
              · skip
                refine jt_aload_n d_GM_equations_78 rfl ?_
                refine jt_bipush d_GM_equations_79 (by omega) ?_
                refine jt_iload_n d_GM_equations_81 rfl ?_
                refine gct_call (Y := Y_GM_stop) (As := [.int (jI (-9)), .int (jI v618)]) (rest := []) d_GM_equations_82 GM_c164 yk_GM_stop yv_GM_stop rfl (Nat.le_of_ble_eq_true rfl) rfl rfl (Nat.le_of_ble_eq_true rfl) (c_GM_stop G _ m (-9) v618 Iq614 Aq614) (fun rvq621 Iq621 Aq621 hq621 => ?_)
                obtain ⟨rfl, hIq621, hAq621⟩ := hq621
                rw [hIq621, hAq621]
                have p622 := gPo.I 5 (-9) hpq614 rfl (show -13 ≤ -9 ∧ -9 ≤ 0 by omega)
                have p623 := gPo.I 6 v618 p622 rfl (show -2147483648 ≤ v618 ∧ v618 ≤ 2147483647 by omega)
                show jt _ 85 [(0, .ref m), (1, .int (jI n)), (2, .int (jI v618))] [] (gmf m f0 (va_up (va_up Iq614 5 (-9)) 6 v618) Aq614) _ _ _
                refine jt_iconst d_GM_equations_85 ?_
                refine jt_istore_n (L' := [(0, .ref m), (1, .int (jI n)), (2, .int (jI v618)), (3, .int (jI 0))]) d_GM_equations_86 (Nat.le_of_ble_eq_true rfl) rfl ?_
                exact l87_GM_equationsy G d m  I A hT hI hA z5 h13 z15 V9 hV hI9 rq hR e9 s9 V8 hE f0 sz n v618 fs (⟨hn, by have h9 := (EQ_say (by rw [hok] at hR; exact hR)).2; omega, by have h9 := n1 y5; omega⟩) ((J 15)) ((by rw [show v618 = J 4 by omega]; exact hok)) ((by rw [show v618 = J 4 by omega]; exact w6)) B hrow ((by omega)) 13 0 (va_up (va_up Iq614 5 (-9)) 6 v618) Aq614 p623 (by omega) (by omega) (show Iq614 4 = v618 + 1 ∧ Iq614 15 = J 15 ∧ (J 15 = 0 → -9 = 0) ∧ (J 15 ≠ 0 → -9 = -9 ∧ v618 = v618) by omega) n30 (fun z _ => by rw [n35]) (fun u a c => by omega) (by omega)
            · skip
              exact gm_vret d_GM_equations_63 rfl (by
        refine ⟨rfl, hpq614, fun z => absurd z (by omega), ?_⟩
        have y : J 5 = 0 := by omega
        obtain ⟨fs, hn, hql, hrow⟩ := hl y
        have hok := (EQL_stop hql (by have h9 := gq606; unfold xV at h9; rw [f1, hJ.2.2.2 22 rfl, hJ.2.2.2 23 rfl] at h9; exact h9)).2 (by omega)
        have k6 := hxq614.2.1 y
        rcases Classical.em (xV (I 1) (A 22) (A 23) (J 4) 6) with x | x
        · exact absurd (k6.1 ((e6w _).mpr x)).1 (by omega)
        · have h8 := k6.2 (fun z => x ((e6w _).mp z))
          exact qQ_6 hok x h8.1 h8.2.1 (gSm_e ⟨by rw [hqq614.2.2.2 30 rfl]; exact f30.1, by rw [hqq614.2.2.2 31 rfl]; exact f30.2⟩))
          · skip
            obtain ⟨fs, hn, hql, hrow⟩ := hl (by omega)
            have k5z := k5 (by omega)
            refine jt_aload_n d_GM_equations_27 rfl ?_
            refine jt_iconst d_GM_equations_28 ?_
            refine gct_call (Y := Y_GM_need) (As := [.int (jI 2)]) (rest := []) d_GM_equations_29 GM_c241 yk_GM_need yv_GM_need rfl (Nat.le_of_ble_eq_true rfl) rfl rfl (Nat.le_of_ble_eq_true rfl) (y_GM_need G _ m 2 J B (gT_of hJ hT rfl rfl rfl) hJ.1 hJ.2.1 (by unfold jRi; omega)) (fun rvq624 Iq624 Aq624 hq624 => ?_)
            obtain ⟨rfl, hqq624, hxq624⟩ := hq624
            have hpq624 := gPo.trans hJ hqq624 rfl rfl
            have f1q624 : Iq624 1 = I 1 := hpq624.2.2.1 1 rfl
            have m13q624 : Iq624 13 = J 13 := hqq624.2.2.1 13 rfl
            replace hxq624 : Hd _ := hxq624
            show jt _ 32 [(0, .ref m), (1, .int (jI n))] [] (gmf m f0 Iq624 Aq624) _ _ _
            have nq : Hd (needQ 2 J B Iq624) := hxq624.2.1 (by omega)
            have n5 := (nq.2 gq606)
            refine jt_aload_n d_GM_equations_32 rfl ?_
            refine gm_gI (k := 5) (v := Iq624 5) d_GM_equations_33 GM_f25 (by decide) rfl ?_
            have rb625 : -13 ≤ Iq624 5 ∧ Iq624 5 ≤ 0 := hpq624.1 5
            refine jt_if_ne (t := 44) d_GM_equations_36 rfl (by unfold jRi; omega) (fun c626 => ?_) (fun c626 => ?_)
            · skip
              refine jt_iinc (L' := [(0, .ref m), (1, .int (jI (n + 1)))]) d_GM_equations_44 rfl (Nat.le_of_ble_eq_true rfl) rfl ?_
              refine jt_goto (t := 7) d_GM_equations_47 rfl ?_
              exact ih (n + 1) (t - 1) Iq624 Aq624 hpq624 (by omega) (fun z => absurd z (by omega)) (fun z => absurd z (by omega)) (fun z => absurd z (by omega)) (by omega) (fun z => absurd z (by omega)) (fun _ => by rw [n5.1, n5.2.1]; exact (EQL_stop hql (by have h9 := gq606; unfold xV at h9; rw [f1, hJ.2.2.2 22 rfl, hJ.2.2.2 23 rfl] at h9; exact h9)).1 (by omega)) ⟨by rw [hqq624.2.2.2 30 rfl]; exact f30.1, by rw [hqq624.2.2.2 31 rfl]; exact f30.2⟩ (by omega)
            · skip
              exfalso
              omega
set_option maxRecDepth 100000 in
set_option maxHeartbeats 1000000 in
theorem y_GM_equations (G : jG) (d m : Nat)  (I : Nat → Int) (A : Nat → Int → Int) (hT : gT I A) (hI : gSI I) (hA : gSA A) (z5 : I 5 = 0) (h13 : I 13 = 0) (z15 : I 15 = 0) (V9 : Int → Int → Int) (hV : gVr V9 A) (hI9 : VI (A 30) V9) (rq : FQ) (hR : EQ (I 1) (A 22) (A 23) V9 (I 4) rq) (e9 : Int) (s9 : Int → Int) (V8 : Int → Int → Int) (hE : ∀ (q : Int) (fs : List (Int → Int)) (g : Prop), rq = .ok q fs g → xW (I 1) (A 22) (A 23) q 6 → g → EA fs (A 30) V9 e9 s9 V8) : gct G Y_GM_equations (d + 5) m [] I A (fun (rv : Option Value) (I2 : Nat → Int) (A2 : Nat → Int → Int) => rv = none ∧ gPo [4, 5, 6, 9, 13, 14, 15] [30, 31, 33, 34, 35, 36, 37, 38] I A I2 A2 ∧ (I2 5 = 0 → I 4 < I2 4) ∧ qQ (I 1) (A 22) (A 23) rq e9 s9 V8 A I2 A2) := by
  refine gct_of (by decide) (Nat.le_of_ble_eq_true rfl) (fun f0 sz => ?_)
  show jt _ 0 [(0, .ref m)] [] _ _ _ _
  have r4 : 0 ≤ I 4 ∧ I 4 ≤ 300 := hI 4
  have r5 : -13 ≤ I 5 ∧ I 5 ≤ 0 := hI 5
  have r13 : 0 ≤ I 13 ∧ I 13 ≤ 320 := hI 13
  obtain ⟨r0, hr0, hk1, hk2⟩ := EQ_first hR
  have hz0 : gPo [4, 5, 6, 9, 13, 14, 15] [30, 31, 33, 34, 35, 36, 37, 38] I A I A := gPo.refl hI hA
  have t0 := hT.1
  have t1 := hT.2.1
  refine jt_iconst d_GM_equations_0 ?_
  refine jt_istore_n (L' := [(0, .ref m), (1, .int (jI 1))]) d_GM_equations_1 (Nat.le_of_ble_eq_true rfl) rfl ?_
  refine jt_aload_n d_GM_equations_2 rfl ?_
  refine jt_iconst d_GM_equations_3 ?_
  refine gct_call (Y := Y_GM_expr) (As := [.int (jI 0)]) (rest := []) d_GM_equations_4 GM_c250 yk_GM_expr yv_GM_expr rfl (Nat.le_of_ble_eq_true rfl) rfl rfl (Nat.le_of_ble_eq_true rfl) (x_GM_expr G _ m 0 I A (gT_of hz0 hT rfl rfl rfl) hz0.1 hz0.2.1 (by omega) (by omega) (fun _ => h13) V9 hV True r0 (fun _ => hr0) ⟨fun _ => trivial, fun _ => z15⟩) (fun rvq1 Iq1 Aq1 hq1 => ?_)
  obtain ⟨rfl, hqq1, hxq1⟩ := hq1
  have hpq1 := gPo.trans hz0 hqq1 rfl rfl
  have f1q1 : Iq1 1 = I 1 := hpq1.2.2.1 1 rfl
  replace hxq1 : Hd _ := hxq1
  show jt _ 7 [(0, .ref m), (1, .int (jI 1))] [] (gmf m f0 Iq1 Aq1) _ _ _
  exact l7_GM_equationsy G d m  I A hT hI hA z5 h13 z15 V9 hV hI9 rq hR e9 s9 V8 hE f0 sz  303 1 301 Iq1 Aq1 hpq1 (by omega) (fun z => by have k9 := hxq1.1 z; show 2 * 1 - 1 ≤ Iq1 4; omega) (fun z => by have k9 := hxq1.1 z; omega) (fun z => by have k9 := hxq1.1 z; show 301 - Iq1 4 ≤ 301; omega) (by omega) (fun z => by
      obtain ⟨q9, F9, g9, h1, h2, h3, h4, h5⟩ := (hxq1.2.2.1 z5).1 z
      exact ⟨[F9], rfl, by rw [h2, propext h3]; exact hk1 q9 F9 g9 h1, fun z15 => gRo_1 (fun j a c => h5 (h3.mp z15) j a c)⟩) (fun z => hk2 _ _ ((hxq1.2.2.1 z5).2 z)) ⟨hqq1.2.2.2 30 rfl, hqq1.2.2.2 31 rfl⟩ (by omega)

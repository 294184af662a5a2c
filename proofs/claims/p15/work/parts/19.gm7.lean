/-- the row's tokens from a to b; the body of macro q, its arguments put in; the row behind a replacement -/
def gsg (A : Nat → Int → Int) (a b : Int) : List (Int × Int × Int) := (List.range (b - a).toNat).map (fun j : Nat => (A 22 (a + (j : Int)), A 23 (a + (j : Int)), A 24 (a + (j : Int))))
def gb1 (A : Nat → Int → Int) (c e : Int) : List (Int × Int × Int) := if A 18 c = 2 then gsg A (A 28 (A 19 c)) (A 29 (A 19 c)) else [(A 18 c, A 19 c, e)]
def gbd (A : Nat → Int → Int) (q e : Int) (n : Nat) : List (Int × Int × Int) := (List.range n).flatMap (fun j : Nat => gb1 A (q * 40 + (j : Int)) e)
def gnew (I : Nat → Int) (A : Nat → Int → Int) (k p q : Int) : List (Int × Int × Int) := gsg A 0 k ++ gbd A q (A 24 k + 1) (A 20 q).toNat ++ gsg A p (I 1)
theorem gsg_0 (A : Nat → Int → Int) (a : Int) : gsg A a a = [] := by simp [gsg]
theorem gsg_s (A : Nat → Int → Int) (a b : Int) (h : a ≤ b) : gsg A a (b + 1) = gsg A a b ++ [(A 22 b, A 23 b, A 24 b)] := by
  unfold gsg
  rw [show (b + 1 - a).toNat = (b - a).toNat + 1 by omega, List.range_succ, List.map_append]
  simp only [List.map_cons, List.map_nil]
  rw [show a + (((b - a).toNat : Nat) : Int) = b by omega]
theorem gbd_s (A : Nat → Int → Int) (q e : Int) (c : Int) (h : q * 40 ≤ c) : gbd A q e (c + 1 - q * 40).toNat = gbd A q e (c - q * 40).toNat ++ gb1 A c e := by
  unfold gbd
  rw [show (c + 1 - q * 40).toNat = (c - q * 40).toNat + 1 by omega, List.range_succ, List.flatMap_append]
  simp only [List.flatMap_cons, List.flatMap_nil, List.append_nil]
  rw [show q * 40 + (((c - q * 40).toNat : Nat) : Int) = c by omega]
theorem gl1 (P : List (Int × Int × Int)) (t : Int × Int × Int) : ((P ++ [t]).length : Int) = (P.length : Int) + 1 := by simp

set_option maxRecDepth 100000 in
set_option maxHeartbeats 4000000 in
theorem l192_GM_replace (G : jG) (d m : Nat) (k : Int) (p : Int) (q : Int) (I : Nat → Int) (A : Nat → Int → Int)  (hR : gRw I A) (hr : I 1 ≤ 300) (hd : ∀ j, 0 ≤ j → j < I 1 → 0 ≤ A 24 j ∧ A 24 j ≤ 6) (k0 : 0 ≤ k) (k1 : k < I 1) (p0 : k < p) (p1 : p ≤ I 1) (q0 : 0 ≤ q) (q1 : q ≤ 5) (s0 : 0 ≤ A 20 q) (s1 : A 20 q ≤ 40) (hb : ∀ c, q * 40 ≤ c → c < q * 40 + A 20 q → gtok (A 18 c) (A 19 c) ∧ (A 18 c = 2 → 0 ≤ A 28 (A 19 c) ∧ A 28 (A 19 c) ≤ A 29 (A 19 c) ∧ A 29 (A 19 c) ≤ I 1)) (f0 : jF) (sz : Nat) (e : Int) : ∀ (n9 : Nat) (i : Int) (n : Int) (X : Int → Int) (Y : Int → Int) (Z : Int → Int), (e = A 24 k + 1) → (p ≤ i) → (i ≤ I 1) → (0 ≤ n) → (n ≤ 12700 + i) → (((gsg A 0 k ++ gbd A q e (A 20 q).toNat ++ gsg A p i).length : Int) = n) → (gH X Y Z (gsg A 0 k ++ gbd A q e (A 20 q).toNat ++ gsg A p i)) → I 1 - i < (n9 : Int) → jt (jm G Y_GM_replace (gR (d + 1)) (gQ m f0 sz (fun (rv : Option Value) (I2 : Nat → Int) (A2 : Nat → Int → Int) => rv = some (.int (jI ((gnew I A k p q).length : Int))) ∧ I2 = I ∧ ((gnew I A k p q).length : Int) ≤ 13000 ∧ ∃ X Y Z : Int → Int, A2 = va_up (va_up (va_up A 25 X) 26 Y) 27 Z ∧ gH X Y Z (gnew I A k p q)))) 192 [(0, .ref m), (1, .int (jI k)), (2, .int (jI p)), (3, .int (jI q)), (4, .int (jI n)), (5, .int (jI e)), (6, .int (jI i))] [] (gmf m f0 I (va_up (va_up (va_up A 25 X) 26 Y) 27 Z)) sz 0 0 := by
  obtain ⟨r0, r1, rt⟩ := id hR
  intro n9
  induction n9 with
  | zero =>
    intro i n X Y Z he i0 i1 n0 n1 hn hH hmeas
    exfalso
    omega
  | succ n9 ih =>
    intro i n X Y Z he i0 i1 n0 n1 hn hH hmeas
    refine jt_iload d_GM_replace_192 rfl ?_
    refine jt_aload_n d_GM_replace_194 rfl ?_
    refine gm_gI (k := 1) (v := I 1) d_GM_replace_195 GM_f13 (by decide) rfl ?_
    refine jt_icmp_ge (t := 236) d_GM_replace_198 rfl (by unfold jRi; omega) (by unfold jRi; omega) (fun c101 => ?_) (fun c101 => ?_)
    · skip
      refine jt_iload d_GM_replace_236 rfl ?_
      exact gm_ret d_GM_replace_238 rfl rfl (by
    obtain rfl : i = I 1 := by omega
    subst he
    exact ⟨by rw [← hn]; rfl, rfl, by unfold gnew; omega, X, Y, Z, rfl, hH⟩)
    · skip
      have q5 := rt i (by omega) (by omega)
      unfold gtok at q5
      have q6 := hd i (by omega) (by omega)
      refine jt_aload_n d_GM_replace_201 rfl ?_
      refine jt_iload d_GM_replace_202 rfl ?_
      refine jt_aload_n d_GM_replace_204 rfl ?_
      refine gm_gA (k := 22) (a := m + 7) d_GM_replace_205 GM_f78 (by decide) (by decide) rfl ?_
      refine jt_iload d_GM_replace_208 rfl ?_
      refine gm_ld0 (k := 22) (n := 700) (v := (A 22) i) d_GM_replace_210 rfl (by decide) (by decide) rfl rfl (by omega) (by omega) (by omega) rfl ?_
      refine jt_aload_n d_GM_replace_211 rfl ?_
      refine gm_gA (k := 23) (a := m + 8) d_GM_replace_212 GM_f81 (by decide) (by decide) rfl ?_
      refine jt_iload d_GM_replace_215 rfl ?_
      refine gm_ld0 (k := 23) (n := 700) (v := (A 23) i) d_GM_replace_217 rfl (by decide) (by decide) rfl rfl (by omega) (by omega) (by omega) rfl ?_
      refine jt_aload_n d_GM_replace_218 rfl ?_
      refine gm_gA (k := 24) (a := m + 9) d_GM_replace_219 GM_f84 (by decide) (by decide) rfl ?_
      refine jt_iload d_GM_replace_222 rfl ?_
      refine gm_ld0 (k := 24) (n := 700) (v := (A 24) i) d_GM_replace_224 rfl (by decide) (by decide) rfl rfl (by omega) (by omega) (by omega) rfl ?_
      refine gct_call (Y := Y_GM_putToken) (As := [.int (jI n), .int (jI ((A 22) i)), .int (jI ((A 23) i)), .int (jI ((A 24) i))]) (rest := []) d_GM_replace_225 GM_c160 yk_GM_putToken yv_GM_putToken rfl (Nat.le_of_ble_eq_true rfl) rfl rfl (Nat.le_of_ble_eq_true rfl) (c_GM_putToken G _ m n ((A 22) i) ((A 23) i) ((A 24) i) I (va_up (va_up (va_up A 25 X) 26 Y) 27 Z) (by omega) (by unfold jRi; omega)) (fun rvq102 Iq102 Aq102 hq102 => ?_)
      obtain ⟨rfl, hIq102, Xq102, Yq102, Zq102, hAq102, hHq102⟩ := hq102
      rw [hIq102, hAq102]
      refine gm_eA (B := va_up (va_up (va_up A 25 Xq102) 26 Yq102) 27 Zq102) (g3c _ _ _ _ _ _ _) ?_
      show jt _ 228 [(0, .ref m), (1, .int (jI k)), (2, .int (jI p)), (3, .int (jI q)), (4, .int (jI n)), (5, .int (jI e)), (6, .int (jI i))] [.int (jI (n + 1))] (gmf m f0 I (va_up (va_up (va_up A 25 Xq102) 26 Yq102) 27 Zq102)) _ _ _
      refine jt_topi (fun v103 ev103 => ?_)
      refine jt_istore (L' := [(0, .ref m), (1, .int (jI k)), (2, .int (jI p)), (3, .int (jI q)), (4, .int (jI v103)), (5, .int (jI e)), (6, .int (jI i))]) d_GM_replace_228 (Nat.le_of_ble_eq_true rfl) rfl ?_
      refine jt_iinc (L' := [(0, .ref m), (1, .int (jI k)), (2, .int (jI p)), (3, .int (jI q)), (4, .int (jI v103)), (5, .int (jI e)), (6, .int (jI (i + 1)))]) d_GM_replace_230 rfl (Nat.le_of_ble_eq_true rfl) rfl ?_
      refine jt_goto (t := 192) d_GM_replace_233 rfl ?_
      refine ih _ _ _ _ _ he (by omega) (by omega) (by omega) (by omega) ?_ ?_ (by omega)
      · rw [gsg_s A p i i0, ← List.append_assoc, gl1, hn, ev103]
      · rw [gsg_s A p i i0, ← List.append_assoc]
        exact hHq102 _ hn hH
set_option maxRecDepth 100000 in
set_option maxHeartbeats 4000000 in
theorem l131_GM_replace (G : jG) (d m : Nat) (k : Int) (p : Int) (q : Int) (I : Nat → Int) (A : Nat → Int → Int)  (hR : gRw I A) (hr : I 1 ≤ 300) (hd : ∀ j, 0 ≤ j → j < I 1 → 0 ≤ A 24 j ∧ A 24 j ≤ 6) (k0 : 0 ≤ k) (k1 : k < I 1) (p0 : k < p) (p1 : p ≤ I 1) (q0 : 0 ≤ q) (q1 : q ≤ 5) (s0 : 0 ≤ A 20 q) (s1 : A 20 q ≤ 40) (hb : ∀ c, q * 40 ≤ c → c < q * 40 + A 20 q → gtok (A 18 c) (A 19 c) ∧ (A 18 c = 2 → 0 ≤ A 28 (A 19 c) ∧ A 28 (A 19 c) ≤ A 29 (A 19 c) ∧ A 29 (A 19 c) ≤ I 1)) (f0 : jF) (sz : Nat) (i e a b N0 : Int) (P : List (Int × Int × Int)) (c0 : q * 40 ≤ i) (c1 : i < q * 40 + A 20 q) (ea : A 28 (A 19 i) = a) (eb : A 29 (A 19 i) = b) (a0 : 0 ≤ a) (ab : a ≤ b) (b1 : b ≤ I 1) (v0 : 0 ≤ A 19 i) (v1 : A 19 i ≤ 2) (N1 : N0 ≤ 12700) (hout : ∀ (n : Int) (X Y Z : Int → Int), 0 ≤ n → n ≤ N0 + b → ((P ++ gsg A a b).length : Int) = n → gH X Y Z (P ++ gsg A a b) → jt (jm G Y_GM_replace (gR (d + 1)) (gQ m f0 sz (fun (rv : Option Value) (I2 : Nat → Int) (A2 : Nat → Int → Int) => rv = some (.int (jI ((gnew I A k p q).length : Int))) ∧ I2 = I ∧ ((gnew I A k p q).length : Int) ≤ 13000 ∧ ∃ X Y Z : Int → Int, A2 = va_up (va_up (va_up A 25 X) 26 Y) 27 Z ∧ gH X Y Z (gnew I A k p q)))) 63 [(0, .ref m), (1, .int (jI k)), (2, .int (jI p)), (3, .int (jI q)), (4, .int (jI n)), (5, .int (jI e)), (6, .int (jI (i + 1)))] [] (gmf m f0 I (va_up (va_up (va_up A 25 X) 26 Y) 27 Z)) sz 0 0) : ∀ (n9 : Nat) (j : Int) (n : Int) (X : Int → Int) (Y : Int → Int) (Z : Int → Int), (a ≤ j) → (j ≤ b) → (0 ≤ n) → (n ≤ N0 + j) → (((P ++ gsg A a j).length : Int) = n) → (gH X Y Z (P ++ gsg A a j)) → b - j < (n9 : Int) → jt (jm G Y_GM_replace (gR (d + 1)) (gQ m f0 sz (fun (rv : Option Value) (I2 : Nat → Int) (A2 : Nat → Int → Int) => rv = some (.int (jI ((gnew I A k p q).length : Int))) ∧ I2 = I ∧ ((gnew I A k p q).length : Int) ≤ 13000 ∧ ∃ X Y Z : Int → Int, A2 = va_up (va_up (va_up A 25 X) 26 Y) 27 Z ∧ gH X Y Z (gnew I A k p q)))) 131 [(0, .ref m), (1, .int (jI k)), (2, .int (jI p)), (3, .int (jI q)), (4, .int (jI n)), (5, .int (jI e)), (6, .int (jI i)), (7, .int (jI j))] [] (gmf m f0 I (va_up (va_up (va_up A 25 X) 26 Y) 27 Z)) sz 0 0 := by
  obtain ⟨r0, r1, rt⟩ := id hR
  intro n9
  induction n9 with
  | zero =>
    intro j n X Y Z j0 j1 n0 n1 hn hH hmeas
    exfalso
    omega
  | succ n9 ih =>
    intro j n X Y Z j0 j1 n0 n1 hn hH hmeas
    refine jt_iload d_GM_replace_131 rfl ?_
    refine jt_aload_n d_GM_replace_133 rfl ?_
    refine gm_gA (k := 29) (a := m + 14) d_GM_replace_134 GM_f99 (by decide) (by decide) rfl ?_
    refine jt_aload_n d_GM_replace_137 rfl ?_
    refine gm_gA (k := 19) (a := m + 4) d_GM_replace_138 GM_f69 (by decide) (by decide) rfl ?_
    refine jt_iload d_GM_replace_141 rfl ?_
    refine gm_ld0 (k := 19) (n := 240) (v := (A 19) i) d_GM_replace_143 rfl (by decide) (by decide) rfl rfl (by omega) (by omega) (by omega) rfl ?_
    refine gm_ld0 (k := 29) (n := 3) (v := (A 29) ((A 19) i)) d_GM_replace_144 rfl (by decide) (by decide) rfl rfl (by omega) (by omega) (by omega) rfl ?_
    refine jt_icmp_ge (t := 183) d_GM_replace_145 rfl (by unfold jRi; omega) (by unfold jRi; omega) (fun c201 => ?_) (fun c201 => ?_)
    · skip
      refine jt_iinc (L' := [(0, .ref m), (1, .int (jI k)), (2, .int (jI p)), (3, .int (jI q)), (4, .int (jI n)), (5, .int (jI e)), (6, .int (jI (i + 1))), (7, .int (jI j))]) d_GM_replace_183 rfl (Nat.le_of_ble_eq_true rfl) rfl ?_
      refine jt_goto (t := 63) d_GM_replace_186 rfl ?_
      refine jt_sub (L' := [(0, .ref m), (1, .int (jI k)), (2, .int (jI p)), (3, .int (jI q)), (4, .int (jI n)), (5, .int (jI e)), (6, .int (jI (i + 1)))]) (fun _ h => List.mem_append_left [(7, Value.int (jI j))] h) ?_
      obtain rfl : j = b := by omega
      exact hout _ _ _ _ n0 n1 hn hH
    · skip
      have q5 := rt j (by omega) (by omega)
      unfold gtok at q5
      have q6 := hd j (by omega) (by omega)
      refine jt_aload_n d_GM_replace_148 rfl ?_
      refine jt_iload d_GM_replace_149 rfl ?_
      refine jt_aload_n d_GM_replace_151 rfl ?_
      refine gm_gA (k := 22) (a := m + 7) d_GM_replace_152 GM_f78 (by decide) (by decide) rfl ?_
      refine jt_iload d_GM_replace_155 rfl ?_
      refine gm_ld0 (k := 22) (n := 700) (v := (A 22) j) d_GM_replace_157 rfl (by decide) (by decide) rfl rfl (by omega) (by omega) (by omega) rfl ?_
      refine jt_aload_n d_GM_replace_158 rfl ?_
      refine gm_gA (k := 23) (a := m + 8) d_GM_replace_159 GM_f81 (by decide) (by decide) rfl ?_
      refine jt_iload d_GM_replace_162 rfl ?_
      refine gm_ld0 (k := 23) (n := 700) (v := (A 23) j) d_GM_replace_164 rfl (by decide) (by decide) rfl rfl (by omega) (by omega) (by omega) rfl ?_
      refine jt_aload_n d_GM_replace_165 rfl ?_
      refine gm_gA (k := 24) (a := m + 9) d_GM_replace_166 GM_f84 (by decide) (by decide) rfl ?_
      refine jt_iload d_GM_replace_169 rfl ?_
      refine gm_ld0 (k := 24) (n := 700) (v := (A 24) j) d_GM_replace_171 rfl (by decide) (by decide) rfl rfl (by omega) (by omega) (by omega) rfl ?_
      refine gct_call (Y := Y_GM_putToken) (As := [.int (jI n), .int (jI ((A 22) j)), .int (jI ((A 23) j)), .int (jI ((A 24) j))]) (rest := []) d_GM_replace_172 GM_c160 yk_GM_putToken yv_GM_putToken rfl (Nat.le_of_ble_eq_true rfl) rfl rfl (Nat.le_of_ble_eq_true rfl) (c_GM_putToken G _ m n ((A 22) j) ((A 23) j) ((A 24) j) I (va_up (va_up (va_up A 25 X) 26 Y) 27 Z) (by omega) (by unfold jRi; omega)) (fun rvq202 Iq202 Aq202 hq202 => ?_)
      obtain ⟨rfl, hIq202, Xq202, Yq202, Zq202, hAq202, hHq202⟩ := hq202
      rw [hIq202, hAq202]
      refine gm_eA (B := va_up (va_up (va_up A 25 Xq202) 26 Yq202) 27 Zq202) (g3c _ _ _ _ _ _ _) ?_
      show jt _ 175 [(0, .ref m), (1, .int (jI k)), (2, .int (jI p)), (3, .int (jI q)), (4, .int (jI n)), (5, .int (jI e)), (6, .int (jI i)), (7, .int (jI j))] [.int (jI (n + 1))] (gmf m f0 I (va_up (va_up (va_up A 25 Xq202) 26 Yq202) 27 Zq202)) _ _ _
      refine jt_topi (fun v203 ev203 => ?_)
      refine jt_istore (L' := [(0, .ref m), (1, .int (jI k)), (2, .int (jI p)), (3, .int (jI q)), (4, .int (jI v203)), (5, .int (jI e)), (6, .int (jI i)), (7, .int (jI j))]) d_GM_replace_175 (Nat.le_of_ble_eq_true rfl) rfl ?_
      refine jt_iinc (L' := [(0, .ref m), (1, .int (jI k)), (2, .int (jI p)), (3, .int (jI q)), (4, .int (jI v203)), (5, .int (jI e)), (6, .int (jI i)), (7, .int (jI (j + 1)))]) d_GM_replace_177 rfl (Nat.le_of_ble_eq_true rfl) rfl ?_
      refine jt_goto (t := 131) d_GM_replace_180 rfl ?_
      refine ih _ _ _ _ _ (by omega) (by omega) (by omega) (by omega) ?_ ?_ (by omega)
      · rw [gsg_s A a j j0, ← List.append_assoc, gl1, hn, ev203]
      · rw [gsg_s A a j j0, ← List.append_assoc]
        exact hHq202 _ hn hH
set_option maxRecDepth 100000 in
set_option maxHeartbeats 4000000 in
theorem l63_GM_replace (G : jG) (d m : Nat) (k : Int) (p : Int) (q : Int) (I : Nat → Int) (A : Nat → Int → Int)  (hR : gRw I A) (hr : I 1 ≤ 300) (hd : ∀ j, 0 ≤ j → j < I 1 → 0 ≤ A 24 j ∧ A 24 j ≤ 6) (k0 : 0 ≤ k) (k1 : k < I 1) (p0 : k < p) (p1 : p ≤ I 1) (q0 : 0 ≤ q) (q1 : q ≤ 5) (s0 : 0 ≤ A 20 q) (s1 : A 20 q ≤ 40) (hb : ∀ c, q * 40 ≤ c → c < q * 40 + A 20 q → gtok (A 18 c) (A 19 c) ∧ (A 18 c = 2 → 0 ≤ A 28 (A 19 c) ∧ A 28 (A 19 c) ≤ A 29 (A 19 c) ∧ A 29 (A 19 c) ≤ I 1)) (f0 : jF) (sz : Nat) (e : Int) : ∀ (n9 : Nat) (i : Int) (n : Int) (X : Int → Int) (Y : Int → Int) (Z : Int → Int), (e = A 24 k + 1) → (q * 40 ≤ i) → (i ≤ q * 40 + A 20 q) → (0 ≤ n) → (n ≤ 300 + (i - q * 40) * 300) → (((gsg A 0 k ++ gbd A q e (i - q * 40).toNat).length : Int) = n) → (gH X Y Z (gsg A 0 k ++ gbd A q e (i - q * 40).toNat)) → q * 40 + A 20 q - i < (n9 : Int) → jt (jm G Y_GM_replace (gR (d + 1)) (gQ m f0 sz (fun (rv : Option Value) (I2 : Nat → Int) (A2 : Nat → Int → Int) => rv = some (.int (jI ((gnew I A k p q).length : Int))) ∧ I2 = I ∧ ((gnew I A k p q).length : Int) ≤ 13000 ∧ ∃ X Y Z : Int → Int, A2 = va_up (va_up (va_up A 25 X) 26 Y) 27 Z ∧ gH X Y Z (gnew I A k p q)))) 63 [(0, .ref m), (1, .int (jI k)), (2, .int (jI p)), (3, .int (jI q)), (4, .int (jI n)), (5, .int (jI e)), (6, .int (jI i))] [] (gmf m f0 I (va_up (va_up (va_up A 25 X) 26 Y) 27 Z)) sz 0 0 := by
  obtain ⟨r0, r1, rt⟩ := id hR
  intro n9
  induction n9 with
  | zero =>
    intro i n X Y Z he i0 i1 n0 n1 hn hH hmeas
    exfalso
    omega
  | succ n9 ih =>
    intro i n X Y Z he i0 i1 n0 n1 hn hH hmeas
    refine jt_iload d_GM_replace_63 rfl ?_
    refine jt_iload_n d_GM_replace_65 rfl ?_
    refine jt_bipush d_GM_replace_66 (by omega) ?_
    refine jt_imul d_GM_replace_68 ?_
    refine jt_aload_n d_GM_replace_69 rfl ?_
    refine gm_gA (k := 20) (a := m + 5) d_GM_replace_70 GM_f72 (by decide) (by decide) rfl ?_
    refine jt_iload_n d_GM_replace_73 rfl ?_
    refine gm_ld0 (k := 20) (n := 6) (v := (A 20) q) d_GM_replace_74 rfl (by decide) (by decide) rfl rfl (by omega) (by omega) (by omega) rfl ?_
    refine jt_iadd d_GM_replace_75 ?_
    refine jt_icmp_ge (t := 189) d_GM_replace_76 rfl (by unfold jRi; omega) (by unfold jRi; omega) (fun c301 => ?_) (fun c301 => ?_)
    · skip
      refine jt_iload_n d_GM_replace_189 rfl ?_
      refine jt_istore (L' := [(0, .ref m), (1, .int (jI k)), (2, .int (jI p)), (3, .int (jI q)), (4, .int (jI n)), (5, .int (jI e)), (6, .int (jI p))]) d_GM_replace_190 (Nat.le_of_ble_eq_true rfl) rfl ?_
      obtain rfl : i = q * 40 + A 20 q := by omega
      rw [show (q * 40 + A 20 q - q * 40).toNat = (A 20 q).toNat by congr 1; omega] at hn hH
      have hn2 := hn
      have hH2 := hH
      refine l192_GM_replace G d m k p q I A  hR hr hd k0 k1 p0 p1 q0 q1 s0 s1 hb f0 sz _ 301 _ _ _ _ _ he (by omega) (by omega) (by omega) (by omega) ?_ ?_ (by omega)
      · rw [gsg_0, List.append_nil]; exact hn2
      · rw [gsg_0, List.append_nil]; exact hH2
    · skip
      have q7 := hb i (by omega) (by omega)
      have q8 := q7.1
      unfold gtok at q8
      refine jt_aload_n d_GM_replace_79 rfl ?_
      refine gm_gA (k := 18) (a := m + 3) d_GM_replace_80 GM_f66 (by decide) (by decide) rfl ?_
      refine jt_iload d_GM_replace_83 rfl ?_
      refine gm_ld0 (k := 18) (n := 240) (v := (A 18) i) d_GM_replace_85 rfl (by decide) (by decide) rfl rfl (by omega) (by omega) (by omega) rfl ?_
      refine jt_iconst d_GM_replace_86 ?_
      refine jt_icmp_eq (t := 117) d_GM_replace_87 rfl (by unfold jRi; omega) (by unfold jRi; omega) (fun c302 => ?_) (fun c302 => ?_)
      · skip
        have q9 := q7.2 (by omega)
        refine jt_aload_n d_GM_replace_117 rfl ?_
        refine gm_gA (k := 28) (a := m + 13) d_GM_replace_118 GM_f96 (by decide) (by decide) rfl ?_
        refine jt_aload_n d_GM_replace_121 rfl ?_
        refine gm_gA (k := 19) (a := m + 4) d_GM_replace_122 GM_f69 (by decide) (by decide) rfl ?_
        refine jt_iload d_GM_replace_125 rfl ?_
        refine gm_ld0 (k := 19) (n := 240) (v := (A 19) i) d_GM_replace_127 rfl (by decide) (by decide) rfl rfl (by omega) (by omega) (by omega) rfl ?_
        refine gm_ld0 (k := 28) (n := 3) (v := (A 28) ((A 19) i)) d_GM_replace_128 rfl (by decide) (by decide) rfl rfl (by omega) (by omega) (by omega) rfl ?_
        refine jt_topi (fun v303 ev303 => ?_)
        refine jt_istore (L' := [(0, .ref m), (1, .int (jI k)), (2, .int (jI p)), (3, .int (jI q)), (4, .int (jI n)), (5, .int (jI e)), (6, .int (jI i)), (7, .int (jI v303))]) d_GM_replace_129 (Nat.le_of_ble_eq_true rfl) rfl ?_
        refine l131_GM_replace G d m k p q I A  hR hr hd k0 k1 p0 p1 q0 q1 s0 s1 hb f0 sz i e (A 28 (A 19 i)) (A 29 (A 19 i)) (n - A 28 (A 19 i)) (gsg A 0 k ++ gbd A q e (i - q * 40).toNat) (by omega) (by omega) rfl rfl (by omega) (by omega) (by omega) (by omega) (by omega) (by omega) (fun n2 X2 Y2 Z2 m0 m1 mn mh => ?_) 301 _ _ _ _ _ (by omega) (by omega) (by omega) (by omega) ?_ ?_ (by omega)
        · refine ih _ _ _ _ _ he (by omega) (by omega) (by omega) (by omega) ?_ ?_ (by omega)
          · rw [gbd_s A q e i i0, gb1, if_pos (by omega), ← List.append_assoc]; exact mn
          · rw [gbd_s A q e i i0, gb1, if_pos (by omega), ← List.append_assoc]; exact mh
        · rw [ev303, gsg_0, List.append_nil]; exact hn
        · rw [ev303, gsg_0, List.append_nil]; exact hH
      · skip
        refine jt_aload_n d_GM_replace_90 rfl ?_
        refine jt_iload d_GM_replace_91 rfl ?_
        refine jt_aload_n d_GM_replace_93 rfl ?_
        refine gm_gA (k := 18) (a := m + 3) d_GM_replace_94 GM_f66 (by decide) (by decide) rfl ?_
        refine jt_iload d_GM_replace_97 rfl ?_
        refine gm_ld0 (k := 18) (n := 240) (v := (A 18) i) d_GM_replace_99 rfl (by decide) (by decide) rfl rfl (by omega) (by omega) (by omega) rfl ?_
        refine jt_aload_n d_GM_replace_100 rfl ?_
        refine gm_gA (k := 19) (a := m + 4) d_GM_replace_101 GM_f69 (by decide) (by decide) rfl ?_
        refine jt_iload d_GM_replace_104 rfl ?_
        refine gm_ld0 (k := 19) (n := 240) (v := (A 19) i) d_GM_replace_106 rfl (by decide) (by decide) rfl rfl (by omega) (by omega) (by omega) rfl ?_
        refine jt_iload d_GM_replace_107 rfl ?_
        refine gct_call (Y := Y_GM_putToken) (As := [.int (jI n), .int (jI ((A 18) i)), .int (jI ((A 19) i)), .int (jI e)]) (rest := []) d_GM_replace_109 GM_c160 yk_GM_putToken yv_GM_putToken rfl (Nat.le_of_ble_eq_true rfl) rfl rfl (Nat.le_of_ble_eq_true rfl) (c_GM_putToken G _ m n ((A 18) i) ((A 19) i) e I (va_up (va_up (va_up A 25 X) 26 Y) 27 Z) (by omega) (by unfold jRi; omega)) (fun rvq304 Iq304 Aq304 hq304 => ?_)
        obtain ⟨rfl, hIq304, Xq304, Yq304, Zq304, hAq304, hHq304⟩ := hq304
        rw [hIq304, hAq304]
        refine gm_eA (B := va_up (va_up (va_up A 25 Xq304) 26 Yq304) 27 Zq304) (g3c _ _ _ _ _ _ _) ?_
        show jt _ 112 [(0, .ref m), (1, .int (jI k)), (2, .int (jI p)), (3, .int (jI q)), (4, .int (jI n)), (5, .int (jI e)), (6, .int (jI i))] [.int (jI (n + 1))] (gmf m f0 I (va_up (va_up (va_up A 25 Xq304) 26 Yq304) 27 Zq304)) _ _ _
        refine jt_topi (fun v305 ev305 => ?_)
        refine jt_istore (L' := [(0, .ref m), (1, .int (jI k)), (2, .int (jI p)), (3, .int (jI q)), (4, .int (jI v305)), (5, .int (jI e)), (6, .int (jI i))]) d_GM_replace_112 (Nat.le_of_ble_eq_true rfl) rfl ?_
        refine jt_goto (t := 183) d_GM_replace_114 rfl ?_
        refine jt_iinc (L' := [(0, .ref m), (1, .int (jI k)), (2, .int (jI p)), (3, .int (jI q)), (4, .int (jI v305)), (5, .int (jI e)), (6, .int (jI (i + 1)))]) d_GM_replace_183 rfl (Nat.le_of_ble_eq_true rfl) rfl ?_
        refine jt_goto (t := 63) d_GM_replace_186 rfl ?_
        refine ih _ _ _ _ _ he (by omega) (by omega) (by omega) (by omega) ?_ ?_ (by omega)
        · rw [gbd_s A q e i i0, gb1, if_neg (by omega), ← List.append_assoc, gl1, hn, ev305]
        · rw [gbd_s A q e i i0, gb1, if_neg (by omega), ← List.append_assoc]
          exact hHq304 _ hn hH
set_option maxRecDepth 100000 in
set_option maxHeartbeats 4000000 in
theorem l16_GM_replace (G : jG) (d m : Nat) (k : Int) (p : Int) (q : Int) (I : Nat → Int) (A : Nat → Int → Int)  (hR : gRw I A) (hr : I 1 ≤ 300) (hd : ∀ j, 0 ≤ j → j < I 1 → 0 ≤ A 24 j ∧ A 24 j ≤ 6) (k0 : 0 ≤ k) (k1 : k < I 1) (p0 : k < p) (p1 : p ≤ I 1) (q0 : 0 ≤ q) (q1 : q ≤ 5) (s0 : 0 ≤ A 20 q) (s1 : A 20 q ≤ 40) (hb : ∀ c, q * 40 ≤ c → c < q * 40 + A 20 q → gtok (A 18 c) (A 19 c) ∧ (A 18 c = 2 → 0 ≤ A 28 (A 19 c) ∧ A 28 (A 19 c) ≤ A 29 (A 19 c) ∧ A 29 (A 19 c) ≤ I 1)) (f0 : jF) (sz : Nat) (e : Int) : ∀ (n9 : Nat) (i : Int) (n : Int) (X : Int → Int) (Y : Int → Int) (Z : Int → Int), (e = A 24 k + 1) → (0 ≤ i) → (i ≤ k) → (((gsg A 0 i).length : Int) = n) → (n = i) → (gH X Y Z (gsg A 0 i)) → k - i < (n9 : Int) → jt (jm G Y_GM_replace (gR (d + 1)) (gQ m f0 sz (fun (rv : Option Value) (I2 : Nat → Int) (A2 : Nat → Int → Int) => rv = some (.int (jI ((gnew I A k p q).length : Int))) ∧ I2 = I ∧ ((gnew I A k p q).length : Int) ≤ 13000 ∧ ∃ X Y Z : Int → Int, A2 = va_up (va_up (va_up A 25 X) 26 Y) 27 Z ∧ gH X Y Z (gnew I A k p q)))) 16 [(0, .ref m), (1, .int (jI k)), (2, .int (jI p)), (3, .int (jI q)), (4, .int (jI n)), (5, .int (jI e)), (6, .int (jI i))] [] (gmf m f0 I (va_up (va_up (va_up A 25 X) 26 Y) 27 Z)) sz 0 0 := by
  obtain ⟨r0, r1, rt⟩ := id hR
  intro n9
  induction n9 with
  | zero =>
    intro i n X Y Z he i0 i1 hn ni hH hmeas
    exfalso
    omega
  | succ n9 ih =>
    intro i n X Y Z he i0 i1 hn ni hH hmeas
    refine jt_iload d_GM_replace_16 rfl ?_
    refine jt_iload_n d_GM_replace_18 rfl ?_
    refine jt_icmp_ge (t := 57) d_GM_replace_19 rfl (by unfold jRi; omega) (by unfold jRi; omega) (fun c401 => ?_) (fun c401 => ?_)
    · skip
      refine jt_iload_n d_GM_replace_57 rfl ?_
      refine jt_bipush d_GM_replace_58 (by omega) ?_
      refine jt_imul d_GM_replace_60 ?_
      refine jt_topi (fun v402 ev402 => ?_)
      refine jt_istore (L' := [(0, .ref m), (1, .int (jI k)), (2, .int (jI p)), (3, .int (jI q)), (4, .int (jI n)), (5, .int (jI e)), (6, .int (jI v402))]) d_GM_replace_61 (Nat.le_of_ble_eq_true rfl) rfl ?_
      refine l63_GM_replace G d m k p q I A  hR hr hd k0 k1 p0 p1 q0 q1 s0 s1 hb f0 sz _ 42 _ _ _ _ _ he (by omega) (by omega) (by omega) (by omega) ?_ ?_ (by omega)
      · rw [ev402, show (q * 40 - q * 40).toNat = 0 by omega, show k = i by omega]; simpa [gbd] using hn
      · rw [ev402, show (q * 40 - q * 40).toNat = 0 by omega, show k = i by omega]; simpa [gbd] using hH
    · skip
      have q5 := rt i (by omega) (by omega)
      unfold gtok at q5
      have q6 := hd i (by omega) (by omega)
      refine jt_aload_n d_GM_replace_22 rfl ?_
      refine jt_iload d_GM_replace_23 rfl ?_
      refine jt_aload_n d_GM_replace_25 rfl ?_
      refine gm_gA (k := 22) (a := m + 7) d_GM_replace_26 GM_f78 (by decide) (by decide) rfl ?_
      refine jt_iload d_GM_replace_29 rfl ?_
      refine gm_ld0 (k := 22) (n := 700) (v := (A 22) i) d_GM_replace_31 rfl (by decide) (by decide) rfl rfl (by omega) (by omega) (by omega) rfl ?_
      refine jt_aload_n d_GM_replace_32 rfl ?_
      refine gm_gA (k := 23) (a := m + 8) d_GM_replace_33 GM_f81 (by decide) (by decide) rfl ?_
      refine jt_iload d_GM_replace_36 rfl ?_
      refine gm_ld0 (k := 23) (n := 700) (v := (A 23) i) d_GM_replace_38 rfl (by decide) (by decide) rfl rfl (by omega) (by omega) (by omega) rfl ?_
      refine jt_aload_n d_GM_replace_39 rfl ?_
      refine gm_gA (k := 24) (a := m + 9) d_GM_replace_40 GM_f84 (by decide) (by decide) rfl ?_
      refine jt_iload d_GM_replace_43 rfl ?_
      refine gm_ld0 (k := 24) (n := 700) (v := (A 24) i) d_GM_replace_45 rfl (by decide) (by decide) rfl rfl (by omega) (by omega) (by omega) rfl ?_
      refine gct_call (Y := Y_GM_putToken) (As := [.int (jI n), .int (jI ((A 22) i)), .int (jI ((A 23) i)), .int (jI ((A 24) i))]) (rest := []) d_GM_replace_46 GM_c160 yk_GM_putToken yv_GM_putToken rfl (Nat.le_of_ble_eq_true rfl) rfl rfl (Nat.le_of_ble_eq_true rfl) (c_GM_putToken G _ m n ((A 22) i) ((A 23) i) ((A 24) i) I (va_up (va_up (va_up A 25 X) 26 Y) 27 Z) (by omega) (by unfold jRi; omega)) (fun rvq403 Iq403 Aq403 hq403 => ?_)
      obtain ⟨rfl, hIq403, Xq403, Yq403, Zq403, hAq403, hHq403⟩ := hq403
      rw [hIq403, hAq403]
      refine gm_eA (B := va_up (va_up (va_up A 25 Xq403) 26 Yq403) 27 Zq403) (g3c _ _ _ _ _ _ _) ?_
      show jt _ 49 [(0, .ref m), (1, .int (jI k)), (2, .int (jI p)), (3, .int (jI q)), (4, .int (jI n)), (5, .int (jI e)), (6, .int (jI i))] [.int (jI (n + 1))] (gmf m f0 I (va_up (va_up (va_up A 25 Xq403) 26 Yq403) 27 Zq403)) _ _ _
      refine jt_topi (fun v404 ev404 => ?_)
      refine jt_istore (L' := [(0, .ref m), (1, .int (jI k)), (2, .int (jI p)), (3, .int (jI q)), (4, .int (jI v404)), (5, .int (jI e)), (6, .int (jI i))]) d_GM_replace_49 (Nat.le_of_ble_eq_true rfl) rfl ?_
      refine jt_iinc (L' := [(0, .ref m), (1, .int (jI k)), (2, .int (jI p)), (3, .int (jI q)), (4, .int (jI v404)), (5, .int (jI e)), (6, .int (jI (i + 1)))]) d_GM_replace_51 rfl (Nat.le_of_ble_eq_true rfl) rfl ?_
      refine jt_goto (t := 16) d_GM_replace_54 rfl ?_
      refine ih _ _ _ _ _ he (by omega) (by omega) ?_ (by omega) ?_ (by omega)
      · rw [gsg_s A 0 i i0, gl1, hn, ev404]
      · rw [gsg_s A 0 i i0]
        exact hHq403 _ hn hH
set_option maxRecDepth 100000 in
set_option maxHeartbeats 4000000 in
theorem c_GM_replace (G : jG) (d m : Nat) (k : Int) (p : Int) (q : Int) (I : Nat → Int) (A : Nat → Int → Int)  (hR : gRw I A) (hr : I 1 ≤ 300) (hd : ∀ j, 0 ≤ j → j < I 1 → 0 ≤ A 24 j ∧ A 24 j ≤ 6) (k0 : 0 ≤ k) (k1 : k < I 1) (p0 : k < p) (p1 : p ≤ I 1) (q0 : 0 ≤ q) (q1 : q ≤ 5) (s0 : 0 ≤ A 20 q) (s1 : A 20 q ≤ 40) (hb : ∀ c, q * 40 ≤ c → c < q * 40 + A 20 q → gtok (A 18 c) (A 19 c) ∧ (A 18 c = 2 → 0 ≤ A 28 (A 19 c) ∧ A 28 (A 19 c) ≤ A 29 (A 19 c) ∧ A 29 (A 19 c) ≤ I 1)) : gct G Y_GM_replace (d + 1) m [.int (jI k), .int (jI p), .int (jI q)] I A (fun (rv : Option Value) (I2 : Nat → Int) (A2 : Nat → Int → Int) => rv = some (.int (jI ((gnew I A k p q).length : Int))) ∧ I2 = I ∧ ((gnew I A k p q).length : Int) ≤ 13000 ∧ ∃ X Y Z : Int → Int, A2 = va_up (va_up (va_up A 25 X) 26 Y) 27 Z ∧ gH X Y Z (gnew I A k p q)) := by
  refine gct_of (by decide) (Nat.le_of_ble_eq_true rfl) (fun f0 sz => ?_)
  show jt _ 0 [(0, .ref m), (1, .int (jI k)), (2, .int (jI p)), (3, .int (jI q))] [] _ _ _ _
  obtain ⟨r0, r1, rt⟩ := id hR
  refine jt_iconst d_GM_replace_0 ?_
  refine jt_istore (L' := [(0, .ref m), (1, .int (jI k)), (2, .int (jI p)), (3, .int (jI q)), (4, .int (jI 0))]) d_GM_replace_1 (Nat.le_of_ble_eq_true rfl) rfl ?_
  refine jt_aload_n d_GM_replace_3 rfl ?_
  refine gm_gA (k := 24) (a := m + 9) d_GM_replace_4 GM_f84 (by decide) (by decide) rfl ?_
  refine jt_iload_n d_GM_replace_7 rfl ?_
  refine gm_ld0 (k := 24) (n := 700) (v := (A 24) k) d_GM_replace_8 rfl (by decide) (by decide) rfl rfl (by omega) (by omega) (by omega) rfl ?_
  refine jt_iconst d_GM_replace_9 ?_
  refine jt_iadd d_GM_replace_10 ?_
  refine jt_topi (fun v1 ev1 => ?_)
  refine jt_istore (L' := [(0, .ref m), (1, .int (jI k)), (2, .int (jI p)), (3, .int (jI q)), (4, .int (jI 0)), (5, .int (jI v1))]) d_GM_replace_11 (Nat.le_of_ble_eq_true rfl) rfl ?_
  refine jt_iconst d_GM_replace_13 ?_
  refine jt_istore (L' := [(0, .ref m), (1, .int (jI k)), (2, .int (jI p)), (3, .int (jI q)), (4, .int (jI 0)), (5, .int (jI v1)), (6, .int (jI 0))]) d_GM_replace_14 (Nat.le_of_ble_eq_true rfl) rfl ?_
  refine gm_eA (B := va_up (va_up (va_up A 25 (A 25)) 26 (A 26)) 27 (A 27)) (g3i A) ?_
  exact l16_GM_replace G d m k p q I A  hR hr hd k0 k1 p0 p1 q0 q1 s0 s1 hb f0 sz _ 301 _ _ _ _ _ ev1 (by omega) (by omega) (by rw [gsg_0]; rfl) rfl (fun i t h => by rw [gsg_0] at h; simp at h) (by omega)

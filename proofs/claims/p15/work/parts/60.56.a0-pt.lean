/-! PAINTING: the pieces of a path out of its numbers (N, in 16ths) and its legs (0 a line, else a curve); windings -/
abbrev Pc := Int × Int × Int × Int
def pco (N : Int → Int) (k i : Int) : Int := N (2 * k + i) * 512
def pbd (N : Int → Int) (k i t : Int) : Int := (8 - t) * (8 - t) * (8 - t) * N (2 * k + i) + 3 * (8 - t) * (8 - t) * t * N (2 * k + 2 + i) + 3 * (8 - t) * t * t * N (2 * k + 4 + i) + t * t * t * N (2 * k + 6 + i)
def pbp (N : Int → Int) (k t : Int) : Pc := (pbd N k 0 t, pbd N k 1 t, pbd N k 0 (t + 1), pbd N k 1 (t + 1))
def pbs (N : Int → Int) (k : Int) (n : Nat) : List Pc := (List.range n).map (fun (t : Nat) => pbp N k (t : Int))
def plp (N : Int → Int) (k : Int) : Pc := (pco N k 0, pco N k 1, pco N (k + 1) 0, pco N (k + 1) 1)
def plg (N : Int → Int) (k b : Int) : List Pc := if b = 0 then [plp N k] else pbs N k 8
def pnx (k b : Int) : Int := if b = 0 then k + 1 else k + 3
/-- where the legs end, and the pieces of the legs -/
def pke : List Int → Int → Int
  | [], k => k
  | b :: L, k => pke L (pnx k b)
def ple (N : Int → Int) : List Int → Int → List Pc
  | [], _ => []
  | b :: L, k => plg N k b ++ ple N L (pnx k b)
def pls (N : Int → Int) (L : List Int) : List Pc := ple N L 0 ++ [(pco N (pke L 0) 0, pco N (pke L 0) 1, pco N 0 0, pco N 0 1)]
def psd (x y : Int) (t : Pc) : Int := (t.2.2.1 - t.1) * (y - t.2.1) - (x - t.1) * (t.2.2.2 - t.2.1)
/-- what a piece adds to the winding number at (x, y) -/
def pwd (x y : Int) (t : Pc) : Int := if t.2.1 ≤ y ∧ y < t.2.2.2 then (if 0 < psd x y t then 1 else 0) else if t.2.2.2 ≤ y ∧ y < t.2.1 then (if psd x y t < 0 then -1 else 0) else 0
def pwn (x y : Int) : List Pc → Int
  | [] => 0
  | t :: P => pwd x y t + pwn x y P
def pmd (i : Int) : Int := i * 8192 + 4096
/-- the picture P2 behind a painting of P with colour f -/
def ptd (f : Int) (Ps : List Pc) (P P2 : Int → Int) : Prop := ∀ z, 0 ≤ z → z < 768 → P2 z = if pwn (pmd (z % 32)) (pmd (z / 32)) Ps = 0 then P z else f
/-- the same, up to point m -/
def ptq (f : Int) (Ps : List Pc) (P P2 : Int → Int) (m : Int) : Prop := ∀ z, 0 ≤ z → z < 768 → (z < m → P2 z = if pwn (pmd (z % 32)) (pmd (z / 32)) Ps = 0 then P z else f) ∧ (m ≤ z → P2 z = P z)
theorem ptq_0 (f : Int) (Ps : List Pc) (P : Int → Int) : ptq f Ps P P 0 := fun z z0 z1 => ⟨fun h => by omega, fun _ => rfl⟩
theorem ptq_e {f : Int} {Ps : List Pc} {P P2 : Int → Int} (h : ptq f Ps P P2 768) : ptd f Ps P P2 := fun z z0 z1 => (h z z0 z1).1 z1
theorem ptq_y {f j i : Int} {Ps : List Pc} {P P2 : Int → Int} (h : ptq f Ps P P2 (j * 32 + i)) (i0 : 0 ≤ i) (i1 : i < 32) (hw : pwn (pmd i) (pmd j) Ps ≠ 0) : ptq f Ps P (ju P2 (j * 32 + i) f) (j * 32 + (i + 1)) := by
  intro z z0 z1
  obtain ⟨a, b⟩ := h z z0 z1
  refine ⟨fun c => ?_, fun c => ?_⟩
  · by_cases e : z = j * 32 + i
    · rw [e, ju_self, show (j * 32 + i) % 32 = i by omega, show (j * 32 + i) / 32 = j by omega, if_neg hw]
    · rw [ju_ne _ _ e]; exact a (by omega)
  · rw [ju_ne _ _ (by omega)]; exact b (by omega)
theorem ptq_n {f j i : Int} {Ps : List Pc} {P P2 : Int → Int} (h : ptq f Ps P P2 (j * 32 + i)) (i0 : 0 ≤ i) (i1 : i < 32) (hw : pwn (pmd i) (pmd j) Ps = 0) : ptq f Ps P P2 (j * 32 + (i + 1)) := by
  intro z z0 z1
  obtain ⟨a, b⟩ := h z z0 z1
  refine ⟨fun c => ?_, fun c => b (by omega)⟩
  by_cases e : z = j * 32 + i
  · rw [b (by omega), e, show (j * 32 + i) % 32 = i by omega, show (j * 32 + i) / 32 = j by omega, if_pos hw]
  · exact a (by omega)
section PTS
variable {N : Int → Int} {k i t b x y : Int} {P Q Ps : List Pc} {L : List Int}
theorem pwn_a : pwn x y (P ++ Q) = pwn x y P + pwn x y Q := by
  induction P with
  | nil => show pwn x y Q = 0 + pwn x y Q; omega
  | cons t P ih =>
    show pwd x y t + pwn x y (P ++ Q) = pwd x y t + pwn x y P + pwn x y Q
    rw [ih]
    omega
theorem pwd_r (x y : Int) (t : Pc) : -1 ≤ pwd x y t ∧ pwd x y t ≤ 1 := by
  unfold pwd
  split
  · split <;> decide
  · split
    · split <;> decide
    · decide
theorem pwn_r (x y : Int) (P : List Pc) : -(P.length : Int) ≤ pwn x y P ∧ pwn x y P ≤ (P.length : Int) := by
  induction P with
  | nil => exact ⟨by show -((0 : Nat) : Int) ≤ 0; decide, by show (0 : Int) ≤ ((0 : Nat) : Int); decide⟩
  | cons t P ih =>
    have h := pwd_r x y t
    show -((P.length + 1 : Nat) : Int) ≤ pwd x y t + pwn x y P ∧ pwd x y t + pwn x y P ≤ ((P.length + 1 : Nat) : Int)
    omega
theorem pwn_t {n : Nat} {t : Pc} (h : Ps[n]? = some t) : pwn x y (Ps.take (n + 1)) = pwn x y (Ps.take n) + pwd x y t := by
  rw [List.take_succ, h, pwn_a]
  show _ + (pwd x y t + 0) = _
  omega
theorem psd_s (x x2 y : Int) (t : Pc) : psd x2 y t = psd x y t - (x2 - x) * (t.2.2.2 - t.2.1) := by
  unfold psd
  rw [show x2 - t.1 = (x - t.1) + (x2 - x) by omega, Int.add_mul]
  omega
/-- a piece counts for the points on one side of it alone -/
theorem pwd_m {x2 : Int} {t : Pc} (h : x ≤ x2) (h0 : pwd x y t = 0) : pwd x2 y t = 0 := by
  have e := psd_s x x2 y t
  unfold pwd at h0 ⊢
  by_cases c : t.2.1 ≤ y ∧ y < t.2.2.2
  · rw [if_pos c] at h0 ⊢
    have m : 0 ≤ (x2 - x) * (t.2.2.2 - t.2.1) := Int.mul_nonneg (by omega) (by omega)
    by_cases q : 0 < psd x y t
    · rw [if_pos q] at h0; omega
    · rw [if_neg (by omega)]
  · rw [if_neg c] at h0 ⊢
    by_cases c2 : t.2.2.2 ≤ y ∧ y < t.2.1
    · rw [if_pos c2] at h0 ⊢
      have m : 0 ≤ (x2 - x) * (t.2.1 - t.2.2.2) := Int.mul_nonneg (by omega) (by omega)
      have m2 : (x2 - x) * (t.2.1 - t.2.2.2) = -((x2 - x) * (t.2.2.2 - t.2.1)) := by rw [← Int.mul_neg]; congr 1; omega
      by_cases q : psd x y t < 0
      · rw [if_pos q] at h0; omega
      · rw [if_neg (by omega)]
    · rw [if_neg c2]
theorem pbd_0 : pbd N k i 0 = pco N k i := by
  unfold pbd pco
  omega
theorem pbd_8 : pbd N k i 8 = pco N (k + 3) i := by
  unfold pbd pco
  rw [show 2 * (k + 3) + i = 2 * k + 6 + i by omega]
  omega
/-- numbers of a path -/
def pnr (N : Int → Int) : Prop := ∀ z, 0 ≤ z → z < 74 → -512 ≤ N z ∧ N z ≤ 1536
theorem pco_b (h : pnr N) (h0 : 0 ≤ 2 * k + i) (h1 : 2 * k + i < 74) : -262144 ≤ pco N k i ∧ pco N k i ≤ 786432 := by
  have := h _ h0 h1
  unfold pco
  omega
theorem pbd_b (h : pnr N) (h0 : 0 ≤ k) (i0 : 0 ≤ i) (h1 : 2 * k + 6 + i < 74) (t0 : 0 ≤ t) (t8 : t ≤ 8) : -262144 ≤ pbd N k i t ∧ pbd N k i t ≤ 786432 := by
  have a1 := h (2 * k + i) (by omega) (by omega)
  have a2 := h (2 * k + 2 + i) (by omega) (by omega)
  have a3 := h (2 * k + 4 + i) (by omega) (by omega)
  have a4 := h (2 * k + 6 + i) (by omega) (by omega)
  unfold pbd
  generalize N (2 * k + i) = n1 at a1 ⊢
  generalize N (2 * k + 2 + i) = n2 at a2 ⊢
  generalize N (2 * k + 4 + i) = n3 at a3 ⊢
  generalize N (2 * k + 6 + i) = n4 at a4 ⊢
  have ht : t = 0 ∨ t = 1 ∨ t = 2 ∨ t = 3 ∨ t = 4 ∨ t = 5 ∨ t = 6 ∨ t = 7 ∨ t = 8 := by omega
  rcases ht with rfl | rfl | rfl | rfl | rfl | rfl | rfl | rfl | rfl <;> omega
theorem pbs_s (N : Int → Int) (k : Int) (n : Nat) : pbs N k (n + 1) = pbs N k n ++ [pbp N k (n : Int)] := by
  unfold pbs
  rw [List.range_succ, List.map_append]
  rfl
theorem pbs_l (N : Int → Int) (k : Int) (n : Nat) : (pbs N k n).length = n := by simp [pbs]
theorem ple_a (L M : List Int) (k : Int) : ple N (L ++ M) k = ple N L k ++ ple N M (pke L k) := by
  induction L generalizing k with
  | nil => rfl
  | cons b L ih =>
    show plg N k b ++ ple N (L ++ M) (pnx k b) = (plg N k b ++ ple N L (pnx k b)) ++ ple N M (pke L (pnx k b))
    rw [ih, List.append_assoc]
theorem pke_a (L M : List Int) (k : Int) : pke (L ++ M) k = pke M (pke L k) := by
  induction L generalizing k with
  | nil => rfl
  | cons b L ih => exact ih (pnx k b)
theorem pke_n (L : List Int) (k : Int) : pke L k ≤ k + 3 * (L.length : Int) ∧ k ≤ pke L k ∧ (aLg L → 2 * (pke L k - k) = (nLg L : Int)) := by
  induction L generalizing k with
  | nil => exact ⟨by show k ≤ k + 3 * ((0 : Nat) : Int); omega, Int.le_refl _, fun _ => by show 2 * (k - k) = ((0 : Nat) : Int); omega⟩
  | cons b L ih =>
    obtain ⟨h1, h2, h3⟩ := ih (pnx k b)
    show pke L (pnx k b) ≤ k + 3 * ((L.length + 1 : Nat) : Int) ∧ k ≤ pke L (pnx k b) ∧ (aLg (b :: L) → 2 * (pke L (pnx k b) - k) = (((if b = 0 then 2 else 6) + nLg L : Nat) : Int))
    by_cases c : b = 0
    · have e : pnx k b = k + 1 := if_pos c
      rw [e] at h1 h2 h3 ⊢
      rw [if_pos c]
      refine ⟨by omega, by omega, fun h => ?_⟩
      have := h3 (fun x hx => h x (List.mem_cons_of_mem _ hx))
      omega
    · have e : pnx k b = k + 3 := if_neg c
      rw [e] at h1 h2 h3 ⊢
      rw [if_neg c]
      refine ⟨by omega, by omega, fun h => ?_⟩
      have := h3 (fun x hx => h x (List.mem_cons_of_mem _ hx))
      omega
theorem ple_l (L : List Int) (k : Int) : (ple N L k).length ≤ 8 * L.length := by
  induction L generalizing k with
  | nil => exact Nat.le_refl 0
  | cons b L ih =>
    show (plg N k b ++ ple N L (pnx k b)).length ≤ 8 * (L.length + 1)
    rw [List.length_append]
    have h := ih (pnx k b)
    have h2 : (plg N k b).length ≤ 8 := by
      unfold plg
      split
      · show 1 ≤ 8; omega
      · rw [pbs_l]; exact Nat.le_refl 8
    omega
/-- coordinates of pieces -/
def pin (t : Pc) : Prop := (-262144 ≤ t.1 ∧ t.1 ≤ 786432) ∧ (-262144 ≤ t.2.1 ∧ t.2.1 ≤ 786432) ∧ (-262144 ≤ t.2.2.1 ∧ t.2.2.1 ≤ 786432) ∧ (-262144 ≤ t.2.2.2 ∧ t.2.2.2 ≤ 786432)
theorem ple_in (h : pnr N) (L : List Int) (k : Int) (k0 : 0 ≤ k) (k1 : 2 * pke L k + 1 < 74) : ∀ t, t ∈ ple N L k → pin t := by
  induction L generalizing k with
  | nil => intro t ht; cases ht
  | cons b L ih =>
    intro t ht
    have hk : 2 * pke L (pnx k b) + 1 < 74 := k1
    have hm := (pke_n L (pnx k b)).2.1
    rcases List.mem_append.mp ht with z | z
    · unfold plg at z
      by_cases c : b = 0
      · have e : pnx k b = k + 1 := if_pos c
        rw [e] at hm hk
        rw [if_pos c] at z
        rw [List.mem_singleton.mp z]
        exact ⟨pco_b h (by omega) (by omega), pco_b h (by omega) (by omega), pco_b h (by omega) (by omega), pco_b h (by omega) (by omega)⟩
      · have e : pnx k b = k + 3 := if_neg c
        rw [e] at hm hk
        rw [if_neg c] at z
        unfold pbs at z
        obtain ⟨n, hn, rfl⟩ := List.mem_map.mp z
        have hn := List.mem_range.mp hn
        exact ⟨pbd_b h k0 (by omega) (by omega) (by omega) (by omega), pbd_b h k0 (by omega) (by omega) (by omega) (by omega), pbd_b h k0 (by omega) (by omega) (by omega) (by omega), pbd_b h k0 (by omega) (by omega) (by omega) (by omega)⟩
    · refine ih (pnx k b) ?_ hk t z
      unfold pnx
      split <;> omega
theorem pls_in (h : pnr N) (L : List Int) (k1 : 2 * pke L 0 + 1 < 74) : ∀ t, t ∈ pls N L → pin t := by
  intro t ht
  have hm := (pke_n L 0).2.1
  rcases List.mem_append.mp ht with z | z
  · exact ple_in h L 0 (by omega) k1 t z
  · rw [List.mem_singleton.mp z]
    exact ⟨pco_b h (by omega) (by omega), pco_b h (by omega) (by omega), pco_b h (by omega) (by omega), pco_b h (by omega) (by omega)⟩
end PTS
theorem pke_t {L : List Int} {n : Nat} {b : Int} (h : L[n]? = some b) (k : Int) : pke (L.take (n + 1)) k = pnx (pke (L.take n) k) b := by
  rw [List.take_succ, h, pke_a]
  rfl
theorem ple_t {N : Int → Int} {L : List Int} {n : Nat} {b : Int} (h : L[n]? = some b) (k : Int) : ple N (L.take (n + 1)) k = ple N (L.take n) k ++ plg N (pke (L.take n) k) b := by
  rw [List.take_succ, h, ple_a]
  show _ ++ (plg N _ b ++ []) = _
  rw [List.append_nil]
theorem pke_le (L : List Int) (n : Nat) (k : Int) : pke (L.take n) k ≤ pke L k := by
  have e : pke L k = pke (L.drop n) (pke (L.take n) k) := by rw [← pke_a, List.take_append_drop]
  rw [e]
  exact (pke_n _ _).2.1
/-- the numbers of forms -/
def pN (fs : List (Int → Int)) : Int → Int := fun z => (fs[z.toNat]?.getD (fun _ => 0)) 12 / 4096
theorem pN_e {fs : List (Int → Int)} {z : Int} {F : Int → Int} (h : fs[z.toNat]? = some F) : pN fs z = F 12 / 4096 := by
  unfold pN
  rw [h]
  rfl
/-! rows of pieces: the reference's four arrays; the class's points -/
def gPc (F G H K : Int → Int) (Ps : List Pc) : Prop := ∀ (n : Nat) (t : Pc), Ps[n]? = some t → F (n : Int) = t.1 ∧ G (n : Int) = t.2.1 ∧ H (n : Int) = t.2.2.1 ∧ K (n : Int) = t.2.2.2
theorem gPc_0 (F G H K : Int → Int) : gPc F G H K [] := fun n t h => by simp at h
theorem gPc_s {F G H K : Int → Int} {Ps : List Pc} {n a b c d : Int} (h : gPc F G H K Ps) (hn : n = (Ps.length : Int)) : gPc (ju F n a) (ju G n b) (ju H n c) (ju K n d) (Ps ++ [(a, b, c, d)]) := by
  intro m t ht
  subst hn
  by_cases e : m < Ps.length
  · rw [List.getElem?_append_left e] at ht
    have k := h m t ht
    rw [ju_ne _ _ (by omega), ju_ne _ _ (by omega), ju_ne _ _ (by omega), ju_ne _ _ (by omega)]
    exact k
  · rw [List.getElem?_append_right (by omega)] at ht
    by_cases e2 : m = Ps.length
    · subst e2
      rw [Nat.sub_self] at ht
      have ht : some (a, b, c, d) = some t := ht
      cases ht
      exact ⟨ju_self _ _ _, ju_self _ _ _, ju_self _ _ _, ju_self _ _ _⟩
    · rw [List.getElem?_eq_none (by simp; omega)] at ht
      cases ht
/-- the points behind the pieces Ps; the last one is (p, q) -/
def gPt (X Y : Int → Int) (n : Int) (Ps : List Pc) (p q : Int) : Prop := n = (Ps.length : Int) + 1 ∧ gPc X Y (fun z => X (z + 1)) (fun z => Y (z + 1)) Ps ∧ X (n - 1) = p ∧ Y (n - 1) = q
theorem gPt_0 {X Y : Int → Int} {x y : Int} : gPt (ju X 0 x) (ju Y 0 y) 1 [] x y := ⟨rfl, gPc_0 _ _ _ _, ju_self _ _ _, ju_self _ _ _⟩
theorem gPt_s {X Y : Int → Int} {n p q x y : Int} {Ps : List Pc} (h : gPt X Y n Ps p q) : gPt (ju X n x) (ju Y n y) (n + 1) (Ps ++ [(p, q, x, y)]) x y := by
  obtain ⟨hn, hc, h1, h2⟩ := h
  refine ⟨by rw [List.length_append, hn]; show (Ps.length : Int) + 1 + 1 = ((Ps.length + 1 : Nat) : Int) + 1; omega, ?_, by rw [show n + 1 - 1 = n by omega]; exact ju_self _ _ _, by rw [show n + 1 - 1 = n by omega]; exact ju_self _ _ _⟩
  intro m t ht
  by_cases e : m < Ps.length
  · rw [List.getElem?_append_left e] at ht
    obtain ⟨k1, k2, k3, k4⟩ := hc m t ht
    show ju X n x (m : Int) = t.1 ∧ ju Y n y (m : Int) = t.2.1 ∧ ju X n x ((m : Int) + 1) = t.2.2.1 ∧ ju Y n y ((m : Int) + 1) = t.2.2.2
    rw [ju_ne _ _ (by omega), ju_ne _ _ (by omega), ju_ne _ _ (by omega), ju_ne _ _ (by omega)]
    exact ⟨k1, k2, k3, k4⟩
  · rw [List.getElem?_append_right (by omega)] at ht
    by_cases e2 : m = Ps.length
    · subst e2
      rw [Nat.sub_self] at ht
      have ht : some (p, q, x, y) = some t := ht
      cases ht
      show ju X n x (Ps.length : Int) = p ∧ ju Y n y (Ps.length : Int) = q ∧ ju X n x ((Ps.length : Int) + 1) = x ∧ ju Y n y ((Ps.length : Int) + 1) = y
      rw [ju_ne _ _ (by omega), ju_ne _ _ (by omega), ← hn, ju_self, ju_self]
      rw [show (Ps.length : Int) = n - 1 by omega]
      exact ⟨h1, h2, rfl, rfl⟩
    · rw [List.getElem?_eq_none (by simp; omega)] at ht
      cases ht
/-- a product of numbers of a picture -/
theorem sd_m {u v s : Int} (hu : -2097152 ≤ u ∧ u ≤ 2097152) (hv : -2097152 ≤ v ∧ v ≤ 2097152) (hs : -9223372036854775808 ≤ s ∧ s ≤ 9223372036854775807) (e : (s - u * v) % 18446744073709551616 = 0) : s = u * v ∧ -4398046511104 ≤ u * v ∧ u * v ≤ 4398046511104 := by
  have m := mulB (s := u) (x := v) 2097152 2097152 (by omega) (by omega) (by omega) (by omega)
  generalize u * v = z at e m ⊢
  omega
theorem pwd_t {x y t n8 : Int} {t9 : Pc} (h0 : (t = 1 ∧ t9.2.1 ≤ y ∧ y < t9.2.2.2) ∨ (t = -1 ∧ ¬ (t9.2.1 ≤ y ∧ y < t9.2.2.2) ∧ t9.2.2.2 ≤ y ∧ y < t9.2.1) ∨ (t = 0 ∧ ¬ (t9.2.1 ≤ y ∧ y < t9.2.2.2) ∧ ¬ (t9.2.2.2 ≤ y ∧ y < t9.2.1))) (hne : ¬ t = 0) (h1 : t = 1 → n8 = psd x y t9) (h2 : t = -1 → n8 = -psd x y t9) : (0 < n8 → pwd x y t9 = t) ∧ (¬ 0 < n8 → pwd x y t9 = 0) := by
  unfold pwd
  rcases h0 with ⟨z, za, zb⟩ | ⟨z, zn, za, zb⟩ | ⟨z, _⟩
  · have q := h1 z
    rw [if_pos ⟨za, zb⟩]
    exact ⟨fun h => by rw [if_pos (by omega)]; omega, fun h => by rw [if_neg (by omega)]⟩
  · have q := h2 z
    rw [if_neg zn, if_pos ⟨za, zb⟩]
    exact ⟨fun h => by rw [if_pos (by omega)]; omega, fun h => by rw [if_neg (by omega)]⟩
  · exact absurd z hne

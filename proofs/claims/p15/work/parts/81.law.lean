/-! THE LAW'S WALK: the script is read, the two objects are made, call after call -/
def sc (xs : Nat → Int32) (z : Int) : Int := (xs z.toNat).toInt
theorem sc_r (xs : Nat → Int32) (z : Int) : -2147483648 ≤ sc xs z ∧ sc xs z ≤ 2147483647 := jRi_of _
theorem gsw (c : Nat) (f : jF) (I : Nat → Nat → Int) (A : Nat → Int → Int) (J : Nat → Int) (B : Nat → Int → Int) : gmf (c + 472) (cmf c f I A) J B = cmf c (gmf (c + 472) f J B) I A := by
  funext q
  unfold gmf cmf
  show _ = (if c ≤ q ∧ q < c + 472 then some (cc c I A (q - c)) else (if q = c + 472 then some (jOb 8 (gmo (c + 472) J)) else if c + 472 < q ∧ q ≤ c + 472 + 30 then some (gmc (q - (c + 472) + 15) (B (q - (c + 472) + 15))) else f q))
  by_cases h1 : q = c + 472
  · rw [if_pos h1, if_neg (by omega), if_pos h1]
  · rw [if_neg h1]
    by_cases h2 : c + 472 < q ∧ q ≤ c + 472 + 30
    · rw [if_pos h2, if_neg (by omega), if_neg h1, if_pos h2]
    · rw [if_neg h2]
      by_cases h3 : c ≤ q ∧ q < c + 472
      · rw [if_pos h3, if_pos h3]
      · rw [if_neg h3, if_neg h3, if_neg h1, if_neg h2]
section LAW
variable {G : jG} {b L : Nat} {xs : Nat → Int32} {pc : Nat} {Lc : jLs} {st : List Value} {f : jF} {sz ce sl c : Nat} {I : Nat → Nat → Int} {A : Nat → Int → Int} {J : Nat → Int} {B : Nat → Int → Int}
theorem jt_sld {z : Int} (hd : decode code pc = .ok (.iaload, 1)) (h0 : 0 ≤ z) (h1 : z < (L : Int)) (hL : L ≤ 1536) (k : jt (lK G b L xs) (pc + 1) Lc (.int (jI (sc xs z)) :: st) f sz ce sl) : jt (lK G b L xs) pc Lc (.int (jI z) :: .ref b :: st) f sz ce sl := by
  intro p e s m args below meth c H locs ls C X hs hP hS hl
  have hz : jRi z := ⟨by omega, by omega⟩
  have hX : args = #[Value.ref b] ∧ va_X b L xs s s.heap ∧ b < s.heap.size ∧ gb G = s.heap.size := X
  refine va_sld (A := fun q => gb G ≤ q) C.1 C.2.1 hX.2.1 hX.2.2.1 (fun h => by have h : gb G ≤ b := h; omega) hS (jI_in h0 h1 (by omega)) hd ?_
  have h := k p e s m args below meth c H locs ls C X hs hP hS hl
  unfold sc at h
  rw [← jI_of] at h
  rw [jI_nat hz]
  exact h
theorem jt_slen (hd : decode code pc = .ok (.arraylength, 1)) (k : jt (lK G b L xs) (pc + 1) Lc (.int (jI (L : Int)) :: st) f sz ce sl) : jt (lK G b L xs) pc Lc (.ref b :: st) f sz ce sl := by
  intro p e s m args below meth c H locs ls C X hs hP hS hl
  have hX : args = #[Value.ref b] ∧ va_X b L xs s s.heap ∧ b < s.heap.size ∧ gb G = s.heap.size := X
  refine va_slen (A := fun q => gb G ≤ q) C.1 C.2.1 hX.2.1 hX.2.2.1 (fun h => by have h : gb G ≤ b := h; omega) hS hd ?_
  exact k p e s m args below meth c H locs ls C X hs hP hS hl
theorem jt_pop2l {v : Value} (hd : decode code pc = .ok (.pop2, 1)) (h : v.category = 2) (k : jt (lK G b L xs) (pc + 1) Lc st f sz ce sl) : jt (lK G b L xs) pc Lc (v :: st) f sz ce sl :=
  jt_pu (fun _ _ _ _ _ _ _ _ _ _ _ _ _ _ C _ w => lv_pop2_2 C.1 C.2.1 hd h w) k
theorem la_end (hd : decode code pc = .ok (.ireturn, 1)) (hce : ce ≤ 600000) (hsl : sl ≤ 7302250) : jt (lK G b L xs) pc Lc [.int (jI 1)] f sz ce sl := by
  intro p e s m args below meth c H locs ls C X hs hP hS hl
  have hX : args = #[Value.ref b] ∧ va_X b L xs s s.heap ∧ b < s.heap.size ∧ gb G = s.heap.size := X
  obtain ⟨rfl, -, -, hgb⟩ := hX
  refine va_forget (fun q hq => by have h1 : gb G ≤ q.base := hS.2.2 q hq; omega) ?_
  have hr := lw_ret (p := p) (l := gl G) (e := e) (s := s) (m := m) (below := below) (meth := meth) (c := c) (b := b) (pc := pc) (H := H) (ls := ls) C.1 C.2.1 C.2.2.2.1 C.2.2.2.2.2.2.1 hd
  exact fun T hT Xs => hr T hT { Xs with same := Xs.same.weaken (fun y hy _ => hy) hce hsl }
theorem la_C {Y : jY} {d n i N : Nat} {T : u_T} {As rest : List Value} {Qc : Option Value → (Nat → Nat → Int) → (Nat → Int → Int) → Prop} (hd : decode code pc = .ok (.invokevirtual i, 3)) (hk : jLk "GlyphCompilerLaw" i Y) (hy : jYok Y n) (hv : Cond.instanceMethod (yN Y) ∈ jTs ∧ Cond.selects (yN Y).cls (yN Y) (yN Y) ∈ jTs) (hc : jCl[7]? = some ((yN Y).cls, T, N)) (hL : yL Y ≤ 21) (hn : As.length = n) (hst : st = As.reverse ++ .ref c :: rest) (hcat : (rest.map fun v => v.category).sum ≤ 8) (hd1 : d ≤ 100) (hce : ce ≤ 600000) (hsl : sl ≤ 7302250)
    (hM : cct G Y d c (.ref (c + 0) :: As) I A Qc) (kk : ∀ (rv : Option Value) (I' : Nat → Nat → Int) (A' : Nat → Int → Int), Qc rv I' A' → jt (lK G b L xs) (pc + 3) Lc (rv.toList ++ rest) (gmf (c + 472) (cmf c f I' A') J B) sz ce sl) : jt (lK G b L xs) pc Lc st (gmf (c + 472) (cmf c f I A) J B) sz ce sl := by
  refine jt_fe (gsw c f I A J B) rfl ?_
  refine jt_callV (ci := 7) (b := c) (rm := gR d) (T := T) (N := N) hd hk hy hv hc (show cmf c (gmf (c + 472) f J B) I A (c + 0) = _ by rw [cmf_at c _ I A (by decide), cc_0]) hn hst hcat (show d + 1 ≤ 2048 by omega) (show 8 + (yL Y + 11) + d * 40 ≤ 84000 by omega) (show ce + 0 ≤ 600000 by omega) (show sl + 0 ≤ 7302250 by omega) (hM (gmf (c + 472) f J B) sz) ?_
  intro rv f' sz' hq
  obtain ⟨I', A', rfl, rfl, hq⟩ := hq
  refine jt_fe (gsw c f I' A' J B).symm rfl ?_
  exact kk rv I' A' hq
theorem la_G {Y : jY} {d n i : Nat} {As rest : List Value} {Qg : Option Value → (Nat → Int) → (Nat → Int → Int) → Prop} {g : jF} {m : Nat} (hd : decode code pc = .ok (.invokevirtual i, 3)) (hk : jLk "GlyphCompilerLaw" i Y) (hy : jYok Y n) (hv : Cond.instanceMethod (yN Y) ∈ jTs ∧ Cond.selects (yN Y).cls (yN Y) (yN Y) ∈ jTs) (hc : (yN Y).cls = "GlyphCompilerModel") (hL : yL Y ≤ 21) (hn : As.length = n) (hst : st = As.reverse ++ .ref m :: rest) (hcat : (rest.map fun v => v.category).sum ≤ 8) (hd1 : d ≤ 100) (hce : ce ≤ 600000) (hsl : sl ≤ 7302250)
    (hM : gct G Y d m As J B Qg) (kk : ∀ (rv : Option Value) (J' : Nat → Int) (B' : Nat → Int → Int), Qg rv J' B' → jt (lK G b L xs) (pc + 3) Lc (rv.toList ++ rest) (gmf m g J' B') sz ce sl) : jt (lK G b L xs) pc Lc st (gmf m g J B) sz ce sl := by
  refine jt_callV (ci := 8) (b := m) (rm := gR d) (fs := gmo m J) (T := T_GM) (N := 46) hd hk hy hv (by rw [hc]; rfl) (gmf_o m g J B) hn hst hcat (show d + 1 ≤ 2048 by omega) (show 8 + (yL Y + 11) + d * 40 ≤ 84000 by omega) (show ce + 0 ≤ 600000 by omega) (show sl + 0 ≤ 7302250 by omega) (hM g sz) ?_
  intro rv f' sz' hq
  obtain ⟨J', B', rfl, rfl, hq⟩ := hq
  exact kk rv J' B' hq
end LAW
/-- what holds between the two objects, call after call -/
def lR (n : Int) (I : Nat → Nat → Int) (A : Nat → Int → Int) (J : Nat → Int) (B : Nat → Int → Int) : Prop :=
  (cSI I ∧ cSA A ∧ cTok A ∧ I 0 7 ≤ n) ∧ (gSI J ∧ gSA B ∧ gMac B ∧ (∀ k, 0 ≤ k → k < J 0 → gtok (B 16 k) (B 17 k))) ∧ I 1 3 = J 0 ∧ ∀ z, 0 ≤ z → z < J 0 → A 2 z = B 16 z ∧ A 3 z = B 17 z
theorem lR_c {S T : List Nat} {n n' : Int} {I I' : Nat → Nat → Int} {A A' : Nat → Int → Int} {J : Nat → Int} {B : Nat → Int → Int} (h : lR n I A J B) (hp : cPo S T I A I' A') (h1 : S.contains 19 = false) (h7 : S.contains 7 = false) (h2 : T.contains 2 = false) (h3 : T.contains 3 = false) (hr : cRows.all (fun k => !(T.contains (k + 1)) && !(T.contains (k + 2))) = true) (hn : n ≤ n') : lR n' I' A' J B := by
  obtain ⟨⟨a1, a2, a3, a4⟩, hb, hc, hd⟩ := h
  have e1 : I' 1 3 = I 1 3 := hp.2.2.1 1 3 h1
  have e7 : I' 0 7 = I 0 7 := hp.2.2.1 0 7 h7
  refine ⟨⟨hp.1, hp.2.1, cTok_of hp a3 hr, by omega⟩, hb, by omega, ?_⟩
  rw [hp.2.2.2 2 h2 (by decide), hp.2.2.2 3 h3 (by decide)]
  exact hd
theorem lR_g {S T : List Nat} {n : Int} {I : Nat → Nat → Int} {A : Nat → Int → Int} {J J' : Nat → Int} {B B' : Nat → Int → Int} (h : lR n I A J B) (hp : gPo S T J B J' B') (h0 : S.contains 0 = false) (h6 : T.contains 16 = false) (h7 : T.contains 17 = false) (h8 : T.contains 18 = false) (h9 : T.contains 19 = false) (ha : T.contains 20 = false) (hb2 : T.contains 21 = false) : lR n I A J' B' := by
  obtain ⟨ha1, ⟨b1, b2, b3, b4⟩, hc, hd⟩ := h
  have e0 : J' 0 = J 0 := hp.2.2.1 0 h0
  have e6 := hp.2.2.2 16 h6
  have e7 := hp.2.2.2 17 h7
  refine ⟨ha1, ⟨hp.1, hp.2.1, ?_, ?_⟩, by omega, ?_⟩
  · unfold gMac
    rw [hp.2.2.2 18 h8, hp.2.2.2 19 h9, hp.2.2.2 20 ha, hp.2.2.2 21 hb2]
    exact b3
  · rw [e0, e6, e7]; exact b4
  · rw [e0, e6, e7]; exact hd

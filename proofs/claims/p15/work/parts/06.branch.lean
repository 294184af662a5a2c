section JB
variable {K : jK} {pc : Nat} {L L' : jLs} {r st : List Value} {f : jF} {sz ce sl : Nat} {a b : Int}
theorem jt_if_eq {o : Int} {t : Nat} (hd : decode (yc (kY K)) pc = .ok (.ifCond .eq o, 3)) (h : (pc : Int) + o = (t : Int)) (ha : jRi a) (kt : a = 0 → jt K t L st f sz ce sl) (kf : ¬ (a = 0) → jt K (pc + 3) L st f sz ce sl) : jt K pc L (.int (jI a) :: st) f sz ce sl := by
  intro p e s m args below meth c H locs ls C X hs hP hS hl
  have hq := (jI_eq ha jRi0)
  rw [← jI_0] at hq
  exact lv_if_eq C.1 C.2.1 hd h (fun q => kt (hq.mp q) p e s m args below meth c H locs ls C X hs hP hS hl) (fun q => kf (fun z => q (hq.mpr z)) p e s m args below meth c H locs ls C X hs hP hS hl)
theorem jt_icmp_eq {o : Int} {t : Nat} (hd : decode (yc (kY K)) pc = .ok (.if_icmp .eq o, 3)) (h : (pc : Int) + o = (t : Int)) (ha : jRi a) (hb : jRi b) (kt : a = b → jt K t L st f sz ce sl) (kf : ¬ (a = b) → jt K (pc + 3) L st f sz ce sl) : jt K pc L (.int (jI b) :: .int (jI a) :: st) f sz ce sl := by
  intro p e s m args below meth c H locs ls C X hs hP hS hl
  have hq := (jI_eq ha hb)
  exact lv_icmp_eq C.1 C.2.1 hd h (fun q => kt (hq.mp q) p e s m args below meth c H locs ls C X hs hP hS hl) (fun q => kf (fun z => q (hq.mpr z)) p e s m args below meth c H locs ls C X hs hP hS hl)
theorem jt_if_ne {o : Int} {t : Nat} (hd : decode (yc (kY K)) pc = .ok (.ifCond .ne o, 3)) (h : (pc : Int) + o = (t : Int)) (ha : jRi a) (kt : ¬ a = 0 → jt K t L st f sz ce sl) (kf : a = 0 → jt K (pc + 3) L st f sz ce sl) : jt K pc L (.int (jI a) :: st) f sz ce sl := by
  intro p e s m args below meth c H locs ls C X hs hP hS hl
  have hq := (jI_eq ha jRi0)
  rw [← jI_0] at hq
  exact lv_if_ne C.1 C.2.1 hd h (fun q => kt (fun z => q (hq.mpr z)) p e s m args below meth c H locs ls C X hs hP hS hl) (fun q => kf (hq.mp q) p e s m args below meth c H locs ls C X hs hP hS hl)
theorem jt_icmp_ne {o : Int} {t : Nat} (hd : decode (yc (kY K)) pc = .ok (.if_icmp .ne o, 3)) (h : (pc : Int) + o = (t : Int)) (ha : jRi a) (hb : jRi b) (kt : ¬ a = b → jt K t L st f sz ce sl) (kf : a = b → jt K (pc + 3) L st f sz ce sl) : jt K pc L (.int (jI b) :: .int (jI a) :: st) f sz ce sl := by
  intro p e s m args below meth c H locs ls C X hs hP hS hl
  have hq := (jI_eq ha hb)
  exact lv_icmp_ne C.1 C.2.1 hd h (fun q => kt (fun z => q (hq.mpr z)) p e s m args below meth c H locs ls C X hs hP hS hl) (fun q => kf (hq.mp q) p e s m args below meth c H locs ls C X hs hP hS hl)
theorem jt_if_lt {o : Int} {t : Nat} (hd : decode (yc (kY K)) pc = .ok (.ifCond .lt o, 3)) (h : (pc : Int) + o = (t : Int)) (ha : jRi a) (kt : a < 0 → jt K t L st f sz ce sl) (kf : ¬ (a < 0) → jt K (pc + 3) L st f sz ce sl) : jt K pc L (.int (jI a) :: st) f sz ce sl := by
  intro p e s m args below meth c H locs ls C X hs hP hS hl
  have hq := (jI_lt ha jRi0)
  rw [← jI_0] at hq
  exact lv_if_lt C.1 C.2.1 hd h (fun q => kt (hq.mp q) p e s m args below meth c H locs ls C X hs hP hS hl) (fun q => kf (fun z => q (hq.mpr z)) p e s m args below meth c H locs ls C X hs hP hS hl)
theorem jt_icmp_lt {o : Int} {t : Nat} (hd : decode (yc (kY K)) pc = .ok (.if_icmp .lt o, 3)) (h : (pc : Int) + o = (t : Int)) (ha : jRi a) (hb : jRi b) (kt : a < b → jt K t L st f sz ce sl) (kf : ¬ (a < b) → jt K (pc + 3) L st f sz ce sl) : jt K pc L (.int (jI b) :: .int (jI a) :: st) f sz ce sl := by
  intro p e s m args below meth c H locs ls C X hs hP hS hl
  have hq := (jI_lt ha hb)
  exact lv_icmp_lt C.1 C.2.1 hd h (fun q => kt (hq.mp q) p e s m args below meth c H locs ls C X hs hP hS hl) (fun q => kf (fun z => q (hq.mpr z)) p e s m args below meth c H locs ls C X hs hP hS hl)
theorem jt_if_ge {o : Int} {t : Nat} (hd : decode (yc (kY K)) pc = .ok (.ifCond .ge o, 3)) (h : (pc : Int) + o = (t : Int)) (ha : jRi a) (kt : 0 ≤ a → jt K t L st f sz ce sl) (kf : ¬ (0 ≤ a) → jt K (pc + 3) L st f sz ce sl) : jt K pc L (.int (jI a) :: st) f sz ce sl := by
  intro p e s m args below meth c H locs ls C X hs hP hS hl
  have hq := (jI_le jRi0 ha)
  rw [← jI_0] at hq
  exact lv_if_ge C.1 C.2.1 hd h (fun q => kt (hq.mp q) p e s m args below meth c H locs ls C X hs hP hS hl) (fun q => kf (fun z => q (hq.mpr z)) p e s m args below meth c H locs ls C X hs hP hS hl)
theorem jt_icmp_ge {o : Int} {t : Nat} (hd : decode (yc (kY K)) pc = .ok (.if_icmp .ge o, 3)) (h : (pc : Int) + o = (t : Int)) (ha : jRi a) (hb : jRi b) (kt : b ≤ a → jt K t L st f sz ce sl) (kf : ¬ (b ≤ a) → jt K (pc + 3) L st f sz ce sl) : jt K pc L (.int (jI b) :: .int (jI a) :: st) f sz ce sl := by
  intro p e s m args below meth c H locs ls C X hs hP hS hl
  have hq := (jI_le hb ha)
  exact lv_icmp_ge C.1 C.2.1 hd h (fun q => kt (hq.mp q) p e s m args below meth c H locs ls C X hs hP hS hl) (fun q => kf (fun z => q (hq.mpr z)) p e s m args below meth c H locs ls C X hs hP hS hl)
theorem jt_if_gt {o : Int} {t : Nat} (hd : decode (yc (kY K)) pc = .ok (.ifCond .gt o, 3)) (h : (pc : Int) + o = (t : Int)) (ha : jRi a) (kt : 0 < a → jt K t L st f sz ce sl) (kf : ¬ (0 < a) → jt K (pc + 3) L st f sz ce sl) : jt K pc L (.int (jI a) :: st) f sz ce sl := by
  intro p e s m args below meth c H locs ls C X hs hP hS hl
  have hq := (jI_lt jRi0 ha)
  rw [← jI_0] at hq
  exact lv_if_gt C.1 C.2.1 hd h (fun q => kt (hq.mp q) p e s m args below meth c H locs ls C X hs hP hS hl) (fun q => kf (fun z => q (hq.mpr z)) p e s m args below meth c H locs ls C X hs hP hS hl)
theorem jt_icmp_gt {o : Int} {t : Nat} (hd : decode (yc (kY K)) pc = .ok (.if_icmp .gt o, 3)) (h : (pc : Int) + o = (t : Int)) (ha : jRi a) (hb : jRi b) (kt : b < a → jt K t L st f sz ce sl) (kf : ¬ (b < a) → jt K (pc + 3) L st f sz ce sl) : jt K pc L (.int (jI b) :: .int (jI a) :: st) f sz ce sl := by
  intro p e s m args below meth c H locs ls C X hs hP hS hl
  have hq := (jI_lt hb ha)
  exact lv_icmp_gt C.1 C.2.1 hd h (fun q => kt (hq.mp q) p e s m args below meth c H locs ls C X hs hP hS hl) (fun q => kf (fun z => q (hq.mpr z)) p e s m args below meth c H locs ls C X hs hP hS hl)
theorem jt_if_le {o : Int} {t : Nat} (hd : decode (yc (kY K)) pc = .ok (.ifCond .le o, 3)) (h : (pc : Int) + o = (t : Int)) (ha : jRi a) (kt : a ≤ 0 → jt K t L st f sz ce sl) (kf : ¬ (a ≤ 0) → jt K (pc + 3) L st f sz ce sl) : jt K pc L (.int (jI a) :: st) f sz ce sl := by
  intro p e s m args below meth c H locs ls C X hs hP hS hl
  have hq := (jI_le ha jRi0)
  rw [← jI_0] at hq
  exact lv_if_le C.1 C.2.1 hd h (fun q => kt (hq.mp q) p e s m args below meth c H locs ls C X hs hP hS hl) (fun q => kf (fun z => q (hq.mpr z)) p e s m args below meth c H locs ls C X hs hP hS hl)
theorem jt_icmp_le {o : Int} {t : Nat} (hd : decode (yc (kY K)) pc = .ok (.if_icmp .le o, 3)) (h : (pc : Int) + o = (t : Int)) (ha : jRi a) (hb : jRi b) (kt : a ≤ b → jt K t L st f sz ce sl) (kf : ¬ (a ≤ b) → jt K (pc + 3) L st f sz ce sl) : jt K pc L (.int (jI b) :: .int (jI a) :: st) f sz ce sl := by
  intro p e s m args below meth c H locs ls C X hs hP hS hl
  have hq := (jI_le ha hb)
  exact lv_icmp_le C.1 C.2.1 hd h (fun q => kt (hq.mp q) p e s m args below meth c H locs ls C X hs hP hS hl) (fun q => kf (fun z => q (hq.mpr z)) p e s m args below meth c H locs ls C X hs hP hS hl)
def jcm (a b : Int) : Int := if b < a then 1 else if a = b then 0 else -1
theorem jcm_ok {a b : Int} (ha : jRl a) (hb : jRl b) : lg_cmp (jL a) (jL b) = jI (jcm a b) := by
  unfold lg_cmp jcm
  have h1 := jL_lt hb ha
  have h2 := jL_eq ha hb
  by_cases q1 : b < a
  · rw [if_pos q1, if_pos (h1.mpr q1)]
    decide
  · rw [if_neg q1, if_neg (fun z => q1 (h1.mp z))]
    by_cases q2 : a = b
    · rw [if_pos q2, if_pos (h2.mpr q2)]
      decide
    · rw [if_neg q2, if_neg (fun z => q2 (h2.mp z))]
      decide
theorem jcm_r (a b : Int) : jRi (jcm a b) := by
  unfold jcm jRi
  split
  · omega
  · split <;> omega
theorem jt_lcmp (hd : decode (yc (kY K)) pc = .ok (.lcmp, 1)) (ha : jRl a) (hb : jRl b) (k : jt K (pc + 1) L (.int (jI (jcm a b)) :: st) f sz ce sl) : jt K pc L (.long (jL b) :: .long (jL a) :: st) f sz ce sl :=
  jt_pu (fun _ _ _ _ _ _ _ _ _ _ _ _ _ _ C _ w => W.lcmp C.1 C.2.1 hd (by rw [jcm_ok ha hb]; exact w)) k
theorem jcm_eq (a b : Int) : (jcm a b = 0) ↔ (a = b) := by
  unfold jcm
  split
  · omega
  · split <;> omega
theorem jt_lif_eq {o : Int} {t : Nat} (hd0 : decode (yc (kY K)) pc = .ok (.lcmp, 1)) (hd : decode (yc (kY K)) (pc + 1) = .ok (.ifCond .eq o, 3)) (h : ((pc + 1 : Nat) : Int) + o = (t : Int)) (ha : jRl a) (hb : jRl b) (kt : a = b → jt K t L st f sz ce sl) (kf : ¬ (a = b) → jt K (pc + 1 + 3) L st f sz ce sl) : jt K pc L (.long (jL b) :: .long (jL a) :: st) f sz ce sl :=
  jt_lcmp hd0 ha hb (jt_if_eq hd h (jcm_r a b) (fun q => kt ((jcm_eq a b).mp q)) (fun q => kf (fun z => q ((jcm_eq a b).mpr z))))
theorem jcm_ne (a b : Int) : (¬ jcm a b = 0) ↔ (¬ a = b) := by
  unfold jcm
  split
  · omega
  · split <;> omega
theorem jt_lif_ne {o : Int} {t : Nat} (hd0 : decode (yc (kY K)) pc = .ok (.lcmp, 1)) (hd : decode (yc (kY K)) (pc + 1) = .ok (.ifCond .ne o, 3)) (h : ((pc + 1 : Nat) : Int) + o = (t : Int)) (ha : jRl a) (hb : jRl b) (kt : ¬ a = b → jt K t L st f sz ce sl) (kf : a = b → jt K (pc + 1 + 3) L st f sz ce sl) : jt K pc L (.long (jL b) :: .long (jL a) :: st) f sz ce sl :=
  jt_lcmp hd0 ha hb (jt_if_ne hd h (jcm_r a b) (fun q => kt ((jcm_ne a b).mp q)) (fun q => kf ((jcm_eq a b).mp q)))
theorem jcm_lt (a b : Int) : (jcm a b < 0) ↔ (a < b) := by
  unfold jcm
  split
  · omega
  · split <;> omega
theorem jt_lif_lt {o : Int} {t : Nat} (hd0 : decode (yc (kY K)) pc = .ok (.lcmp, 1)) (hd : decode (yc (kY K)) (pc + 1) = .ok (.ifCond .lt o, 3)) (h : ((pc + 1 : Nat) : Int) + o = (t : Int)) (ha : jRl a) (hb : jRl b) (kt : a < b → jt K t L st f sz ce sl) (kf : ¬ (a < b) → jt K (pc + 1 + 3) L st f sz ce sl) : jt K pc L (.long (jL b) :: .long (jL a) :: st) f sz ce sl :=
  jt_lcmp hd0 ha hb (jt_if_lt hd h (jcm_r a b) (fun q => kt ((jcm_lt a b).mp q)) (fun q => kf (fun z => q ((jcm_lt a b).mpr z))))
theorem jcm_ge (a b : Int) : (0 ≤ jcm a b) ↔ (b ≤ a) := by
  unfold jcm
  split
  · omega
  · split <;> omega
theorem jt_lif_ge {o : Int} {t : Nat} (hd0 : decode (yc (kY K)) pc = .ok (.lcmp, 1)) (hd : decode (yc (kY K)) (pc + 1) = .ok (.ifCond .ge o, 3)) (h : ((pc + 1 : Nat) : Int) + o = (t : Int)) (ha : jRl a) (hb : jRl b) (kt : b ≤ a → jt K t L st f sz ce sl) (kf : ¬ (b ≤ a) → jt K (pc + 1 + 3) L st f sz ce sl) : jt K pc L (.long (jL b) :: .long (jL a) :: st) f sz ce sl :=
  jt_lcmp hd0 ha hb (jt_if_ge hd h (jcm_r a b) (fun q => kt ((jcm_ge a b).mp q)) (fun q => kf (fun z => q ((jcm_ge a b).mpr z))))
theorem jcm_gt (a b : Int) : (0 < jcm a b) ↔ (b < a) := by
  unfold jcm
  split
  · omega
  · split <;> omega
theorem jt_lif_gt {o : Int} {t : Nat} (hd0 : decode (yc (kY K)) pc = .ok (.lcmp, 1)) (hd : decode (yc (kY K)) (pc + 1) = .ok (.ifCond .gt o, 3)) (h : ((pc + 1 : Nat) : Int) + o = (t : Int)) (ha : jRl a) (hb : jRl b) (kt : b < a → jt K t L st f sz ce sl) (kf : ¬ (b < a) → jt K (pc + 1 + 3) L st f sz ce sl) : jt K pc L (.long (jL b) :: .long (jL a) :: st) f sz ce sl :=
  jt_lcmp hd0 ha hb (jt_if_gt hd h (jcm_r a b) (fun q => kt ((jcm_gt a b).mp q)) (fun q => kf (fun z => q ((jcm_gt a b).mpr z))))
theorem jcm_le (a b : Int) : (jcm a b ≤ 0) ↔ (a ≤ b) := by
  unfold jcm
  split
  · omega
  · split <;> omega
theorem jt_lif_le {o : Int} {t : Nat} (hd0 : decode (yc (kY K)) pc = .ok (.lcmp, 1)) (hd : decode (yc (kY K)) (pc + 1) = .ok (.ifCond .le o, 3)) (h : ((pc + 1 : Nat) : Int) + o = (t : Int)) (ha : jRl a) (hb : jRl b) (kt : a ≤ b → jt K t L st f sz ce sl) (kf : ¬ (a ≤ b) → jt K (pc + 1 + 3) L st f sz ce sl) : jt K pc L (.long (jL b) :: .long (jL a) :: st) f sz ce sl :=
  jt_lcmp hd0 ha hb (jt_if_le hd h (jcm_r a b) (fun q => kt ((jcm_le a b).mp q)) (fun q => kf (fun z => q ((jcm_le a b).mpr z))))
end JB

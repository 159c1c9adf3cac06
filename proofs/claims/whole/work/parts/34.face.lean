/-! the calls of the face agree -/
theorem RR_27 {st : CS} {rt : MS} {x : Int32} (h : RR st rt) : RR st (tV rt 27 x) := h
theorem RR_26 {st : CS} {rt : MS} {x : Int32} (h : RR st rt) : RR st (tV rt 26 x) := h
theorem RR_mem {st : CS} {rt : MS} (h : RR st rt) (a : Int32) : rM st a = uM rt a := by
  unfold rM uM
  rw [h.1.2.2.1]
theorem sim_poke {st : CS} {rt : MS} (a v : Int32) (hR : RR st rt) : (f_C_poke st a v).1 = (f_M_poke rt a v).1 ∧ RR (f_C_poke st a v).2 (f_M_poke rt a v).2 :=
  ⟨RR_mem hR a, show Rc (sM st a (v &&& 255)) (tM rt a (v &&& 255)) from Rc_write hR.1 (isB_and _), hR.2.1, hR.2.2⟩
theorem sim_peek {st : CS} {rt : MS} (a : Int32) (hR : RR st rt) : (f_C_peek st a).1 = (f_M_peek rt a).1 ∧ RR (f_C_peek st a).2 (f_M_peek rt a).2 :=
  ⟨RR_mem hR a, hR⟩
theorem sim_one {st : CS} {rt : MS} (hR : RR st rt) : (f_C_cycle st).1 = (f_M_cycle rt).1 ∧ RR (f_C_cycle st).2 (f_M_cycle rt).2 := by
  obtain ⟨a, st', rt', h1, h2, h3, -⟩ := sim_cycle (RR_27 (x := 0) hR)
  have e1 : f_C_cycle st = ((f_C_runCycle st).1, (f_C_runCycle st).2) := rfl
  have e2 : f_M_cycle rt = ((f_M_clock (tV rt 27 0)).1, (f_M_clock (tV rt 27 0)).2) := rfl
  rw [e1, e2, h1, h2]
  exact ⟨rfl, h3⟩
theorem tri {A B C D E F : Int32} (h1 : A - B = C - D) (h2 : B - E = D - F) : A - E = C - F := by
  have k : ∀ x y z : Int32, x - z = (x - y) + (y - z) := by
    intro x y z
    rw [Int32.sub_eq_add_neg, Int32.sub_eq_add_neg, Int32.sub_eq_add_neg, Int32.add_assoc, ← Int32.add_assoc (-y), Int32.add_left_neg, Int32.zero_add]
  rw [k A B E, k C D F, h1, h2]
theorem sim_loop : ∀ (n : Nat) (st : CS) (rt : MS), RR st rt → RR (cyI n st) (cyM n rt) ∧ (cyI n st).1 10 - st.1 10 = (cyM n rt).1 26 - rt.1 26 ∧ (cyM n rt).1 27 = rt.1 27
  | 0, st, rt, h => ⟨h, by show st.1 10 - st.1 10 = rt.1 26 - rt.1 26; rw [Int32.sub_self, Int32.sub_self], rfl⟩
  | n + 1, st, rt, h => by
    obtain ⟨a, st', rt', h1, h2, h3, h4⟩ := sim_cycle h
    have f := fr_clock rt
    rw [h2] at f
    have e1 : cyI (n + 1) st = cyI n st' := by show cyI n (f_C_runCycle st).2 = _; rw [h1]
    have e2 : cyM (n + 1) rt = cyM n rt' := by show cyM n (f_M_clock rt).2 = _; rw [h2]
    obtain ⟨i1, i2, i3⟩ := sim_loop n st' rt' h3
    rw [e1, e2]
    exact ⟨i1, tri i2 h4, i3.trans f⟩
theorem sim_cycles {st : CS} {rt : MS} {v : Int32} (hR : RR st rt) (hq1 : ¬ v < 0) (hq2 : v ≤ 200) : (f_C_cycles st v).1 = (f_M_cycles rt v).1 ∧ RR (f_C_cycles st v).2 (f_M_cycles rt v).2 ∧ (f_M_cycles rt v).2.1 27 = 0 := by
  have e : f_M_cycles rt v = f_M_cycles_29 (tV rt 27 0) v := by
    unfold f_M_cycles
    rw [if_neg hq1, if_pos hq2]
    rfl
  obtain ⟨a, b, c⟩ := sim_loop v.toNatClampNeg st (tV (tV rt 27 0) 26 0) hR
  rw [e]
  refine ⟨?_, a, c⟩
  show (cyI v.toNatClampNeg st).1 10 - st.1 10 = (cyM v.toNatClampNeg (tV (tV rt 27 0) 26 0)).1 26
  rw [b]
  exact Int32.sub_zero _
theorem thr_cycles (rt : MS) {v : Int32} (h : v < 0 ∨ ¬ v ≤ 200) : f_M_cycles rt v = (0, tV rt 27 1) := by
  unfold f_M_cycles
  by_cases q : v < 0
  · rw [if_pos q]; rfl
  · rcases h with h | h
    · exact absurd h q
    · rw [if_neg q, if_neg h]; rfl
theorem i_lt4 {p : Int32} (h1 : ¬ p < 0) (h2 : p ≤ 3) : p = 0 ∨ p = 1 ∨ p = 2 ∨ p = 3 := by
  rw [Int32.lt_iff_toInt_lt] at h1
  rw [Int32.le_iff_toInt_le] at h2
  have e0 : (0 : Int32).toInt = 0 := rfl
  have e1 : (1 : Int32).toInt = 1 := rfl
  have e2 : (2 : Int32).toInt = 2 := rfl
  have e3 : (3 : Int32).toInt = 3 := rfl
  have : p.toInt = 0 ∨ p.toInt = 1 ∨ p.toInt = 2 ∨ p.toInt = 3 := by omega
  rcases this with h | h | h | h
  · exact Or.inl (Int32.toInt_inj.mp (h.trans e0.symm))
  · exact Or.inr (Or.inl (Int32.toInt_inj.mp (h.trans e1.symm)))
  · exact Or.inr (Or.inr (Or.inl (Int32.toInt_inj.mp (h.trans e2.symm))))
  · exact Or.inr (Or.inr (Or.inr (Int32.toInt_inj.mp (h.trans e3.symm))))
theorem i_4_3 {p : Int32} : p < 4 ↔ p ≤ 3 := by
  rw [Int32.lt_iff_toInt_lt, Int32.le_iff_toInt_le]
  have e3 : (3 : Int32).toInt = 3 := rfl
  have e4 : (4 : Int32).toInt = 4 := rfl
  omega
theorem thr_pin (rt : MS) {p v : Int32} (h : p < 0 ∨ ¬ p ≤ 3) : f_M_pin rt p v = (0, tV rt 27 1) := by
  unfold f_M_pin
  by_cases q : p < 0
  · rw [if_pos q]; rfl
  · rcases h with h | h
    · exact absurd h q
    · rw [if_neg q, if_neg h]; rfl
theorem sim_reset {st : CS} {rt : MS} (hR : RR st rt) : RR (f_C_reset st) (f_M_reset rt) := by
  obtain ⟨⟨he, hg, d1, d2, d3, d4, d5, d6⟩, hd, hs⟩ := hR
  exact ⟨⟨he, hg, d1, d2, rfl, d4, d5, Or.inl rfl⟩, rfl, Or.inr (Or.inr (Or.inr (Or.inl ⟨rfl, rfl, rfl, Or.inl ⟨rfl, rfl⟩⟩)))⟩
theorem njA (j : Nat) : njN j ≤ 4 := by
  unfold njN
  repeat' split
  all_goals omega
theorem inA_i {st : CS} {rt : MS} {k j d : Nat} (h : InA st rt k j d) : ¬ st.2.1 = 0 ∧ ¬ st.2.1 = 34 ∧ 0 < d ∧ d < 12 := by
  have nj := njA j
  rcases h with ⟨q, h⟩ | ⟨q, h⟩ | ⟨q, h⟩ | ⟨q, h⟩ | ⟨q, h⟩ | ⟨q, h⟩ | ⟨q, h⟩ | ⟨q, h⟩ | ⟨⟨q, -⟩ | ⟨q, -⟩ | ⟨q, -⟩, h⟩ | ⟨q, h⟩ | ⟨q, h⟩
  all_goals exact ⟨by rw [q]; decide, by rw [q]; decide, by omega, by omega⟩
theorem inB_i {st : CS} {rt : MS} {d : Nat} (h : InB st rt d) : ¬ st.2.1 = 0 ∧ ¬ st.2.1 = 34 ∧ 0 < d ∧ d < 12 := by
  rcases h with ⟨q, h⟩ | ⟨q, h⟩ | ⟨q, h⟩
  all_goals exact ⟨by rw [q]; decide, by rw [q]; decide, by omega, by omega⟩
theorem inP_i {st : CS} {rt : MS} {d : Nat} (h : InP st rt d) : ¬ st.2.1 = 0 ∧ ¬ st.2.1 = 34 ∧ 0 < d ∧ d < 12 := by
  rcases h with ⟨-, h⟩ | ⟨-, h⟩ | ⟨-, q, rfl⟩ | ⟨-, h⟩ | ⟨-, h⟩ | ⟨-, h⟩ | ⟨-, h⟩ | ⟨-, h⟩
  · rcases h with ⟨q, h⟩ | ⟨q, h⟩
    all_goals exact ⟨by rw [q]; decide, by rw [q]; decide, by omega, by omega⟩
  · rcases h with ⟨q, h⟩ | ⟨q, h⟩ | ⟨q, h⟩ | ⟨q, h⟩ | ⟨q, h⟩
    all_goals exact ⟨by rw [q]; decide, by rw [q]; decide, by omega, by omega⟩
  · exact ⟨by rw [q]; decide, by rw [q]; decide, by omega, by omega⟩
  · rcases h with ⟨q, h⟩ | ⟨q, h⟩
    all_goals exact ⟨by rw [q]; decide, by rw [q]; decide, by omega, by omega⟩
  · rcases h with ⟨q, h⟩ | ⟨q, h⟩ | ⟨q, h⟩
    all_goals exact ⟨by rw [q]; decide, by rw [q]; decide, by omega, by omega⟩
  · rcases h with ⟨q, h⟩ | ⟨q, h⟩ | ⟨q, h⟩ | ⟨q, h⟩ | ⟨q, h⟩
    all_goals exact ⟨by rw [q]; decide, by rw [q]; decide, by omega, by omega⟩
  · rcases h with ⟨q, h⟩ | ⟨q, h⟩ | ⟨q, h⟩ | ⟨q, h⟩ | ⟨q, h⟩
    all_goals exact ⟨by rw [q]; decide, by rw [q]; decide, by omega, by omega⟩
  · rcases h with ⟨q, h⟩ | ⟨q, h⟩ | ⟨q, h⟩ | ⟨q, h⟩ | ⟨q, h⟩ | ⟨q, h⟩
    all_goals exact ⟨by rw [q]; decide, by rw [q]; decide, by omega, by omega⟩
theorem sit_i {st : CS} {rt : MS} (h : Sit st rt) : (st.2.1 = 0 ∧ rt.1 11 = 0 ∧ rt.1 12 = 0 ∧ rt.1 13 = 0) ∨ (st.2.1 = 34 ∧ rt.1 13 = 1 ∧ ¬ (rt.1 11 = 0 ∧ rt.1 12 = 0)) ∨ (¬ st.2.1 = 0 ∧ ¬ st.2.1 = 34 ∧ rt.1 13 = 0 ∧ ¬ (rt.1 11 = 0 ∧ rt.1 12 = 0)) := by
  rcases h with h | ⟨q1, q2, q3, q4, -⟩ | ⟨q1, q2, -, h⟩ | ⟨q1, q2, -, h⟩ | ⟨q1, q2, k, j, d, hk, hj, -, -, -, -, h12, -, h⟩
  · exact Or.inl h
  · exact Or.inr (Or.inl ⟨q1, q4, fun z => by rw [q3] at z; exact absurd z.2 (by decide)⟩)
  · refine Or.inr (Or.inr ?_)
    have n : ¬ (rt.1 11 = 0 ∧ rt.1 12 = 0) := fun z => by rw [q1] at z; exact absurd z.1 (by decide)
    rcases h with ⟨q, -⟩ | ⟨q, -⟩ | ⟨q, -⟩ | ⟨q, -⟩ | ⟨q, -⟩ | ⟨q, -⟩ | ⟨q, -⟩
    all_goals exact ⟨by rw [q]; decide, by rw [q]; decide, q2, n⟩
  · refine Or.inr (Or.inr ?_)
    have n : ¬ (rt.1 11 = 0 ∧ rt.1 12 = 0) := fun z => by rw [q1] at z; exact absurd z.1 (by decide)
    rcases h with ⟨q, -⟩ | ⟨q, -⟩ | ⟨q, -⟩ | ⟨q, -⟩ | ⟨q, -⟩ | ⟨q, -⟩ | ⟨q, -⟩
    all_goals exact ⟨by rw [q]; decide, by rw [q]; decide, q2, n⟩
  · refine Or.inr (Or.inr ?_)
    have i : ¬ st.2.1 = 0 ∧ ¬ st.2.1 = 34 ∧ 0 < d ∧ d < 12 := by
      rcases h with ⟨-, -, -, h⟩ | ⟨-, h⟩ | ⟨-, h⟩
      · exact inA_i h
      · exact inB_i h
      · exact inP_i h
    exact ⟨i.1, i.2.1, q2, fun z => kj_dec.2.2 d i.2.2.2 i.2.2.1 (h12 ▸ z.2)⟩
theorem sim_register {st : CS} {rt : MS} {v : Int32} (hR : RR st rt) (hq1 : ¬ v < 0) (hq2 : v ≤ 7) : (f_C_register st v).1 = (f_M_register rt v).1 ∧ RR (f_C_register st v).2 (f_M_register rt v).2 ∧ (f_M_register rt v).2.1 27 = 0 := by
  obtain ⟨⟨⟨e0, e1, e2, e3, e4, e5⟩, ⟨g0, g1, g2, g3, g4, g5⟩, hr⟩, hd, hs⟩ := id hR
  have eM : f_M_register rt v = (if v = 0 then (rt.1 0, tV rt 27 0) else if v = 1 then (rt.1 1, tV rt 27 0) else if v = 2 then (rt.1 2, tV rt 27 0) else if v = 3 then (rt.1 3, tV rt 27 0) else if v = 4 then (rt.1 4, tV rt 27 0) else if v = 5 then (rt.1 5 ||| 32, tV rt 27 0) else if v = 6 then (if rt.1 13 = 0 then (0, tV rt 27 0) else (1, tV rt 27 0)) else (rt.1 12, tV rt 27 0)) := by
    unfold f_M_register
    rw [if_neg hq1, if_pos hq2]
    rfl
  have eC : f_C_register st v = (if v = 0 then (st.1 0, st) else if v = 1 then (st.1 1, st) else if v = 2 then (st.1 2, st) else if v = 3 then (st.1 3, st) else if v = 4 then (st.1 4, st) else if v = 5 then (st.1 5 + 32, st) else if v = 6 then (if st.2.1 = 34 then (1, st) else (0, st)) else (st.1 9, st)) := rfl
  rw [eM, eC]
  by_cases q0 : v = 0
  · rw [if_pos q0, if_pos q0]; exact ⟨e0, hR, rfl⟩
  rw [if_neg q0, if_neg q0]
  by_cases q1 : v = 1
  · rw [if_pos q1, if_pos q1]; exact ⟨e1, hR, rfl⟩
  rw [if_neg q1, if_neg q1]
  by_cases q2 : v = 2
  · rw [if_pos q2, if_pos q2]; exact ⟨e2, hR, rfl⟩
  rw [if_neg q2, if_neg q2]
  by_cases q3 : v = 3
  · rw [if_pos q3, if_pos q3]; exact ⟨e3, hR, rfl⟩
  rw [if_neg q3, if_neg q3]
  by_cases q4 : v = 4
  · rw [if_pos q4, if_pos q4]; exact ⟨e4, hR, rfl⟩
  rw [if_neg q4, if_neg q4]
  by_cases q5 : v = 5
  · rw [if_pos q5, if_pos q5]
    exact ⟨by show st.1 5 + 32 = rt.1 5 ||| 32; rw [← e5, (p_dec g5).2.2.2.2.2], hR, rfl⟩
  rw [if_neg q5, if_neg q5]
  by_cases q6 : v = 6
  · rw [if_pos q6, if_pos q6]
    rcases sit_i hs with ⟨a, -, -, b⟩ | ⟨a, b, -⟩ | ⟨-, a, b, -⟩
    · rw [if_neg (by rw [a]; decide), if_pos b]; exact ⟨rfl, hR, rfl⟩
    · rw [if_pos a, if_neg (by rw [b]; decide)]; exact ⟨rfl, hR, rfl⟩
    · rw [if_neg a, if_pos b]; exact ⟨rfl, hR, rfl⟩
  rw [if_neg q6, if_neg q6]
  exact ⟨hd, hR, rfl⟩
theorem thr_register (rt : MS) {v : Int32} (h : v < 0 ∨ ¬ v ≤ 7) : f_M_register rt v = (0, tV rt 27 1) := by
  unfold f_M_register
  by_cases q : v < 0
  · rw [if_pos q]; rfl
  · rcases h with h | h
    · exact absurd h q
    · rw [if_neg q, if_neg h]; rfl
theorem thr_set1 (rt : MS) {v w : Int32} (h : v < 0 ∨ ¬ v ≤ 5) : f_M_set rt v w = tV rt 27 1 := by
  unfold f_M_set
  by_cases q : v < 0
  · rw [if_pos q]; rfl
  · rcases h with h | h
    · exact absurd h q
    · rw [if_neg q, if_neg h]; rfl
theorem thr_set2 {st : CS} {rt : MS} {v w : Int32} (hR : RR st rt) (hq1 : ¬ v < 0) (hq2 : v ≤ 5) (hq3 : ¬ st.2.1 = 0) : f_M_set rt v w = tV rt 27 2 := by
  have n : ¬ (rt.1 11 = 0 ∧ rt.1 12 = 0) := by
    rcases sit_i hR.2.2 with ⟨a, -⟩ | ⟨-, -, b⟩ | ⟨-, -, -, b⟩
    · exact absurd a hq3
    · exact b
    · exact b
  unfold f_M_set
  rw [if_neg hq1, if_pos hq2]
  by_cases q : rt.1 11 = 0
  · rw [if_pos q, if_neg (fun z => n ⟨q, z⟩)]; rfl
  · rw [if_neg q]; rfl

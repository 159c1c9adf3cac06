/-! ends; which action comes -/
theorem inc_d (x : Int32) : x + 1 - x = 1 := by rw [Int32.add_comm, Int32.add_sub_cancel]
theorem sim_end {st : CS} {rt : MS} {v : Int32} (hc : Rc st rt) (hj : rt.1 13 = 0) : ∃ rt' : MS, f_M_clock_150 rt v = (v, rt') ∧ RR (f_C_end st) rt' ∧ (f_C_end st).1 10 - st.1 10 = rt'.1 26 - rt.1 26 := by
  obtain ⟨s1, hs1⟩ : ∃ s1, s1 = sV st 10 (st.1 10 + 1) := ⟨_, rfl⟩
  obtain ⟨m3, hm3⟩ : ∃ m3, m3 = tV (tV (tV rt 26 (rt.1 26 + 1)) 14 0) 12 0 := ⟨_, rfl⟩
  have eC : f_C_end st = (if rP s1 1 = 0 then f_C_end_35 s1 0 else (if (f_R_has s1 4).1 = 0 then f_C_end_35 (f_R_has s1 4).2 1 else f_C_end_35 (f_R_has s1 4).2 0)) := by rw [hs1]; rfl
  have eM : f_M_clock_150 rt v = (if m3.1 10 = 0 then (if m3.1 7 = 0 then (v, tV m3 11 0) else (if (f_M_is m3 4).1 = 0 then (v, tV (f_M_is m3 4).2 11 1) else (v, tV (f_M_is m3 4).2 11 0))) else (v, tV m3 11 1)) := by rw [hm3]; rfl
  have e6 : s1.1 6 = m3.1 10 := by rw [hs1, hm3]; exact hc.2.2.2.2.1
  have e1 : rP s1 1 = m3.1 7 := by rw [hs1, hm3]; exact hc.2.2.2.1.2.1
  have e5 : s1.1 5 = m3.1 5 := by rw [hs1, hm3]; exact hc.1.2.2.2.2.2
  have hF : RR (f_C_begin s1 15 0) (tV m3 11 0) := by
    rw [hs1, hm3]
    exact ⟨hc, rfl, Or.inl ⟨rfl, rfl, rfl, hj⟩⟩
  have hI : RR (f_C_begin s1 13 28) (tV m3 11 1) := by
    rw [hs1, hm3]
    exact ⟨hc, rfl, Or.inr (Or.inr (Or.inl ⟨rfl, hj, rfl, Or.inl ⟨rfl, rfl⟩⟩))⟩
  have hz : ∀ (a : Fin 16) (b : Fin 35) (x : Int32), (f_C_begin s1 a b).1 10 - st.1 10 = (tV m3 11 x).1 26 - rt.1 26 := by
    intro a b x
    rw [hs1, hm3]
    show st.1 10 + 1 - st.1 10 = rt.1 26 + 1 - rt.1 26
    rw [inc_d, inc_d]
  rw [eC, eM, R_has, M_is, e1, e5]
  dsimp only
  unfold f_C_end_35
  rw [e6]
  by_cases h10 : m3.1 10 = 0
  · rw [if_pos h10]
    by_cases h7 : m3.1 7 = 0
    · rw [if_pos h7, if_pos h7, if_pos h10, if_pos rfl]
      exact ⟨_, rfl, hF, hz _ _ _⟩
    · rw [if_neg h7, if_neg h7]
      by_cases h4 : m3.1 5 &&& 4 = 0
      · rw [if_pos h4, if_pos rfl, if_pos rfl, if_pos h10, if_neg (by decide)]
        exact ⟨_, rfl, hI, hz _ _ _⟩
      · rw [if_neg h4, if_neg (by decide), if_neg (by decide), if_pos h10, if_pos rfl]
        exact ⟨_, rfl, hF, hz _ _ _⟩
  · rw [if_neg h10]
    refine ⟨_, rfl, ?_⟩
    simp only [if_neg h10]
    have e47 : f_C_end_47 s1 = f_C_begin s1 13 28 := rfl
    rw [e47]
    have key : (if m3.1 7 = 0 then f_C_begin s1 13 28 else if (if m3.1 5 &&& 4 = 0 then (0 : Int32) else 1) = 0 then f_C_begin s1 13 28 else f_C_begin s1 13 28) = f_C_begin s1 13 28 := by
      split
      · rfl
      · split <;> rfl
    rw [key]
    exact ⟨hI, hz _ _ _⟩
theorem Rc_op {st st' : CS} {rt rt' : MS} (hc : Rc st rt) (h : OpOk st st' rt rt') : Rc st' rt' := by
  obtain ⟨h1, ⟨c1, c2⟩, m1, m2⟩ := h
  obtain ⟨-, -, d1, ⟨p0, p1, p2, p3⟩, d2, d3, ⟨b0, b1', b2, b3⟩, d4⟩ := hc
  refine ⟨h1.1, h1.2, ?_, ⟨?_, ?_, ?_, ?_⟩, ?_, ?_, ⟨?_, ?_, ?_, ?_⟩, ?_⟩
  · rw [c1, m1]; exact d1
  · rw [c1, m2 6 (by decide)]; exact p0
  · rw [c1, m2 7 (by decide)]; exact p1
  · rw [c1, m2 8 (by decide)]; exact p2
  · rw [c1, m2 9 (by decide)]; exact p3
  · rw [c2 6 (by decide), m2 10 (by decide)]; exact d2
  · rw [m1]; exact d3
  · rw [m2 6 (by decide)]; exact b0
  · rw [m2 7 (by decide)]; exact b1'
  · rw [m2 8 (by decide)]; exact b2
  · rw [m2 9 (by decide)]; exact b3
  · rw [m2 10 (by decide)]; exact d4
theorem use_end {st st' st2 : CS} {rt u h : MS} {act b seen : Int32} (hh : f_M_happen u act b = h) (hn : ¬ act = 32) (h99 : (h.1 14 = 99 ∧ h.1 11 = 0) ∨ f_M_action (tV h 12 (h.1 12 + 1)) = (0, tV h 12 (h.1 12 + 1))) (hst : st' = f_C_end st2) (hc : Rc st2 (tV h 12 (h.1 12 + 1))) (hj : h.1 13 = 0) (h10 : st2.1 10 = st.1 10) (h26 : h.1 26 = rt.1 26) :
    ∃ rt' : MS, f_M_clock_101 u act b seen = (seen, rt') ∧ RR st' rt' ∧ st'.1 10 - st.1 10 = rt'.1 26 - rt.1 26 := by
  obtain ⟨rt', a1, a2, a3⟩ := sim_end (v := seen) hc hj
  refine ⟨rt', by rw [fin_end hh hn h99, a1], by rw [hst]; exact a2, ?_⟩
  rw [hst, ← h10, ← h26]
  exact a3
theorem use_go {st st' : CS} {rt u h : MS} {act b seen a : Int32} (hh : f_M_happen u act b = h) (hn : ¬ act = 32) (h99 : ¬ h.1 14 = 99 ∨ ¬ h.1 11 = 0) (ha : f_M_action (tV h 12 (h.1 12 + 1)) = (a, tV h 12 (h.1 12 + 1))) (hz : ¬ a = 0) (hR : RR st' (tV h 12 (h.1 12 + 1))) (h10 : st'.1 10 = st.1 10) (h26 : h.1 26 = rt.1 26) :
    ∃ rt' : MS, f_M_clock_101 u act b seen = (seen, rt') ∧ RR st' rt' ∧ st'.1 10 - st.1 10 = rt'.1 26 - rt.1 26 := by
  refine ⟨_, fin_go hh hn h99 ha hz, hR, ?_⟩
  have e : (tV h 12 (h.1 12 + 1)).1 26 = h.1 26 := rfl
  rw [h10, e, h26, Int32.sub_self, Int32.sub_self]
def digV (row : Int64) (t : Int32) : Int32 := Int64.toInt32 (dgI t.toNatClampNeg row - dgI t.toNatClampNeg row / 100 * 100)
theorem act_int {rt : MS} (h : rt.1 11 = 1) : f_M_action rt = (digV 29281817160505 (rt.1 12), rt) := by
  unfold f_M_action
  rw [if_pos h]
  rfl
theorem act_res {rt : MS} (h : rt.1 11 = 2) : f_M_action rt = (digV 29283030300505 (rt.1 12), rt) := by
  unfold f_M_action
  rw [if_neg (by rw [h]; decide), if_pos h]
  rfl
theorem act_fetch {rt : MS} (h : rt.1 11 = 0) (hj : rt.1 13 = 0) (hd : rt.1 12 = 0) : f_M_action rt = (1, rt) := by
  unfold f_M_action
  rw [if_neg (by rw [h]; decide), if_neg (by rw [h]; decide), if_pos hj, if_pos hd]
theorem act_jam {rt : MS} (h : rt.1 11 = 0) (hj : rt.1 13 = 1) : f_M_action rt = (32, rt) := by
  unfold f_M_action
  rw [if_neg (by rw [h]; decide), if_neg (by rw [h]; decide), if_neg (by rw [hj]; decide)]
theorem act_plain {rt : MS} {row : Int64} (h : rt.1 11 = 0) (hj : rt.1 13 = 0) (hd : ¬ rt.1 12 = 0) (hm : rt.1 15 = 7 ∨ ¬ rt.1 14 ≤ 13) (hr : f_M_plainRow rt = (row, rt)) : f_M_action rt = (digV row (rt.1 12 - 1), rt) := by
  have e : f_M_action_75 rt = (digV row (rt.1 12 - 1), rt) := by
    unfold f_M_action_75
    rw [hr]
    rfl
  unfold f_M_action
  rw [if_neg (by rw [h]; decide), if_neg (by rw [h]; decide), if_pos hj, if_neg hd]
  by_cases h7 : rt.1 15 = 7
  · rw [if_pos h7]; exact e
  · rw [if_neg h7]
    rcases hm with q | q
    · exact absurd q h7
    · rw [if_neg q]; exact e
def rowA (mode : Int32) : Int64 := if mode = 0 then 0 else if mode = 1 then 2 else if mode = 2 then 602 else if mode = 3 then 302 else if mode = 4 then 302 else if mode = 5 then 10090602 else 100902
def accV (op x : Int32) : Int32 := if op = 1 then (if x = 0 then 12 else 0) else if op < 10 then (if x = 0 then 11 else 0) else if 13 < op then (if x = 0 then 11 else 0) else (if x = 0 then 13 else if x = 1 then 14 else if x = 2 then 15 else 0)
def actA (done op mode h : Int32) : Int32 := if lnI 10 (rowA mode) 0 < done then (if h = 1 then (if done = lnI 10 (rowA mode) 0 + 1 then 8 else accV op (((done - lnI 10 (rowA mode) 0) - h) - 1)) else accV op (((done - lnI 10 (rowA mode) 0) - h) - 1)) else digV (rowA mode) (done - 1)
theorem M_rowA (rt : MS) : f_M_addressRow rt = (rowA (rt.1 15), rt) := by
  unfold f_M_addressRow rowA
  repeat' split
  all_goals rfl
theorem M_isC (rt : MS) : f_M_isChange rt = ((if rt.1 14 < 10 then 0 else if 13 < rt.1 14 then 0 else 1), rt) := by
  unfold f_M_isChange
  split
  · rfl
  · split <;> rfl
theorem M_acc (rt : MS) (x : Int32) : f_M_access rt x = (accV (rt.1 14) x, rt) := by
  unfold f_M_access accV
  rw [M_isC]
  by_cases h1 : rt.1 14 = 1
  · rw [if_pos h1, if_pos h1]
    split <;> rfl
  · rw [if_neg h1, if_neg h1]
    by_cases h2 : rt.1 14 < 10
    · rw [if_pos h2, if_pos h2]
      show (if x = 0 then _ else _) = _
      split <;> rfl
    · rw [if_neg h2, if_neg h2]
      by_cases h3 : 13 < rt.1 14
      · rw [if_pos h3, if_pos h3]
        show (if x = 0 then _ else _) = _
        split <;> rfl
      · rw [if_neg h3, if_neg h3]
        show (if x = 0 then _ else if x = 1 then _ else if x = 2 then _ else _) = _
        split
        · rfl
        · split
          · rfl
          · split <;> rfl
theorem act_addr {rt : MS} {hv : Int32} (h : rt.1 11 = 0) (hj : rt.1 13 = 0) (hd : ¬ rt.1 12 = 0) (hm : ¬ rt.1 15 = 7) (ho : rt.1 14 ≤ 13) (hh : rt.1 22 = hv) (hv2 : hv = 0 ∨ hv = 1) : f_M_action rt = (actA (rt.1 12) (rt.1 14) (rt.1 15) hv, rt) := by
  have k : ∀ (n x : Int32), f_M_action_153 rt n x = (accV (rt.1 14) (((rt.1 12 - n) - x) - 1), rt) := by
    intro n x
    unfold f_M_action_153
    rw [M_acc]
    rfl
  have e : f_M_action rt = (if lnI 10 (f_M_addressRow rt).1 0 < (f_M_addressRow rt).2.1 12 then (if (f_M_addressRow rt).2.1 22 = 0 then f_M_action_130 (f_M_addressRow rt).2 (lnI 10 (f_M_addressRow rt).1 0) 0 else f_M_action_130 (f_M_addressRow rt).2 (lnI 10 (f_M_addressRow rt).1 0) 1) else (digV (f_M_addressRow rt).1 ((f_M_addressRow rt).2.1 12 - 1), (f_M_addressRow rt).2)) := by
    unfold f_M_action
    rw [if_neg (by rw [h]; decide), if_neg (by rw [h]; decide), if_pos hj, if_neg hd, if_neg hm, if_pos ho]
    rfl
  rw [e, M_rowA]
  dsimp only
  unfold actA f_M_action_130
  rw [k, k, hh]
  by_cases hl : lnI 10 (rowA (rt.1 15)) 0 < rt.1 12
  · rw [if_pos hl, if_pos hl]
    rcases hv2 with rfl | rfl
    · rw [if_pos rfl, if_neg (by decide), if_neg (by decide)]
    · rw [if_neg (by decide), if_pos rfl, if_pos rfl]
      split <;> rfl
  · rw [if_neg hl, if_neg hl]
def aN (k j d h : Nat) : Int32 := actA (nI d) (nI k) (nI j) (nI h)
theorem aN1 : ∀ k, k < 14 → kdN k 0 = 0 → aN k 0 1 0 = 11 ∧ aN k 0 2 0 = 0 := by decide +kernel
theorem aN2 : ∀ k, k < 14 → ∀ j, j < 7 → (j = 1 ∨ j = 2 ∨ j = 5 ∨ j = 6) → aN k j 1 0 = 2 := by decide +kernel
theorem aN3 : ∀ k, k < 14 → ∀ j, j < 7 → (j = 2 ∨ j = 5) → aN k j 2 0 = 6 := by decide +kernel
theorem aN4 : ∀ k, k < 14 → aN k 5 3 0 = 9 ∧ aN k 6 2 0 = 9 := by decide +kernel
theorem aN5 : ∀ k, k < 14 → aN k 5 4 0 = 10 ∧ aN k 6 3 0 = 10 := by decide +kernel
theorem aN6 : ∀ k, k < 14 → aN k 3 1 0 = 2 ∧ aN k 4 1 0 = 2 ∧ aN k 3 2 0 = 3 ∧ aN k 4 2 0 = 3 := by decide +kernel
theorem aN8 : ∀ k, k < 14 → aN k 4 3 1 = 8 ∧ aN k 6 4 1 = 8 := by decide +kernel
theorem aN9a : ∀ k, k < 14 → ∀ j, j < 7 → 1 ≤ j → kdN k j = 0 → aN k j (njN j + 1) 0 = 11 := by decide +kernel
theorem aN9b : ∀ k, k < 14 → ∀ j, j < 7 → 1 ≤ j → kdN k j = 1 → aN k j (njN j + 1) 0 = 12 := by decide +kernel
theorem aN9c : ∀ k, k < 14 → ∀ j, j < 7 → 1 ≤ j → kdN k j = 2 → aN k j (njN j + 1) 0 = 13 := by decide +kernel
theorem aN9d : ∀ k, k < 14 → ∀ j, j < 7 → (j = 4 ∨ j = 6) → kdN k j = 0 → aN k j (njN j + 2) 1 = 11 := by decide +kernel
theorem aN9f : ∀ k, k < 14 → ∀ j, j < 7 → (j = 4 ∨ j = 6) → kdN k j = 1 → aN k j (njN j + 2) 1 = 12 := by decide +kernel
theorem aN9g : ∀ k, k < 14 → ∀ j, j < 7 → (j = 4 ∨ j = 6) → kdN k j = 2 → aN k j (njN j + 2) 1 = 13 := by decide +kernel
theorem aN9h : ∀ k, k < 14 → ∀ j, j < 7 → 1 ≤ j → kdN k j = 0 → aN k j (njN j + 2) 0 = 0 := by decide +kernel
theorem aN9i : ∀ k, k < 14 → ∀ j, j < 7 → 1 ≤ j → kdN k j = 1 → aN k j (njN j + 2) 0 = 0 := by decide +kernel
theorem aN9j : ∀ k, k < 14 → ∀ j, j < 7 → (j = 4 ∨ j = 6) → kdN k j = 0 → aN k j (njN j + 3) 1 = 0 := by decide +kernel
theorem aN9k : ∀ k, k < 14 → ∀ j, j < 7 → (j = 4 ∨ j = 6) → kdN k j = 1 → aN k j (njN j + 3) 1 = 0 := by decide +kernel
theorem aN10a : ∀ k, k < 14 → ∀ j, j < 7 → kdN k j = 2 → aN k j (njN j + 2) 0 = 14 := by decide +kernel
theorem aN10b : ∀ k, k < 14 → ∀ j, j < 7 → kdN k j = 2 → aN k j (njN j + 3) 0 = 15 := by decide +kernel
theorem aN10c : ∀ k, k < 14 → ∀ j, j < 7 → kdN k j = 2 → aN k j (njN j + 4) 0 = 0 := by decide +kernel
theorem aN10d : ∀ k, k < 14 → kdN k 4 = 2 → aN k 4 (njN 4 + 3) 1 = 14 ∧ aN k 4 (njN 4 + 4) 1 = 15 ∧ aN k 4 (njN 4 + 5) 1 = 0 := by decide +kernel

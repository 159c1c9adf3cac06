/-! set and pin agree -/
theorem sim_set {st : CS} {rt : MS} {v w : Int32} (hR : RR st rt) (hq1 : ¬ v < 0) (hq2 : v ≤ 5) (hq3 : st.2.1 = 0) : RR (f_C_set st v w) (f_M_set rt v w) ∧ (f_M_set rt v w).1 27 = 0 := by
  have z : rt.1 11 = 0 ∧ rt.1 12 = 0 ∧ rt.1 13 = 0 := by
    rcases sit_i hR.2.2 with ⟨-, a⟩ | ⟨a, -⟩ | ⟨a, -⟩
    · exact a
    · rw [hq3] at a; exact absurd a (by decide)
    · exact absurd hq3 a
  have eM : f_M_set rt v w = (if v = 0 then tV (tV rt 27 0) 0 (w &&& 255) else if v = 1 then tV (tV rt 27 0) 1 (w &&& 255) else if v = 2 then tV (tV rt 27 0) 2 (w &&& 255) else if v = 3 then tV (tV rt 27 0) 3 (w &&& 255) else if v = 4 then tV (tV rt 27 0) 4 (w &&& 65535) else tV (tV rt 27 0) 5 (w &&& 207)) := by
    unfold f_M_set
    rw [if_neg hq1, if_pos hq2, if_pos z.1, if_pos z.2.1]
    rfl
  have eC : f_C_set st v w = (if v = 0 then sV st 0 (w &&& 255) else if v = 1 then sV st 1 (w &&& 255) else if v = 2 then sV st 2 (w &&& 255) else if v = 3 then sV st 3 (w &&& 255) else if v = 4 then sV st 4 (w &&& 65535) else sV st 5 (w &&& 207)) := rfl
  have hc : Rc st (tV rt 27 0) := hR.1
  have o := OpOk.rf hc.1 hc.2.1
  have fin : ∀ (k : Nat) (x : Int32), k < 6 → Rc (sV st k x) (tV (tV rt 27 0) k x) → RR (sV st k x) (tV (tV rt 27 0) k x) ∧ (tV (tV rt 27 0) k x).1 27 = 0 := by
    intro k x hk h
    have f : ∀ i, 6 ≤ i → (tV (tV rt 27 0) k x).1 i = (tV rt 27 0).1 i := fun i hi => by
      show upd (tV rt 27 0).1 k x i = _
      exact upd_ge hk hi
    have g : ∀ i, 6 ≤ i → (sV st k x).1 i = st.1 i := fun i hi => by
      show upd st.1 k x i = _
      exact upd_ge hk hi
    refine ⟨⟨h, ?_, Or.inl ⟨hq3, ?_, ?_, ?_⟩⟩, ?_⟩
    · rw [g 9 (by decide), f 12 (by decide)]; exact hR.2.1
    · rw [f 11 (by decide)]; exact z.1
    · rw [f 12 (by decide)]; exact z.2.1
    · rw [f 13 (by decide)]; exact z.2.2
    · rw [f 27 (by decide)]; rfl
  rw [eM, eC]
  by_cases q0 : v = 0
  · rw [if_pos q0, if_pos q0]; exact fin 0 _ (by decide) (Rc_op hc (o.a (isB_and _)))
  rw [if_neg q0, if_neg q0]
  by_cases q1 : v = 1
  · rw [if_pos q1, if_pos q1]; exact fin 1 _ (by decide) (Rc_op hc (o.x (isB_and _)))
  rw [if_neg q1, if_neg q1]
  by_cases q2 : v = 2
  · rw [if_pos q2, if_pos q2]; exact fin 2 _ (by decide) (Rc_op hc (o.y (isB_and _)))
  rw [if_neg q2, if_neg q2]
  by_cases q3 : v = 3
  · rw [if_pos q3, if_pos q3]; exact fin 3 _ (by decide) (Rc_op hc (o.s (isB_and _)))
  rw [if_neg q3, if_neg q3]
  by_cases q4 : v = 4
  · rw [if_pos q4, if_pos q4]; exact fin 4 _ (by decide) (Rc_op hc (o.pc (isW_and _)))
  rw [if_neg q4, if_neg q4]
  exact fin 5 _ (by decide) (Rc_op hc (o.f (isF_and _)))
theorem pin_0_0 {st : CS} {rt : MS} (hR : RR st rt) : (f_C_pin st 0 0).1 = (f_M_pin rt 0 0).1 ∧ RR (f_C_pin st 0 0).2 (f_M_pin rt 0 0).2 ∧ (f_M_pin rt 0 0).2.1 27 = 0 := by
  obtain ⟨⟨he, hg, d1, ⟨p0, p1, p2, p3⟩, d3, d4, ⟨b0, b1, b2, b3⟩, d6⟩, hd, hs⟩ := id hR
  have ho : rP st 0 = rt.1 6 := p0
  have eC : f_C_pin st 0 0 = (rP st 0, sP st 0 0) := rfl
  rw [eC]
  have eM : f_M_pin rt 0 0 = if rt.1 10 = 0 then (rt.1 6, tV (tV (tV rt 27 0) 6 0) 10 0) else (rt.1 6, tV (tV (tV rt 27 0) 6 0) 10 1) := rfl
  rw [eM]
  rcases d6 with r | r
  · rw [if_pos r]
    exact ⟨ho, ⟨⟨he, hg, d1, ⟨rfl, p1, p2, p3⟩, d3.trans r, d4, ⟨Or.inl rfl, b1, b2, b3⟩, Or.inl rfl⟩, hd, hs⟩, rfl⟩
  · rw [if_neg (by rw [r]; decide)]
    exact ⟨ho, ⟨⟨he, hg, d1, ⟨rfl, p1, p2, p3⟩, d3.trans r, d4, ⟨Or.inl rfl, b1, b2, b3⟩, Or.inr rfl⟩, hd, hs⟩, rfl⟩
theorem pin_0_1 {st : CS} {rt : MS} (hR : RR st rt) : (f_C_pin st 0 1).1 = (f_M_pin rt 0 1).1 ∧ RR (f_C_pin st 0 1).2 (f_M_pin rt 0 1).2 ∧ (f_M_pin rt 0 1).2.1 27 = 0 := by
  obtain ⟨⟨he, hg, d1, ⟨p0, p1, p2, p3⟩, d3, d4, ⟨b0, b1, b2, b3⟩, d6⟩, hd, hs⟩ := id hR
  have ho : rP st 0 = rt.1 6 := p0
  have eC : f_C_pin st 0 1 = if rP st 0 = 0 then (rP st 0, sV (sP st 0 1) 6 1) else (rP st 0, sP st 0 1) := rfl
  rw [eC]
  have eM : f_M_pin rt 0 1 = if rt.1 6 = 0 then (if rt.1 10 = 0 then (rt.1 6, tV (tV (tV rt 27 0) 6 1) 10 1) else (rt.1 6, tV (tV (tV rt 27 0) 6 1) 10 1)) else (if rt.1 10 = 0 then (rt.1 6, tV (tV (tV rt 27 0) 6 1) 10 0) else (rt.1 6, tV (tV (tV rt 27 0) 6 1) 10 1)) := rfl
  rw [eM, ho]
  by_cases q : rt.1 6 = 0
  · rw [if_pos q, if_pos q]
    rcases d6 with r | r
    · rw [if_pos r]
      exact ⟨rfl, ⟨⟨he, hg, d1, ⟨rfl, p1, p2, p3⟩, rfl, d4, ⟨Or.inr rfl, b1, b2, b3⟩, Or.inr rfl⟩, hd, hs⟩, rfl⟩
    · rw [if_neg (by rw [r]; decide)]
      exact ⟨rfl, ⟨⟨he, hg, d1, ⟨rfl, p1, p2, p3⟩, rfl, d4, ⟨Or.inr rfl, b1, b2, b3⟩, Or.inr rfl⟩, hd, hs⟩, rfl⟩
  · rw [if_neg q, if_neg q]
    rcases d6 with r | r
    · rw [if_pos r]
      exact ⟨rfl, ⟨⟨he, hg, d1, ⟨rfl, p1, p2, p3⟩, d3.trans r, d4, ⟨Or.inr rfl, b1, b2, b3⟩, Or.inl rfl⟩, hd, hs⟩, rfl⟩
    · rw [if_neg (by rw [r]; decide)]
      exact ⟨rfl, ⟨⟨he, hg, d1, ⟨rfl, p1, p2, p3⟩, d3.trans r, d4, ⟨Or.inr rfl, b1, b2, b3⟩, Or.inr rfl⟩, hd, hs⟩, rfl⟩
theorem pin_1_0 {st : CS} {rt : MS} (hR : RR st rt) : (f_C_pin st 1 0).1 = (f_M_pin rt 1 0).1 ∧ RR (f_C_pin st 1 0).2 (f_M_pin rt 1 0).2 ∧ (f_M_pin rt 1 0).2.1 27 = 0 := by
  obtain ⟨⟨he, hg, d1, ⟨p0, p1, p2, p3⟩, d3, d4, ⟨b0, b1, b2, b3⟩, d6⟩, hd, hs⟩ := id hR
  have ho : rP st 1 = rt.1 7 := p1
  have eC : f_C_pin st 1 0 = (rP st 1, sP st 1 0) := rfl
  rw [eC]
  have eM : f_M_pin rt 1 0 = (rt.1 7, (tV (tV rt 27 0) 7 0)) := rfl
  rw [eM]
  exact ⟨ho, ⟨⟨he, hg, d1, ⟨p0, rfl, p2, p3⟩, d3, d4, ⟨b0, Or.inl rfl, b2, b3⟩, d6⟩, hd, hs⟩, rfl⟩
theorem pin_1_1 {st : CS} {rt : MS} (hR : RR st rt) : (f_C_pin st 1 1).1 = (f_M_pin rt 1 1).1 ∧ RR (f_C_pin st 1 1).2 (f_M_pin rt 1 1).2 ∧ (f_M_pin rt 1 1).2.1 27 = 0 := by
  obtain ⟨⟨he, hg, d1, ⟨p0, p1, p2, p3⟩, d3, d4, ⟨b0, b1, b2, b3⟩, d6⟩, hd, hs⟩ := id hR
  have ho : rP st 1 = rt.1 7 := p1
  have eC : f_C_pin st 1 1 = if rP st 1 = 0 then (rP st 1, sP st 1 1) else (rP st 1, sP st 1 1) := rfl
  rw [eC]
  have eM : f_M_pin rt 1 1 = if rt.1 7 = 0 then (rt.1 7, (tV (tV rt 27 0) 7 1)) else (rt.1 7, (tV (tV rt 27 0) 7 1)) := rfl
  rw [eM, ho]
  by_cases q : rt.1 7 = 0
  · rw [if_pos q, if_pos q]
    exact ⟨rfl, ⟨⟨he, hg, d1, ⟨p0, rfl, p2, p3⟩, d3, d4, ⟨b0, Or.inr rfl, b2, b3⟩, d6⟩, hd, hs⟩, rfl⟩
  · rw [if_neg q, if_neg q]
    exact ⟨rfl, ⟨⟨he, hg, d1, ⟨p0, rfl, p2, p3⟩, d3, d4, ⟨b0, Or.inr rfl, b2, b3⟩, d6⟩, hd, hs⟩, rfl⟩
theorem pin_2_0 {st : CS} {rt : MS} (hR : RR st rt) : (f_C_pin st 2 0).1 = (f_M_pin rt 2 0).1 ∧ RR (f_C_pin st 2 0).2 (f_M_pin rt 2 0).2 ∧ (f_M_pin rt 2 0).2.1 27 = 0 := by
  obtain ⟨⟨he, hg, d1, ⟨p0, p1, p2, p3⟩, d3, d4, ⟨b0, b1, b2, b3⟩, d6⟩, hd, hs⟩ := id hR
  have ho : rP st 2 = rt.1 8 := p2
  have eC : f_C_pin st 2 0 = (rP st 2, sP st 2 0) := rfl
  rw [eC]
  have eM : f_M_pin rt 2 0 = (rt.1 8, (tV (tV rt 27 0) 8 0)) := rfl
  rw [eM]
  exact ⟨ho, ⟨⟨he, hg, d1, ⟨p0, p1, rfl, p3⟩, d3, d4, ⟨b0, b1, Or.inl rfl, b3⟩, d6⟩, hd, hs⟩, rfl⟩
theorem pin_2_1 {st : CS} {rt : MS} (hR : RR st rt) : (f_C_pin st 2 1).1 = (f_M_pin rt 2 1).1 ∧ RR (f_C_pin st 2 1).2 (f_M_pin rt 2 1).2 ∧ (f_M_pin rt 2 1).2.1 27 = 0 := by
  obtain ⟨⟨he, hg, d1, ⟨p0, p1, p2, p3⟩, d3, d4, ⟨b0, b1, b2, b3⟩, d6⟩, hd, hs⟩ := id hR
  have ho : rP st 2 = rt.1 8 := p2
  have eC : f_C_pin st 2 1 = if rP st 2 = 0 then (rP st 2, sP st 2 1) else (rP st 2, sP st 2 1) := rfl
  rw [eC]
  have eM : f_M_pin rt 2 1 = if rt.1 8 = 0 then (rt.1 8, (tV (tV rt 27 0) 8 1)) else (rt.1 8, (tV (tV rt 27 0) 8 1)) := rfl
  rw [eM, ho]
  by_cases q : rt.1 8 = 0
  · rw [if_pos q, if_pos q]
    exact ⟨rfl, ⟨⟨he, hg, d1, ⟨p0, p1, rfl, p3⟩, d3, d4, ⟨b0, b1, Or.inr rfl, b3⟩, d6⟩, hd, hs⟩, rfl⟩
  · rw [if_neg q, if_neg q]
    exact ⟨rfl, ⟨⟨he, hg, d1, ⟨p0, p1, rfl, p3⟩, d3, d4, ⟨b0, b1, Or.inr rfl, b3⟩, d6⟩, hd, hs⟩, rfl⟩
theorem pin_3_0 {st : CS} {rt : MS} (hR : RR st rt) : (f_C_pin st 3 0).1 = (f_M_pin rt 3 0).1 ∧ RR (f_C_pin st 3 0).2 (f_M_pin rt 3 0).2 ∧ (f_M_pin rt 3 0).2.1 27 = 0 := by
  obtain ⟨⟨he, hg, d1, ⟨p0, p1, p2, p3⟩, d3, d4, ⟨b0, b1, b2, b3⟩, d6⟩, hd, hs⟩ := id hR
  have ho : rP st 3 = rt.1 9 := p3
  have eC : f_C_pin st 3 0 = (rP st 3, sP st 3 0) := rfl
  rw [eC]
  have eM : f_M_pin rt 3 0 = (rt.1 9, tV (tV (tV rt 27 0) 9 0) 5 (rt.1 5)) := rfl
  rw [eM]
  exact ⟨ho, ⟨⟨he, hg, d1, ⟨p0, p1, p2, rfl⟩, d3, d4, ⟨b0, b1, b2, Or.inl rfl⟩, d6⟩, hd, hs⟩, rfl⟩
theorem pin_3_1 {st : CS} {rt : MS} (hR : RR st rt) : (f_C_pin st 3 1).1 = (f_M_pin rt 3 1).1 ∧ RR (f_C_pin st 3 1).2 (f_M_pin rt 3 1).2 ∧ (f_M_pin rt 3 1).2.1 27 = 0 := by
  obtain ⟨⟨he, hg, d1, ⟨p0, p1, p2, p3⟩, d3, d4, ⟨b0, b1, b2, b3⟩, d6⟩, hd, hs⟩ := id hR
  have ho : rP st 3 = rt.1 9 := p3
  have eC : f_C_pin st 3 1 = if rP st 3 = 0 then (rP st 3, sV (sP st 3 1) 5 (st.1 5 ||| 64)) else (rP st 3, sP st 3 1) := rfl
  rw [eC]
  have eM : f_M_pin rt 3 1 = if rt.1 9 = 0 then (rt.1 9, tV (tV (tV rt 27 0) 9 1) 5 (rt.1 5 ||| 64)) else (rt.1 9, tV (tV (tV rt 27 0) 9 1) 5 (rt.1 5)) := rfl
  rw [eM, ho]
  obtain ⟨e0, e1, e2, e3, e4, e5⟩ := he
  obtain ⟨g0, g1, g2, g3, g4, g5⟩ := hg
  by_cases q : rt.1 9 = 0
  · rw [if_pos q, if_pos q]
    exact ⟨rfl, ⟨⟨⟨e0, e1, e2, e3, e4, congrArg (· ||| 64) e5⟩, ⟨g0, g1, g2, g3, g4, isF_put g5 64 (by decide) 1⟩, d1, ⟨p0, p1, p2, rfl⟩, d3, d4, ⟨b0, b1, b2, Or.inr rfl⟩, d6⟩, hd, hs⟩, rfl⟩
  · rw [if_neg q, if_neg q]
    exact ⟨rfl, ⟨⟨⟨e0, e1, e2, e3, e4, e5⟩, ⟨g0, g1, g2, g3, g4, g5⟩, d1, ⟨p0, p1, p2, rfl⟩, d3, d4, ⟨b0, b1, b2, Or.inr rfl⟩, d6⟩, hd, hs⟩, rfl⟩
theorem sim_pin {st : CS} {rt : MS} {p v : Int32} (hR : RR st rt) (hq1 : ¬ p < 0) (hq2 : p ≤ 3) (hv : v = 0 ∨ v = 1) : (f_C_pin st p v).1 = (f_M_pin rt p v).1 ∧ RR (f_C_pin st p v).2 (f_M_pin rt p v).2 ∧ (f_M_pin rt p v).2.1 27 = 0 := by
  rcases i_lt4 hq1 hq2 with rfl | rfl | rfl | rfl
  · rcases hv with rfl | rfl
    · exact pin_0_0 hR
    · exact pin_0_1 hR
  · rcases hv with rfl | rfl
    · exact pin_1_0 hR
    · exact pin_1_1 hR
  · rcases hv with rfl | rfl
    · exact pin_2_0 hR
    · exact pin_2_1 hR
  · rcases hv with rfl | rfl
    · exact pin_3_0 hR
    · exact pin_3_1 hR
/-- what k_C_pin asks of the class's pins -/
theorem RR_pins {st : CS} {rt : MS} {p : Int32} (hR : RR st rt) (hq1 : ¬ p < 0) (hq2 : p ≤ 3) : rP st p = 0 ∨ rP st p = 1 := by
  obtain ⟨⟨he, hg, d1, ⟨p0, p1, p2, p3⟩, d3, d4, ⟨b0, b1, b2, b3⟩, d6⟩, hd, hs⟩ := id hR
  rcases i_lt4 hq1 hq2 with rfl | rfl | rfl | rfl
  · exact (show rP st 0 = rt.1 6 from p0) ▸ b0
  · exact (show rP st 1 = rt.1 7 from p1) ▸ b1
  · exact (show rP st 2 = rt.1 8 from p2) ▸ b2
  · exact (show rP st 3 = rt.1 9 from p3) ▸ b3

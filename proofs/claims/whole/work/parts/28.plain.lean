/-! one cycle of jumps, calls, stack, returns, break, and what works on registers alone -/
theorem Sit_P {st : CS} {rt : MS} {k j d : Nat} (h11 : rt.1 11 = 0) (h13 : rt.1 13 = 0) (hk : k < 32) (hj : j < 8) (h14 : rt.1 14 = nI k) (h15 : rt.1 15 = nI j) (h7 : st.1 7 = nI k) (h8 : st.1 8 = nI j) (h12 : rt.1 12 = nI d) (hkd : st.2.2.1 = kdN k j) (hge : 4 ≤ (kdN k j).val) (hP : InP st rt d) : Sit st rt :=
  Or.inr (Or.inr (Or.inr (Or.inr ⟨h11, h13, k, j, d, hk, hj, h14, h15, h7, h8, h12, hkd, Or.inr (Or.inr ⟨hge, hP⟩)⟩)))
theorem nx_pl {h : MS} {row : Int64} {d a : Int32} (h11 : h.1 11 = 0) (h13 : h.1 13 = 0) (h12 : h.1 12 + 1 = d) (hd0 : ¬ d = 0) (hm : h.1 15 = 7 ∨ ¬ h.1 14 ≤ 13) (hr : f_M_plainRow (tV h 12 (h.1 12 + 1)) = (row, tV h 12 (h.1 12 + 1))) (ha : digV row (d - 1) = a) : f_M_action (tV h 12 (h.1 12 + 1)) = (a, tV h 12 (h.1 12 + 1)) := by
  rw [act_plain (rt := tV h 12 (h.1 12 + 1)) h11 h13 (show ¬ h.1 12 + 1 = 0 by rw [h12]; exact hd0) hm hr]
  show (digV row (h.1 12 + 1 - 1), _) = _
  rw [h12, ha]
theorem M_tk2 (rt : MS) : (f_M_isTaken rt).2 = rt := by
  have k : ∀ (x y : Int32), (f_M_isTaken_40 rt x y).2 = rt := by
    intro x y
    have e : f_M_isTaken_40 rt x y = (if (x - x / 2 * 2) = 1 then f_M_isTaken_58 (f_M_is rt y).2 1 (f_M_is rt y).1 else f_M_isTaken_58 (f_M_is rt y).2 0 (f_M_is rt y).1) := rfl
    rw [e, M_is]
    dsimp only
    unfold f_M_isTaken_58
    repeat' split
    all_goals rfl
  have e : f_M_isTaken rt = (if 2 ≤ rt.1 14 - 16 then (if 4 ≤ rt.1 14 - 16 then (if 6 ≤ rt.1 14 - 16 then f_M_isTaken_40 rt (rt.1 14 - 16) 2 else f_M_isTaken_40 rt (rt.1 14 - 16) 1) else f_M_isTaken_40 rt (rt.1 14 - 16) 64) else f_M_isTaken_40 rt (rt.1 14 - 16) 128) := rfl
  rw [e]
  repeat' split
  all_goals exact k _ _
theorem hp_2 (u : MS) (b : Int32) : f_M_happen u 2 b = tV (f_M_next (tV u 16 b)) 21 (f_M_isTaken (f_M_next (tV u 16 b))).1 := by
  have e : f_M_happen u 2 b = tV (f_M_isTaken (f_M_next (tV u 16 b))).2 21 (f_M_isTaken (f_M_next (tV u 16 b))).1 := rfl
  rw [e, M_tk2]
theorem hp_5p {u : MS} (b : Int32) (h11 : u.1 11 = 0) (h15 : u.1 15 = 7) (h14 : 16 ≤ u.1 14) : f_M_happen u 5 b = tV u 3 (u.1 3) := by
  rw [hp_5]
  unfold f_M_idle
  rw [if_pos (show (tV u 3 (u.1 3)).1 11 = 0 from h11), if_pos (show (tV u 3 (u.1 3)).1 15 = 7 from h15), if_pos (show 16 ≤ (tV u 3 (u.1 3)).1 14 from h14)]
  unfold f_M_idle_33
  rw [if_neg (show ¬ (tV u 3 (u.1 3)).1 15 = 0 by show ¬ u.1 15 = 0; rw [h15]; decide)]
  rfl
theorem hp_5a {u : MS} (b : Int32) (h11 : u.1 11 = 0) (h15 : u.1 15 = 7) (h14 : ¬ 16 ≤ u.1 14) : f_M_happen u 5 b = f_M_plain (tV u 3 (u.1 3)) := by
  rw [hp_5]
  unfold f_M_idle
  rw [if_pos (show (tV u 3 (u.1 3)).1 11 = 0 from h11), if_pos (show (tV u 3 (u.1 3)).1 15 = 7 from h15), if_neg (show ¬ 16 ≤ (tV u 3 (u.1 3)).1 14 from h14)]
  rfl
theorem row_16 {u : MS} (h15 : u.1 15 = 7) (h14 : u.1 14 = 16) : f_M_plainRow u = (1905, u) := by
  unfold f_M_plainRow
  rw [h15, h14]
  rfl
theorem row_17 {u : MS} (h15 : u.1 15 = 7) (h14 : u.1 14 = 17) : f_M_plainRow u = (210705, u) := by
  unfold f_M_plainRow
  rw [h15, h14]
  rfl
theorem row_18 {u : MS} (h15 : u.1 15 = 7) (h14 : u.1 14 = 18) : f_M_plainRow u = (2005, u) := by
  unfold f_M_plainRow
  rw [h15, h14]
  rfl
theorem row_19 {u : MS} (h15 : u.1 15 = 7) (h14 : u.1 14 = 19) : f_M_plainRow u = (220705, u) := by
  unfold f_M_plainRow
  rw [h15, h14]
  rfl
theorem row_20 {u : MS} (h15 : u.1 15 = 7) (h14 : u.1 14 = 20) : f_M_plainRow u = (2524230705, u) := by
  unfold f_M_plainRow
  rw [h15, h14]
  rfl
theorem row_21 {u : MS} (h15 : u.1 15 = 7) (h14 : u.1 14 = 21) : f_M_plainRow u = (2423220705, u) := by
  unfold f_M_plainRow
  rw [h15, h14]
  rfl
theorem row_22 {u : MS} (h15 : u.1 15 = 7) (h14 : u.1 14 = 22) : f_M_plainRow u = (292818171604, u) := by
  unfold f_M_plainRow
  rw [h15, h14]
  rfl
theorem row_24 {u : MS} (h15 : u.1 15 = 3) (h14 : u.1 14 = 24) : f_M_plainRow u = (2702, u) := by
  unfold f_M_plainRow
  rw [h15, h14]
  rfl
theorem row_25 {u : MS} (h15 : u.1 15 = 3) (h14 : u.1 14 = 25) : f_M_plainRow u = (2617160702, u) := by
  unfold f_M_plainRow
  rw [h15, h14]
  rfl
theorem lo_dec : ∀ k, k < 16 → (¬ nI k = 16 ∧ ¬ nI k = 17 ∧ ¬ nI k = 18 ∧ ¬ nI k = 19) ∧ (¬ nI k = 20 ∧ ¬ nI k = 21 ∧ ¬ nI k = 22) ∧ ¬ 16 ≤ nI k ∧ ¬ nI k = 99 := by decide +kernel
theorem row_lo {u : MS} {k : Nat} (hk : k < 16) (h15 : u.1 15 = 7) (h14 : u.1 14 = nI k) : f_M_plainRow u = (5, u) := by
  obtain ⟨⟨a1, a2, a3, a4⟩, ⟨a5, a6, a7⟩, -⟩ := lo_dec k hk
  unfold f_M_plainRow
  rw [h14, if_pos h15, if_neg a1, if_neg a2, if_neg a3, if_neg a4, if_neg a5, if_neg a6, if_neg a7]
set_option maxHeartbeats 4000000 in
theorem P24_1 {st : CS} {rt : MS} (hR : RR st rt) (h11 : rt.1 11 = 0) (h13 : rt.1 13 = 0) (h14 : rt.1 14 = 24) (h15 : rt.1 15 = 3) (h7 : st.1 7 = 24) (h8 : st.1 8 = 3) (hkd : st.2.2.1 = 4) (hst : st.2.1 = 6) (h12 : rt.1 12 = 1) : Sim st rt := by
  have hc := hR.1
  have hd := hR.2.1
  obtain ⟨⟨e0, e1, e2, e3, e4, e5⟩, ⟨g0, g1, g2, g3, g4, g5⟩, d1, d2, d3, d4, d5, d6⟩ := id hc
  have hm : rt.1 15 = 7 ∨ ¬ rt.1 14 ≤ 13 := Or.inr (by rw [h14]; decide)
  have n99 : ¬ rt.1 14 = 99 := by rw [h14]; decide
  have hact : f_M_action rt = (2, rt) := by
    rw [act_plain h11 h13 (by rw [h12]; decide) hm (row_24 h15 h14), h12]
    exact congrArg (·, rt) (by decide +kernel)
  refine sim_read hR (ad := st.1 4) (act := 2) (ad_6 hst) (by rw [hst]; rfl) hact (by rw [pl_2, ← e4, w_and g4]) (fun b seen hb hbe => ?_)
  have eC : f_C_afterRead (sV st 9 (st.1 9 + 1)) b = sS (sV (sV (sV st 9 (st.1 9 + 1)) 4 ((st.1 4 + 1) &&& 65535)) 13 b) 7 := by
    rw [rd_6 (u := (sV st 9 (st.1 9 + 1))) hst]
    have e : f_C_afterFarLow (sV st 9 (st.1 9 + 1)) b = (if st.2.2.1 = 5 then sS (sV (sV (sV st 9 (st.1 9 + 1)) 4 ((st.1 4 + 1) &&& 65535)) 13 b) 19 else sS (sV (sV (sV st 9 (st.1 9 + 1)) 4 ((st.1 4 + 1) &&& 65535)) 13 b) 7) := rfl
    rw [e, if_neg (by rw [hkd]; decide)]
  rw [eC]
  exact use_go (a := 27) (hp_2 _ b) (by decide) (Or.inl n99) (nx_pl (row := 2702) (d := 2) h11 h13 (show rt.1 12 + 1 = 2 by rw [h12]; rfl) (by decide) hm (row_24 h15 h14) (by decide +kernel)) (by decide) ⟨show Rc (sV st 4 ((st.1 4 + 1) &&& 65535)) (tV rt 4 ((rt.1 4 + 1) &&& 65535)) from Rc_next hc, by show st.1 9 + 1 = rt.1 12 + 1; rw [hd], (Sit_P (k := 24) (j := 3) (d := 2) h11 h13 (by decide) (by decide) h14 h15 h7 h8 (show rt.1 12 + 1 = nI 2 by rw [h12]; decide) hkd (by decide) (Or.inl ⟨hkd, (Or.inr ⟨rfl, rfl, ⟨rfl, hb⟩⟩)⟩))⟩ rfl rfl
set_option maxHeartbeats 4000000 in
theorem P25_1 {st : CS} {rt : MS} (hR : RR st rt) (h11 : rt.1 11 = 0) (h13 : rt.1 13 = 0) (h14 : rt.1 14 = 25) (h15 : rt.1 15 = 3) (h7 : st.1 7 = 25) (h8 : st.1 8 = 3) (hkd : st.2.2.1 = 5) (hst : st.2.1 = 6) (h12 : rt.1 12 = 1) : Sim st rt := by
  have hc := hR.1
  have hd := hR.2.1
  obtain ⟨⟨e0, e1, e2, e3, e4, e5⟩, ⟨g0, g1, g2, g3, g4, g5⟩, d1, d2, d3, d4, d5, d6⟩ := id hc
  have hm : rt.1 15 = 7 ∨ ¬ rt.1 14 ≤ 13 := Or.inr (by rw [h14]; decide)
  have n99 : ¬ rt.1 14 = 99 := by rw [h14]; decide
  have hact : f_M_action rt = (2, rt) := by
    rw [act_plain h11 h13 (by rw [h12]; decide) hm (row_25 h15 h14), h12]
    exact congrArg (·, rt) (by decide +kernel)
  refine sim_read hR (ad := st.1 4) (act := 2) (ad_6 hst) (by rw [hst]; rfl) hact (by rw [pl_2, ← e4, w_and g4]) (fun b seen hb hbe => ?_)
  have eC : f_C_afterRead (sV st 9 (st.1 9 + 1)) b = sS (sV (sV (sV st 9 (st.1 9 + 1)) 4 ((st.1 4 + 1) &&& 65535)) 13 b) 19 := by
    rw [rd_6 (u := (sV st 9 (st.1 9 + 1))) hst]
    have e : f_C_afterFarLow (sV st 9 (st.1 9 + 1)) b = (if st.2.2.1 = 5 then sS (sV (sV (sV st 9 (st.1 9 + 1)) 4 ((st.1 4 + 1) &&& 65535)) 13 b) 19 else sS (sV (sV (sV st 9 (st.1 9 + 1)) 4 ((st.1 4 + 1) &&& 65535)) 13 b) 7) := rfl
    rw [e, if_pos hkd]
  rw [eC]
  exact use_go (a := 7) (hp_2 _ b) (by decide) (Or.inl n99) (nx_pl (row := 2617160702) (d := 2) h11 h13 (show rt.1 12 + 1 = 2 by rw [h12]; rfl) (by decide) hm (row_25 h15 h14) (by decide +kernel)) (by decide) ⟨show Rc (sV st 4 ((st.1 4 + 1) &&& 65535)) (tV rt 4 ((rt.1 4 + 1) &&& 65535)) from Rc_next hc, by show st.1 9 + 1 = rt.1 12 + 1; rw [hd], (Sit_P (k := 25) (j := 3) (d := 2) h11 h13 (by decide) (by decide) h14 h15 h7 h8 (show rt.1 12 + 1 = nI 2 by rw [h12]; decide) hkd (by decide) (Or.inr (Or.inl ⟨hkd, (Or.inr (Or.inl ⟨rfl, rfl, ⟨rfl, hb⟩⟩))⟩)))⟩ rfl rfl
set_option maxHeartbeats 4000000 in
theorem P24_2 {st : CS} {rt : MS} (hR : RR st rt) (h11 : rt.1 11 = 0) (h13 : rt.1 13 = 0) (h14 : rt.1 14 = 24) (h15 : rt.1 15 = 3) (h7 : st.1 7 = 24) (h8 : st.1 8 = 3) (hkd : st.2.2.1 = 4) (hst : st.2.1 = 7) (h12 : rt.1 12 = 2) (hz : Hz st rt) : Sim st rt := by
  have hc := hR.1
  have hd := hR.2.1
  obtain ⟨⟨e0, e1, e2, e3, e4, e5⟩, ⟨g0, g1, g2, g3, g4, g5⟩, d1, d2, d3, d4, d5, d6⟩ := id hc
  have hm : rt.1 15 = 7 ∨ ¬ rt.1 14 ≤ 13 := Or.inr (by rw [h14]; decide)
  have n99 : ¬ rt.1 14 = 99 := by rw [h14]; decide
  have hact : f_M_action rt = (27, rt) := by
    rw [act_plain h11 h13 (by rw [h12]; decide) hm (row_24 h15 h14), h12]
    exact congrArg (·, rt) (by decide +kernel)
  refine sim_read hR (ad := st.1 4) (act := 27) (ad_7 hst) (by rw [hst]; rfl) hact (by rw [pl_27, ← e4, w_and g4]) (fun b seen hb hbe => ?_)
  obtain ⟨w1, w2⟩ := word_dec hz.2 hb
  have eC : f_C_afterRead (sV st 9 (st.1 9 + 1)) b = f_C_end (sV (sV st 9 (st.1 9 + 1)) 4 (rt.1 16 + 256 * b)) := by
    rw [rd_7 (u := (sV st 9 (st.1 9 + 1))) hst]
    have e : f_C_afterFarPage (sV st 9 (st.1 9 + 1)) b = (if st.2.2.1 = 4 then f_C_goTo (sV st 9 (st.1 9 + 1)) (st.1 13 + 256 * b) else if st.2.2.1 = 5 then f_C_goTo (sV st 9 (st.1 9 + 1)) (st.1 13 + 256 * b) else f_C_afterFarPage (sV st 9 (st.1 9 + 1)) b) := by
      unfold f_C_afterFarPage
      rw [show (sV st 9 (st.1 9 + 1)).2.2.1 = st.2.2.1 from rfl, hkd]
      rfl
    rw [e, if_pos hkd]
    have e2 : f_C_goTo (sV st 9 (st.1 9 + 1)) (st.1 13 + 256 * b) = f_C_end (sV (sV st 9 (st.1 9 + 1)) 4 ((st.1 13 + 256 * b) &&& 65535)) := rfl
    rw [e2, hz.1, w_and w2]
  have hh : f_M_happen (tV (tV rt 23 (st.1 4)) 24 0) 27 b = tV (tV (tV rt 23 (st.1 4)) 24 0) 4 (rt.1 16 + 256 * b) := by rw [← w1]; exact hp_27 _ b
  exact use_end (hh) (by decide) (Or.inr (nx_pl (row := 2702) (d := 3) h11 h13 (show rt.1 12 + 1 = 3 by rw [h12]; rfl) (by decide) hm (row_24 h15 h14) (by decide +kernel))) (eC) (show Rc (sV st 4 (rt.1 16 + 256 * b)) (tV rt 4 (rt.1 16 + 256 * b)) from Rc_pc hc w2) h13 rfl rfl
set_option maxHeartbeats 4000000 in
theorem P25_5 {st : CS} {rt : MS} (hR : RR st rt) (h11 : rt.1 11 = 0) (h13 : rt.1 13 = 0) (h14 : rt.1 14 = 25) (h15 : rt.1 15 = 3) (h7 : st.1 7 = 25) (h8 : st.1 8 = 3) (hkd : st.2.2.1 = 5) (hst : st.2.1 = 7) (h12 : rt.1 12 = 5) (hz : Hz st rt) : Sim st rt := by
  have hc := hR.1
  have hd := hR.2.1
  obtain ⟨⟨e0, e1, e2, e3, e4, e5⟩, ⟨g0, g1, g2, g3, g4, g5⟩, d1, d2, d3, d4, d5, d6⟩ := id hc
  have hm : rt.1 15 = 7 ∨ ¬ rt.1 14 ≤ 13 := Or.inr (by rw [h14]; decide)
  have n99 : ¬ rt.1 14 = 99 := by rw [h14]; decide
  have hact : f_M_action rt = (26, rt) := by
    rw [act_plain h11 h13 (by rw [h12]; decide) hm (row_25 h15 h14), h12]
    exact congrArg (·, rt) (by decide +kernel)
  refine sim_read hR (ad := st.1 4) (act := 26) (ad_7 hst) (by rw [hst]; rfl) hact (by rw [pl_26, ← e4, w_and g4]) (fun b seen hb hbe => ?_)
  obtain ⟨w1, w2⟩ := word_dec hz.2 hb
  have eC : f_C_afterRead (sV st 9 (st.1 9 + 1)) b = f_C_end (sV (sV st 9 (st.1 9 + 1)) 4 (rt.1 16 + 256 * b)) := by
    rw [rd_7 (u := (sV st 9 (st.1 9 + 1))) hst]
    have e : f_C_afterFarPage (sV st 9 (st.1 9 + 1)) b = (if st.2.2.1 = 4 then f_C_goTo (sV st 9 (st.1 9 + 1)) (st.1 13 + 256 * b) else if st.2.2.1 = 5 then f_C_goTo (sV st 9 (st.1 9 + 1)) (st.1 13 + 256 * b) else f_C_afterFarPage (sV st 9 (st.1 9 + 1)) b) := by
      unfold f_C_afterFarPage
      rw [show (sV st 9 (st.1 9 + 1)).2.2.1 = st.2.2.1 from rfl, hkd]
      rfl
    rw [e, if_neg (by rw [hkd]; decide), if_pos hkd]
    have e2 : f_C_goTo (sV st 9 (st.1 9 + 1)) (st.1 13 + 256 * b) = f_C_end (sV (sV st 9 (st.1 9 + 1)) 4 ((st.1 13 + 256 * b) &&& 65535)) := rfl
    rw [e2, hz.1, w_and w2]
  have hh : f_M_happen (tV (tV rt 23 (st.1 4)) 24 0) 26 b = tV (tV (tV rt 23 (st.1 4)) 24 0) 4 (rt.1 16 + 256 * b) := by rw [← w1]; exact hp_26 _ b
  exact use_end (hh) (by decide) (Or.inr (nx_pl (row := 2617160702) (d := 6) h11 h13 (show rt.1 12 + 1 = 6 by rw [h12]; rfl) (by decide) hm (row_25 h15 h14) (by decide +kernel))) (eC) (show Rc (sV st 4 (rt.1 16 + 256 * b)) (tV rt 4 (rt.1 16 + 256 * b)) from Rc_pc hc w2) h13 rfl rfl
set_option maxHeartbeats 4000000 in
theorem P25_2 {st : CS} {rt : MS} (hR : RR st rt) (h11 : rt.1 11 = 0) (h13 : rt.1 13 = 0) (h14 : rt.1 14 = 25) (h15 : rt.1 15 = 3) (h7 : st.1 7 = 25) (h8 : st.1 8 = 3) (hkd : st.2.2.1 = 5) (hst : st.2.1 = 19) (h12 : rt.1 12 = 2) (hz : Hz st rt) : Sim st rt := by
  have hc := hR.1
  have hd := hR.2.1
  obtain ⟨⟨e0, e1, e2, e3, e4, e5⟩, ⟨g0, g1, g2, g3, g4, g5⟩, d1, d2, d3, d4, d5, d6⟩ := id hc
  have hm : rt.1 15 = 7 ∨ ¬ rt.1 14 ≤ 13 := Or.inr (by rw [h14]; decide)
  have n99 : ¬ rt.1 14 = 99 := by rw [h14]; decide
  have hact : f_M_action rt = (7, rt) := by
    rw [act_plain h11 h13 (by rw [h12]; decide) hm (row_25 h15 h14), h12]
    exact congrArg (·, rt) (by decide +kernel)
  refine sim_read hR (ad := 256 + st.1 3) (act := 7) (ad_19 hst) (by rw [hst]; rfl) hact (by rw [pl_7, ← e3, w_and (sk_W g3)]) (fun b seen hb hbe => ?_)
  have eC : f_C_afterRead (sV st 9 (st.1 9 + 1)) b = sS (sV st 9 (st.1 9 + 1)) 21 := by
    rw [rd_19 (u := (sV st 9 (st.1 9 + 1))) hst]
    unfold f_C_stepAfterStackIdle
    rw [show (sV st 9 (st.1 9 + 1)).2.2.1 = st.2.2.1 from rfl, hkd]
    rfl
  rw [eC]
  exact use_go (a := 16) (hp_7 _ b) (by decide) (Or.inl n99) (nx_pl (row := 2617160702) (d := 3) h11 h13 (show rt.1 12 + 1 = 3 by rw [h12]; rfl) (by decide) hm (row_25 h15 h14) (by decide +kernel)) (by decide) ⟨hc, by show st.1 9 + 1 = rt.1 12 + 1; rw [hd], (Sit_P (k := 25) (j := 3) (d := 3) h11 h13 (by decide) (by decide) h14 h15 h7 h8 (show rt.1 12 + 1 = nI 3 by rw [h12]; decide) hkd (by decide) (Or.inr (Or.inl ⟨hkd, (Or.inr (Or.inr (Or.inl ⟨rfl, rfl, hz⟩)))⟩)))⟩ rfl rfl
set_option maxHeartbeats 4000000 in
theorem P17_2 {st : CS} {rt : MS} (hR : RR st rt) (h11 : rt.1 11 = 0) (h13 : rt.1 13 = 0) (h14 : rt.1 14 = 17) (h15 : rt.1 15 = 7) (h7 : st.1 7 = 17) (h8 : st.1 8 = 7) (hkd : st.2.2.1 = 8) (hst : st.2.1 = 19) (h12 : rt.1 12 = 2) : Sim st rt := by
  have hc := hR.1
  have hd := hR.2.1
  obtain ⟨⟨e0, e1, e2, e3, e4, e5⟩, ⟨g0, g1, g2, g3, g4, g5⟩, d1, d2, d3, d4, d5, d6⟩ := id hc
  have hm : rt.1 15 = 7 ∨ ¬ rt.1 14 ≤ 13 := Or.inl h15
  have n99 : ¬ rt.1 14 = 99 := by rw [h14]; decide
  have hact : f_M_action rt = (7, rt) := by
    rw [act_plain h11 h13 (by rw [h12]; decide) hm (row_17 h15 h14), h12]
    exact congrArg (·, rt) (by decide +kernel)
  refine sim_read hR (ad := 256 + st.1 3) (act := 7) (ad_19 hst) (by rw [hst]; rfl) hact (by rw [pl_7, ← e3, w_and (sk_W g3)]) (fun b seen hb hbe => ?_)
  have eC : f_C_afterRead (sV st 9 (st.1 9 + 1)) b = sS (sV st 9 (st.1 9 + 1)) 24 := by
    rw [rd_19 (u := (sV st 9 (st.1 9 + 1))) hst]
    unfold f_C_stepAfterStackIdle
    rw [show (sV st 9 (st.1 9 + 1)).2.2.1 = st.2.2.1 from rfl, hkd]
    rfl
  rw [eC]
  exact use_go (a := 21) (hp_7 _ b) (by decide) (Or.inl n99) (nx_pl (row := 210705) (d := 3) h11 h13 (show rt.1 12 + 1 = 3 by rw [h12]; rfl) (by decide) hm (row_17 h15 h14) (by decide +kernel)) (by decide) ⟨hc, by show st.1 9 + 1 = rt.1 12 + 1; rw [hd], (Sit_P (k := 17) (j := 7) (d := 3) h11 h13 (by decide) (by decide) h14 h15 h7 h8 (show rt.1 12 + 1 = nI 3 by rw [h12]; decide) hkd (by decide) (Or.inr (Or.inr (Or.inr (Or.inr (Or.inl ⟨hkd, (Or.inr (Or.inr ⟨rfl, rfl⟩))⟩))))))⟩ rfl rfl
set_option maxHeartbeats 4000000 in
theorem P19_2 {st : CS} {rt : MS} (hR : RR st rt) (h11 : rt.1 11 = 0) (h13 : rt.1 13 = 0) (h14 : rt.1 14 = 19) (h15 : rt.1 15 = 7) (h7 : st.1 7 = 19) (h8 : st.1 8 = 7) (hkd : st.2.2.1 = 8) (hst : st.2.1 = 19) (h12 : rt.1 12 = 2) : Sim st rt := by
  have hc := hR.1
  have hd := hR.2.1
  obtain ⟨⟨e0, e1, e2, e3, e4, e5⟩, ⟨g0, g1, g2, g3, g4, g5⟩, d1, d2, d3, d4, d5, d6⟩ := id hc
  have hm : rt.1 15 = 7 ∨ ¬ rt.1 14 ≤ 13 := Or.inl h15
  have n99 : ¬ rt.1 14 = 99 := by rw [h14]; decide
  have hact : f_M_action rt = (7, rt) := by
    rw [act_plain h11 h13 (by rw [h12]; decide) hm (row_19 h15 h14), h12]
    exact congrArg (·, rt) (by decide +kernel)
  refine sim_read hR (ad := 256 + st.1 3) (act := 7) (ad_19 hst) (by rw [hst]; rfl) hact (by rw [pl_7, ← e3, w_and (sk_W g3)]) (fun b seen hb hbe => ?_)
  have eC : f_C_afterRead (sV st 9 (st.1 9 + 1)) b = sS (sV st 9 (st.1 9 + 1)) 24 := by
    rw [rd_19 (u := (sV st 9 (st.1 9 + 1))) hst]
    unfold f_C_stepAfterStackIdle
    rw [show (sV st 9 (st.1 9 + 1)).2.2.1 = st.2.2.1 from rfl, hkd]
    rfl
  rw [eC]
  exact use_go (a := 22) (hp_7 _ b) (by decide) (Or.inl n99) (nx_pl (row := 220705) (d := 3) h11 h13 (show rt.1 12 + 1 = 3 by rw [h12]; rfl) (by decide) hm (row_19 h15 h14) (by decide +kernel)) (by decide) ⟨hc, by show st.1 9 + 1 = rt.1 12 + 1; rw [hd], (Sit_P (k := 19) (j := 7) (d := 3) h11 h13 (by decide) (by decide) h14 h15 h7 h8 (show rt.1 12 + 1 = nI 3 by rw [h12]; decide) hkd (by decide) (Or.inr (Or.inr (Or.inr (Or.inr (Or.inl ⟨hkd, (Or.inr (Or.inr ⟨rfl, rfl⟩))⟩))))))⟩ rfl rfl
set_option maxHeartbeats 4000000 in
theorem P20_2 {st : CS} {rt : MS} (hR : RR st rt) (h11 : rt.1 11 = 0) (h13 : rt.1 13 = 0) (h14 : rt.1 14 = 20) (h15 : rt.1 15 = 7) (h7 : st.1 7 = 20) (h8 : st.1 8 = 7) (hkd : st.2.2.1 = 9) (hst : st.2.1 = 19) (h12 : rt.1 12 = 2) : Sim st rt := by
  have hc := hR.1
  have hd := hR.2.1
  obtain ⟨⟨e0, e1, e2, e3, e4, e5⟩, ⟨g0, g1, g2, g3, g4, g5⟩, d1, d2, d3, d4, d5, d6⟩ := id hc
  have hm : rt.1 15 = 7 ∨ ¬ rt.1 14 ≤ 13 := Or.inl h15
  have n99 : ¬ rt.1 14 = 99 := by rw [h14]; decide
  have hact : f_M_action rt = (7, rt) := by
    rw [act_plain h11 h13 (by rw [h12]; decide) hm (row_20 h15 h14), h12]
    exact congrArg (·, rt) (by decide +kernel)
  refine sim_read hR (ad := 256 + st.1 3) (act := 7) (ad_19 hst) (by rw [hst]; rfl) hact (by rw [pl_7, ← e3, w_and (sk_W g3)]) (fun b seen hb hbe => ?_)
  have eC : f_C_afterRead (sV st 9 (st.1 9 + 1)) b = sS (sV st 9 (st.1 9 + 1)) 25 := by
    rw [rd_19 (u := (sV st 9 (st.1 9 + 1))) hst]
    unfold f_C_stepAfterStackIdle
    rw [show (sV st 9 (st.1 9 + 1)).2.2.1 = st.2.2.1 from rfl, hkd]
    rfl
  rw [eC]
  exact use_go (a := 23) (hp_7 _ b) (by decide) (Or.inl n99) (nx_pl (row := 2524230705) (d := 3) h11 h13 (show rt.1 12 + 1 = 3 by rw [h12]; rfl) (by decide) hm (row_20 h15 h14) (by decide +kernel)) (by decide) ⟨hc, by show st.1 9 + 1 = rt.1 12 + 1; rw [hd], (Sit_P (k := 20) (j := 7) (d := 3) h11 h13 (by decide) (by decide) h14 h15 h7 h8 (show rt.1 12 + 1 = nI 3 by rw [h12]; decide) hkd (by decide) (Or.inr (Or.inr (Or.inr (Or.inr (Or.inr (Or.inl ⟨hkd, (Or.inr (Or.inr (Or.inl ⟨rfl, rfl⟩)))⟩)))))))⟩ rfl rfl
set_option maxHeartbeats 4000000 in
theorem P21_2 {st : CS} {rt : MS} (hR : RR st rt) (h11 : rt.1 11 = 0) (h13 : rt.1 13 = 0) (h14 : rt.1 14 = 21) (h15 : rt.1 15 = 7) (h7 : st.1 7 = 21) (h8 : st.1 8 = 7) (hkd : st.2.2.1 = 10) (hst : st.2.1 = 19) (h12 : rt.1 12 = 2) : Sim st rt := by
  have hc := hR.1
  have hd := hR.2.1
  obtain ⟨⟨e0, e1, e2, e3, e4, e5⟩, ⟨g0, g1, g2, g3, g4, g5⟩, d1, d2, d3, d4, d5, d6⟩ := id hc
  have hm : rt.1 15 = 7 ∨ ¬ rt.1 14 ≤ 13 := Or.inl h15
  have n99 : ¬ rt.1 14 = 99 := by rw [h14]; decide
  have hact : f_M_action rt = (7, rt) := by
    rw [act_plain h11 h13 (by rw [h12]; decide) hm (row_21 h15 h14), h12]
    exact congrArg (·, rt) (by decide +kernel)
  refine sim_read hR (ad := 256 + st.1 3) (act := 7) (ad_19 hst) (by rw [hst]; rfl) hact (by rw [pl_7, ← e3, w_and (sk_W g3)]) (fun b seen hb hbe => ?_)
  have eC : f_C_afterRead (sV st 9 (st.1 9 + 1)) b = sS (sV st 9 (st.1 9 + 1)) 24 := by
    rw [rd_19 (u := (sV st 9 (st.1 9 + 1))) hst]
    unfold f_C_stepAfterStackIdle
    rw [show (sV st 9 (st.1 9 + 1)).2.2.1 = st.2.2.1 from rfl, hkd]
    rfl
  rw [eC]
  exact use_go (a := 22) (hp_7 _ b) (by decide) (Or.inl n99) (nx_pl (row := 2423220705) (d := 3) h11 h13 (show rt.1 12 + 1 = 3 by rw [h12]; rfl) (by decide) hm (row_21 h15 h14) (by decide +kernel)) (by decide) ⟨hc, by show st.1 9 + 1 = rt.1 12 + 1; rw [hd], (Sit_P (k := 21) (j := 7) (d := 3) h11 h13 (by decide) (by decide) h14 h15 h7 h8 (show rt.1 12 + 1 = nI 3 by rw [h12]; decide) hkd (by decide) (Or.inr (Or.inr (Or.inr (Or.inr (Or.inr (Or.inr (Or.inl ⟨hkd, (Or.inr (Or.inr (Or.inl ⟨rfl, rfl⟩)))⟩))))))))⟩ rfl rfl
set_option maxHeartbeats 4000000 in
theorem P16_1 {st : CS} {rt : MS} (hR : RR st rt) (h11 : rt.1 11 = 0) (h13 : rt.1 13 = 0) (h14 : rt.1 14 = 16) (h15 : rt.1 15 = 7) (h7 : st.1 7 = 16) (h8 : st.1 8 = 7) (hkd : st.2.2.1 = 7) (hst : st.2.1 = 18) (h12 : rt.1 12 = 1) : Sim st rt := by
  have hc := hR.1
  have hd := hR.2.1
  obtain ⟨⟨e0, e1, e2, e3, e4, e5⟩, ⟨g0, g1, g2, g3, g4, g5⟩, d1, d2, d3, d4, d5, d6⟩ := id hc
  have hm : rt.1 15 = 7 ∨ ¬ rt.1 14 ≤ 13 := Or.inl h15
  have n99 : ¬ rt.1 14 = 99 := by rw [h14]; decide
  have hact : f_M_action rt = (5, rt) := by
    rw [act_plain h11 h13 (by rw [h12]; decide) hm (row_16 h15 h14), h12]
    exact congrArg (·, rt) (by decide +kernel)
  refine sim_read hR (ad := st.1 4) (act := 5) (ad_18 hst) (by rw [hst]; rfl) hact (by rw [pl_5, ← e4, w_and g4]) (fun b seen hb hbe => ?_)
  have eC : f_C_afterRead (sV st 9 (st.1 9 + 1)) b = sS (sV st 9 (st.1 9 + 1)) 20 := by
    rw [rd_18 (u := (sV st 9 (st.1 9 + 1))) hst]
    unfold f_C_afterPcIdle
    rw [show (sV st 9 (st.1 9 + 1)).2.2.1 = st.2.2.1 from rfl, hkd]
    rfl
  rw [eC]
  exact use_go (a := 19) (hp_5p b h11 h15 (show 16 ≤ rt.1 14 by rw [h14]; decide)) (by decide) (Or.inl n99) (nx_pl (row := 1905) (d := 2) h11 h13 (show rt.1 12 + 1 = 2 by rw [h12]; rfl) (by decide) hm (row_16 h15 h14) (by decide +kernel)) (by decide) ⟨hc, by show st.1 9 + 1 = rt.1 12 + 1; rw [hd], (Sit_P (k := 16) (j := 7) (d := 2) h11 h13 (by decide) (by decide) h14 h15 h7 h8 (show rt.1 12 + 1 = nI 2 by rw [h12]; decide) hkd (by decide) (Or.inr (Or.inr (Or.inr (Or.inl ⟨hkd, (Or.inr ⟨rfl, rfl⟩)⟩)))))⟩ rfl rfl
set_option maxHeartbeats 4000000 in
theorem P18_1 {st : CS} {rt : MS} (hR : RR st rt) (h11 : rt.1 11 = 0) (h13 : rt.1 13 = 0) (h14 : rt.1 14 = 18) (h15 : rt.1 15 = 7) (h7 : st.1 7 = 18) (h8 : st.1 8 = 7) (hkd : st.2.2.1 = 7) (hst : st.2.1 = 18) (h12 : rt.1 12 = 1) : Sim st rt := by
  have hc := hR.1
  have hd := hR.2.1
  obtain ⟨⟨e0, e1, e2, e3, e4, e5⟩, ⟨g0, g1, g2, g3, g4, g5⟩, d1, d2, d3, d4, d5, d6⟩ := id hc
  have hm : rt.1 15 = 7 ∨ ¬ rt.1 14 ≤ 13 := Or.inl h15
  have n99 : ¬ rt.1 14 = 99 := by rw [h14]; decide
  have hact : f_M_action rt = (5, rt) := by
    rw [act_plain h11 h13 (by rw [h12]; decide) hm (row_18 h15 h14), h12]
    exact congrArg (·, rt) (by decide +kernel)
  refine sim_read hR (ad := st.1 4) (act := 5) (ad_18 hst) (by rw [hst]; rfl) hact (by rw [pl_5, ← e4, w_and g4]) (fun b seen hb hbe => ?_)
  have eC : f_C_afterRead (sV st 9 (st.1 9 + 1)) b = sS (sV st 9 (st.1 9 + 1)) 20 := by
    rw [rd_18 (u := (sV st 9 (st.1 9 + 1))) hst]
    unfold f_C_afterPcIdle
    rw [show (sV st 9 (st.1 9 + 1)).2.2.1 = st.2.2.1 from rfl, hkd]
    rfl
  rw [eC]
  exact use_go (a := 20) (hp_5p b h11 h15 (show 16 ≤ rt.1 14 by rw [h14]; decide)) (by decide) (Or.inl n99) (nx_pl (row := 2005) (d := 2) h11 h13 (show rt.1 12 + 1 = 2 by rw [h12]; rfl) (by decide) hm (row_18 h15 h14) (by decide +kernel)) (by decide) ⟨hc, by show st.1 9 + 1 = rt.1 12 + 1; rw [hd], (Sit_P (k := 18) (j := 7) (d := 2) h11 h13 (by decide) (by decide) h14 h15 h7 h8 (show rt.1 12 + 1 = nI 2 by rw [h12]; decide) hkd (by decide) (Or.inr (Or.inr (Or.inr (Or.inl ⟨hkd, (Or.inr ⟨rfl, rfl⟩)⟩)))))⟩ rfl rfl
set_option maxHeartbeats 4000000 in
theorem P17_1 {st : CS} {rt : MS} (hR : RR st rt) (h11 : rt.1 11 = 0) (h13 : rt.1 13 = 0) (h14 : rt.1 14 = 17) (h15 : rt.1 15 = 7) (h7 : st.1 7 = 17) (h8 : st.1 8 = 7) (hkd : st.2.2.1 = 8) (hst : st.2.1 = 18) (h12 : rt.1 12 = 1) : Sim st rt := by
  have hc := hR.1
  have hd := hR.2.1
  obtain ⟨⟨e0, e1, e2, e3, e4, e5⟩, ⟨g0, g1, g2, g3, g4, g5⟩, d1, d2, d3, d4, d5, d6⟩ := id hc
  have hm : rt.1 15 = 7 ∨ ¬ rt.1 14 ≤ 13 := Or.inl h15
  have n99 : ¬ rt.1 14 = 99 := by rw [h14]; decide
  have hact : f_M_action rt = (5, rt) := by
    rw [act_plain h11 h13 (by rw [h12]; decide) hm (row_17 h15 h14), h12]
    exact congrArg (·, rt) (by decide +kernel)
  refine sim_read hR (ad := st.1 4) (act := 5) (ad_18 hst) (by rw [hst]; rfl) hact (by rw [pl_5, ← e4, w_and g4]) (fun b seen hb hbe => ?_)
  have eC : f_C_afterRead (sV st 9 (st.1 9 + 1)) b = sS (sV st 9 (st.1 9 + 1)) 19 := by
    rw [rd_18 (u := (sV st 9 (st.1 9 + 1))) hst]
    unfold f_C_afterPcIdle
    rw [show (sV st 9 (st.1 9 + 1)).2.2.1 = st.2.2.1 from rfl, hkd]
    rfl
  rw [eC]
  exact use_go (a := 7) (hp_5p b h11 h15 (show 16 ≤ rt.1 14 by rw [h14]; decide)) (by decide) (Or.inl n99) (nx_pl (row := 210705) (d := 2) h11 h13 (show rt.1 12 + 1 = 2 by rw [h12]; rfl) (by decide) hm (row_17 h15 h14) (by decide +kernel)) (by decide) ⟨hc, by show st.1 9 + 1 = rt.1 12 + 1; rw [hd], (Sit_P (k := 17) (j := 7) (d := 2) h11 h13 (by decide) (by decide) h14 h15 h7 h8 (show rt.1 12 + 1 = nI 2 by rw [h12]; decide) hkd (by decide) (Or.inr (Or.inr (Or.inr (Or.inr (Or.inl ⟨hkd, (Or.inr (Or.inl ⟨rfl, rfl⟩))⟩))))))⟩ rfl rfl
set_option maxHeartbeats 4000000 in
theorem P19_1 {st : CS} {rt : MS} (hR : RR st rt) (h11 : rt.1 11 = 0) (h13 : rt.1 13 = 0) (h14 : rt.1 14 = 19) (h15 : rt.1 15 = 7) (h7 : st.1 7 = 19) (h8 : st.1 8 = 7) (hkd : st.2.2.1 = 8) (hst : st.2.1 = 18) (h12 : rt.1 12 = 1) : Sim st rt := by
  have hc := hR.1
  have hd := hR.2.1
  obtain ⟨⟨e0, e1, e2, e3, e4, e5⟩, ⟨g0, g1, g2, g3, g4, g5⟩, d1, d2, d3, d4, d5, d6⟩ := id hc
  have hm : rt.1 15 = 7 ∨ ¬ rt.1 14 ≤ 13 := Or.inl h15
  have n99 : ¬ rt.1 14 = 99 := by rw [h14]; decide
  have hact : f_M_action rt = (5, rt) := by
    rw [act_plain h11 h13 (by rw [h12]; decide) hm (row_19 h15 h14), h12]
    exact congrArg (·, rt) (by decide +kernel)
  refine sim_read hR (ad := st.1 4) (act := 5) (ad_18 hst) (by rw [hst]; rfl) hact (by rw [pl_5, ← e4, w_and g4]) (fun b seen hb hbe => ?_)
  have eC : f_C_afterRead (sV st 9 (st.1 9 + 1)) b = sS (sV st 9 (st.1 9 + 1)) 19 := by
    rw [rd_18 (u := (sV st 9 (st.1 9 + 1))) hst]
    unfold f_C_afterPcIdle
    rw [show (sV st 9 (st.1 9 + 1)).2.2.1 = st.2.2.1 from rfl, hkd]
    rfl
  rw [eC]
  exact use_go (a := 7) (hp_5p b h11 h15 (show 16 ≤ rt.1 14 by rw [h14]; decide)) (by decide) (Or.inl n99) (nx_pl (row := 220705) (d := 2) h11 h13 (show rt.1 12 + 1 = 2 by rw [h12]; rfl) (by decide) hm (row_19 h15 h14) (by decide +kernel)) (by decide) ⟨hc, by show st.1 9 + 1 = rt.1 12 + 1; rw [hd], (Sit_P (k := 19) (j := 7) (d := 2) h11 h13 (by decide) (by decide) h14 h15 h7 h8 (show rt.1 12 + 1 = nI 2 by rw [h12]; decide) hkd (by decide) (Or.inr (Or.inr (Or.inr (Or.inr (Or.inl ⟨hkd, (Or.inr (Or.inl ⟨rfl, rfl⟩))⟩))))))⟩ rfl rfl
set_option maxHeartbeats 4000000 in
theorem P20_1 {st : CS} {rt : MS} (hR : RR st rt) (h11 : rt.1 11 = 0) (h13 : rt.1 13 = 0) (h14 : rt.1 14 = 20) (h15 : rt.1 15 = 7) (h7 : st.1 7 = 20) (h8 : st.1 8 = 7) (hkd : st.2.2.1 = 9) (hst : st.2.1 = 18) (h12 : rt.1 12 = 1) : Sim st rt := by
  have hc := hR.1
  have hd := hR.2.1
  obtain ⟨⟨e0, e1, e2, e3, e4, e5⟩, ⟨g0, g1, g2, g3, g4, g5⟩, d1, d2, d3, d4, d5, d6⟩ := id hc
  have hm : rt.1 15 = 7 ∨ ¬ rt.1 14 ≤ 13 := Or.inl h15
  have n99 : ¬ rt.1 14 = 99 := by rw [h14]; decide
  have hact : f_M_action rt = (5, rt) := by
    rw [act_plain h11 h13 (by rw [h12]; decide) hm (row_20 h15 h14), h12]
    exact congrArg (·, rt) (by decide +kernel)
  refine sim_read hR (ad := st.1 4) (act := 5) (ad_18 hst) (by rw [hst]; rfl) hact (by rw [pl_5, ← e4, w_and g4]) (fun b seen hb hbe => ?_)
  have eC : f_C_afterRead (sV st 9 (st.1 9 + 1)) b = sS (sV st 9 (st.1 9 + 1)) 19 := by
    rw [rd_18 (u := (sV st 9 (st.1 9 + 1))) hst]
    unfold f_C_afterPcIdle
    rw [show (sV st 9 (st.1 9 + 1)).2.2.1 = st.2.2.1 from rfl, hkd]
    rfl
  rw [eC]
  exact use_go (a := 7) (hp_5p b h11 h15 (show 16 ≤ rt.1 14 by rw [h14]; decide)) (by decide) (Or.inl n99) (nx_pl (row := 2524230705) (d := 2) h11 h13 (show rt.1 12 + 1 = 2 by rw [h12]; rfl) (by decide) hm (row_20 h15 h14) (by decide +kernel)) (by decide) ⟨hc, by show st.1 9 + 1 = rt.1 12 + 1; rw [hd], (Sit_P (k := 20) (j := 7) (d := 2) h11 h13 (by decide) (by decide) h14 h15 h7 h8 (show rt.1 12 + 1 = nI 2 by rw [h12]; decide) hkd (by decide) (Or.inr (Or.inr (Or.inr (Or.inr (Or.inr (Or.inl ⟨hkd, (Or.inr (Or.inl ⟨rfl, rfl⟩))⟩)))))))⟩ rfl rfl
set_option maxHeartbeats 4000000 in
theorem P21_1 {st : CS} {rt : MS} (hR : RR st rt) (h11 : rt.1 11 = 0) (h13 : rt.1 13 = 0) (h14 : rt.1 14 = 21) (h15 : rt.1 15 = 7) (h7 : st.1 7 = 21) (h8 : st.1 8 = 7) (hkd : st.2.2.1 = 10) (hst : st.2.1 = 18) (h12 : rt.1 12 = 1) : Sim st rt := by
  have hc := hR.1
  have hd := hR.2.1
  obtain ⟨⟨e0, e1, e2, e3, e4, e5⟩, ⟨g0, g1, g2, g3, g4, g5⟩, d1, d2, d3, d4, d5, d6⟩ := id hc
  have hm : rt.1 15 = 7 ∨ ¬ rt.1 14 ≤ 13 := Or.inl h15
  have n99 : ¬ rt.1 14 = 99 := by rw [h14]; decide
  have hact : f_M_action rt = (5, rt) := by
    rw [act_plain h11 h13 (by rw [h12]; decide) hm (row_21 h15 h14), h12]
    exact congrArg (·, rt) (by decide +kernel)
  refine sim_read hR (ad := st.1 4) (act := 5) (ad_18 hst) (by rw [hst]; rfl) hact (by rw [pl_5, ← e4, w_and g4]) (fun b seen hb hbe => ?_)
  have eC : f_C_afterRead (sV st 9 (st.1 9 + 1)) b = sS (sV st 9 (st.1 9 + 1)) 19 := by
    rw [rd_18 (u := (sV st 9 (st.1 9 + 1))) hst]
    unfold f_C_afterPcIdle
    rw [show (sV st 9 (st.1 9 + 1)).2.2.1 = st.2.2.1 from rfl, hkd]
    rfl
  rw [eC]
  exact use_go (a := 7) (hp_5p b h11 h15 (show 16 ≤ rt.1 14 by rw [h14]; decide)) (by decide) (Or.inl n99) (nx_pl (row := 2423220705) (d := 2) h11 h13 (show rt.1 12 + 1 = 2 by rw [h12]; rfl) (by decide) hm (row_21 h15 h14) (by decide +kernel)) (by decide) ⟨hc, by show st.1 9 + 1 = rt.1 12 + 1; rw [hd], (Sit_P (k := 21) (j := 7) (d := 2) h11 h13 (by decide) (by decide) h14 h15 h7 h8 (show rt.1 12 + 1 = nI 2 by rw [h12]; decide) hkd (by decide) (Or.inr (Or.inr (Or.inr (Or.inr (Or.inr (Or.inr (Or.inl ⟨hkd, (Or.inr (Or.inl ⟨rfl, rfl⟩))⟩))))))))⟩ rfl rfl
set_option maxHeartbeats 4000000 in
theorem P25_3 {st : CS} {rt : MS} (hR : RR st rt) (h11 : rt.1 11 = 0) (h13 : rt.1 13 = 0) (h14 : rt.1 14 = 25) (h15 : rt.1 15 = 3) (h7 : st.1 7 = 25) (h8 : st.1 8 = 3) (hkd : st.2.2.1 = 5) (hst : st.2.1 = 21) (h12 : rt.1 12 = 3) (hz : Hz st rt) : Sim st rt := by
  have hc := hR.1
  have hd := hR.2.1
  obtain ⟨⟨e0, e1, e2, e3, e4, e5⟩, ⟨g0, g1, g2, g3, g4, g5⟩, d1, d2, d3, d4, d5, d6⟩ := id hc
  have hm : rt.1 15 = 7 ∨ ¬ rt.1 14 ≤ 13 := Or.inr (by rw [h14]; decide)
  have n99 : ¬ rt.1 14 = 99 := by rw [h14]; decide
  have hact : f_M_action rt = (16, rt) := by
    rw [act_plain h11 h13 (by rw [h12]; decide) hm (row_25 h15 h14), h12]
    exact congrArg (·, rt) (by decide +kernel)
  refine sim_write hR (ad := 256 + st.1 3) (act := 16) (v := st.1 4 >>> ((8 : Int32) &&& 31)) (ad_21 hst) (by rw [hst]; decide) (bw_21 hst) hact (by rw [pl_16, ← e3, ← e4, b_and255 (pg_dec g4)]) (fun seen => ?_)
  rw [wr_21 (u := (sV (sM st (256 + st.1 3) (st.1 4 >>> ((8 : Int32) &&& 31))) 9 (st.1 9 + 1))) hst]
  exact use_go (a := 17) (hp_16 _ _) (by decide) (Or.inl n99) (nx_pl (row := 2617160702) (d := 4) h11 h13 (show rt.1 12 + 1 = 4 by rw [h12]; rfl) (by decide) hm (row_25 h15 h14) (by decide +kernel)) (by decide) ⟨show Rc (sV (sM st (256 + st.1 3) (st.1 4 >>> ((8 : Int32) &&& 31))) 3 ((st.1 3 + (-1)) &&& 255)) (tV (tM rt (256 + st.1 3) (st.1 4 >>> ((8 : Int32) &&& 31))) 3 ((rt.1 3 - 1) &&& 255)) from Rc_push hc (pg_dec g4), by show st.1 9 + 1 = rt.1 12 + 1; rw [hd], (Sit_P (k := 25) (j := 3) (d := 4) h11 h13 (by decide) (by decide) h14 h15 h7 h8 (show rt.1 12 + 1 = nI 4 by rw [h12]; decide) hkd (by decide) (Or.inr (Or.inl ⟨hkd, (Or.inr (Or.inr (Or.inr (Or.inl ⟨rfl, rfl, hz⟩))))⟩)))⟩ rfl rfl
set_option maxHeartbeats 4000000 in
theorem P25_4 {st : CS} {rt : MS} (hR : RR st rt) (h11 : rt.1 11 = 0) (h13 : rt.1 13 = 0) (h14 : rt.1 14 = 25) (h15 : rt.1 15 = 3) (h7 : st.1 7 = 25) (h8 : st.1 8 = 3) (hkd : st.2.2.1 = 5) (hst : st.2.1 = 22) (h12 : rt.1 12 = 4) (hz : Hz st rt) : Sim st rt := by
  have hc := hR.1
  have hd := hR.2.1
  obtain ⟨⟨e0, e1, e2, e3, e4, e5⟩, ⟨g0, g1, g2, g3, g4, g5⟩, d1, d2, d3, d4, d5, d6⟩ := id hc
  have hm : rt.1 15 = 7 ∨ ¬ rt.1 14 ≤ 13 := Or.inr (by rw [h14]; decide)
  have n99 : ¬ rt.1 14 = 99 := by rw [h14]; decide
  have hact : f_M_action rt = (17, rt) := by
    rw [act_plain h11 h13 (by rw [h12]; decide) hm (row_25 h15 h14), h12]
    exact congrArg (·, rt) (by decide +kernel)
  refine sim_write hR (ad := 256 + st.1 3) (act := 17) (v := st.1 4 &&& 255) (ad_22 hst) (by rw [hst]; decide) (bw_22 hst) hact (by rw [pl_17, ← e3, ← e4]) (fun seen => ?_)
  have hk5 : (f_R_moveStack (sV (sM st (256 + st.1 3) (st.1 4 &&& 255)) 9 (st.1 9 + 1)) (-1)).2.2.1 = 5 := hkd
  rw [wr_22 (u := (sV (sM st (256 + st.1 3) (st.1 4 &&& 255)) 9 (st.1 9 + 1))) hst, if_pos hk5]
  exact use_go (a := 26) (hp_17 _ _) (by decide) (Or.inl n99) (nx_pl (row := 2617160702) (d := 5) h11 h13 (show rt.1 12 + 1 = 5 by rw [h12]; rfl) (by decide) hm (row_25 h15 h14) (by decide +kernel)) (by decide) ⟨show Rc (sV (sM st (256 + st.1 3) (st.1 4 &&& 255)) 3 ((st.1 3 + (-1)) &&& 255)) (tV (tM rt (256 + st.1 3) (st.1 4 &&& 255)) 3 ((rt.1 3 - 1) &&& 255)) from Rc_push hc (isB_and _), by show st.1 9 + 1 = rt.1 12 + 1; rw [hd], (Sit_P (k := 25) (j := 3) (d := 5) h11 h13 (by decide) (by decide) h14 h15 h7 h8 (show rt.1 12 + 1 = nI 5 by rw [h12]; decide) hkd (by decide) (Or.inr (Or.inl ⟨hkd, (Or.inr (Or.inr (Or.inr (Or.inr ⟨rfl, rfl, hz⟩))))⟩)))⟩ rfl rfl
set_option maxHeartbeats 4000000 in
theorem P22_2 {st : CS} {rt : MS} (hR : RR st rt) (h11 : rt.1 11 = 0) (h13 : rt.1 13 = 0) (h14 : rt.1 14 = 22) (h15 : rt.1 15 = 7) (h7 : st.1 7 = 22) (h8 : st.1 8 = 7) (hkd : st.2.2.1 = 11) (hst : st.2.1 = 21) (h12 : rt.1 12 = 2) : Sim st rt := by
  have hc := hR.1
  have hd := hR.2.1
  obtain ⟨⟨e0, e1, e2, e3, e4, e5⟩, ⟨g0, g1, g2, g3, g4, g5⟩, d1, d2, d3, d4, d5, d6⟩ := id hc
  have hm : rt.1 15 = 7 ∨ ¬ rt.1 14 ≤ 13 := Or.inl h15
  have n99 : ¬ rt.1 14 = 99 := by rw [h14]; decide
  have hact : f_M_action rt = (16, rt) := by
    rw [act_plain h11 h13 (by rw [h12]; decide) hm (row_22 h15 h14), h12]
    exact congrArg (·, rt) (by decide +kernel)
  refine sim_write hR (ad := 256 + st.1 3) (act := 16) (v := st.1 4 >>> ((8 : Int32) &&& 31)) (ad_21 hst) (by rw [hst]; decide) (bw_21 hst) hact (by rw [pl_16, ← e3, ← e4, b_and255 (pg_dec g4)]) (fun seen => ?_)
  rw [wr_21 (u := (sV (sM st (256 + st.1 3) (st.1 4 >>> ((8 : Int32) &&& 31))) 9 (st.1 9 + 1))) hst]
  exact use_go (a := 17) (hp_16 _ _) (by decide) (Or.inl n99) (nx_pl (row := 292818171604) (d := 3) h11 h13 (show rt.1 12 + 1 = 3 by rw [h12]; rfl) (by decide) hm (row_22 h15 h14) (by decide +kernel)) (by decide) ⟨show Rc (sV (sM st (256 + st.1 3) (st.1 4 >>> ((8 : Int32) &&& 31))) 3 ((st.1 3 + (-1)) &&& 255)) (tV (tM rt (256 + st.1 3) (st.1 4 >>> ((8 : Int32) &&& 31))) 3 ((rt.1 3 - 1) &&& 255)) from Rc_push hc (pg_dec g4), by show st.1 9 + 1 = rt.1 12 + 1; rw [hd], (Sit_P (k := 22) (j := 7) (d := 3) h11 h13 (by decide) (by decide) h14 h15 h7 h8 (show rt.1 12 + 1 = nI 3 by rw [h12]; decide) hkd (by decide) (Or.inr (Or.inr (Or.inr (Or.inr (Or.inr (Or.inr (Or.inr ⟨hkd, (Or.inr (Or.inr (Or.inl ⟨rfl, rfl⟩)))⟩))))))))⟩ rfl rfl
set_option maxHeartbeats 4000000 in
theorem P22_3 {st : CS} {rt : MS} (hR : RR st rt) (h11 : rt.1 11 = 0) (h13 : rt.1 13 = 0) (h14 : rt.1 14 = 22) (h15 : rt.1 15 = 7) (h7 : st.1 7 = 22) (h8 : st.1 8 = 7) (hkd : st.2.2.1 = 11) (hst : st.2.1 = 22) (h12 : rt.1 12 = 3) : Sim st rt := by
  have hc := hR.1
  have hd := hR.2.1
  obtain ⟨⟨e0, e1, e2, e3, e4, e5⟩, ⟨g0, g1, g2, g3, g4, g5⟩, d1, d2, d3, d4, d5, d6⟩ := id hc
  have hm : rt.1 15 = 7 ∨ ¬ rt.1 14 ≤ 13 := Or.inl h15
  have n99 : ¬ rt.1 14 = 99 := by rw [h14]; decide
  have hact : f_M_action rt = (17, rt) := by
    rw [act_plain h11 h13 (by rw [h12]; decide) hm (row_22 h15 h14), h12]
    exact congrArg (·, rt) (by decide +kernel)
  refine sim_write hR (ad := 256 + st.1 3) (act := 17) (v := st.1 4 &&& 255) (ad_22 hst) (by rw [hst]; decide) (bw_22 hst) hact (by rw [pl_17, ← e3, ← e4]) (fun seen => ?_)
  have hk5 : (f_R_moveStack (sV (sM st (256 + st.1 3) (st.1 4 &&& 255)) 9 (st.1 9 + 1)) (-1)).2.2.1 = 11 := hkd
  rw [wr_22 (u := (sV (sM st (256 + st.1 3) (st.1 4 &&& 255)) 9 (st.1 9 + 1))) hst, if_neg (by rw [hk5]; decide)]
  exact use_go (a := 18) (hp_17 _ _) (by decide) (Or.inl n99) (nx_pl (row := 292818171604) (d := 4) h11 h13 (show rt.1 12 + 1 = 4 by rw [h12]; rfl) (by decide) hm (row_22 h15 h14) (by decide +kernel)) (by decide) ⟨show Rc (sV (sM st (256 + st.1 3) (st.1 4 &&& 255)) 3 ((st.1 3 + (-1)) &&& 255)) (tV (tM rt (256 + st.1 3) (st.1 4 &&& 255)) 3 ((rt.1 3 - 1) &&& 255)) from Rc_push hc (isB_and _), by show st.1 9 + 1 = rt.1 12 + 1; rw [hd], (Sit_P (k := 22) (j := 7) (d := 4) h11 h13 (by decide) (by decide) h14 h15 h7 h8 (show rt.1 12 + 1 = nI 4 by rw [h12]; decide) hkd (by decide) (Or.inr (Or.inr (Or.inr (Or.inr (Or.inr (Or.inr (Or.inr ⟨hkd, (Or.inr (Or.inr (Or.inr (Or.inl ⟨rfl, rfl⟩))))⟩))))))))⟩ rfl rfl
set_option maxHeartbeats 4000000 in
theorem P16_2 {st : CS} {rt : MS} (hR : RR st rt) (h11 : rt.1 11 = 0) (h13 : rt.1 13 = 0) (h14 : rt.1 14 = 16) (h15 : rt.1 15 = 7) (h7 : st.1 7 = 16) (h8 : st.1 8 = 7) (hkd : st.2.2.1 = 7) (hst : st.2.1 = 20) (h12 : rt.1 12 = 2) : Sim st rt := by
  have hc := hR.1
  have hd := hR.2.1
  obtain ⟨⟨e0, e1, e2, e3, e4, e5⟩, ⟨g0, g1, g2, g3, g4, g5⟩, d1, d2, d3, d4, d5, d6⟩ := id hc
  have hm : rt.1 15 = 7 ∨ ¬ rt.1 14 ≤ 13 := Or.inl h15
  have n99 : ¬ rt.1 14 = 99 := by rw [h14]; decide
  have hact : f_M_action rt = (19, rt) := by
    rw [act_plain h11 h13 (by rw [h12]; decide) hm (row_16 h15 h14), h12]
    exact congrArg (·, rt) (by decide +kernel)
  refine sim_write hR (ad := 256 + st.1 3) (act := 19) (v := st.1 0) (ad_20 hst) (by rw [hst]; decide) (by rw [bw_20 hst, if_pos h7]) hact (by rw [pl_19, ← e3, ← e0, b_and255 g0]) (fun seen => ?_)
  exact use_end (hp_19 _ _) (by decide) (Or.inr (nx_pl (row := 1905) (d := 3) h11 h13 (show rt.1 12 + 1 = 3 by rw [h12]; rfl) (by decide) hm (row_16 h15 h14) (by decide +kernel))) (wr_20 (u := (sV (sM st (256 + st.1 3) (st.1 0)) 9 (st.1 9 + 1))) hst) (show Rc (sV (sM st (256 + st.1 3) (st.1 0)) 3 ((st.1 3 + (-1)) &&& 255)) (tV (tM rt (256 + st.1 3) (st.1 0)) 3 ((rt.1 3 - 1) &&& 255)) from Rc_push hc g0) h13 rfl rfl
set_option maxHeartbeats 4000000 in
theorem P18_2 {st : CS} {rt : MS} (hR : RR st rt) (h11 : rt.1 11 = 0) (h13 : rt.1 13 = 0) (h14 : rt.1 14 = 18) (h15 : rt.1 15 = 7) (h7 : st.1 7 = 18) (h8 : st.1 8 = 7) (hkd : st.2.2.1 = 7) (hst : st.2.1 = 20) (h12 : rt.1 12 = 2) : Sim st rt := by
  have hc := hR.1
  have hd := hR.2.1
  obtain ⟨⟨e0, e1, e2, e3, e4, e5⟩, ⟨g0, g1, g2, g3, g4, g5⟩, d1, d2, d3, d4, d5, d6⟩ := id hc
  have hm : rt.1 15 = 7 ∨ ¬ rt.1 14 ≤ 13 := Or.inl h15
  have n99 : ¬ rt.1 14 = 99 := by rw [h14]; decide
  have hact : f_M_action rt = (20, rt) := by
    rw [act_plain h11 h13 (by rw [h12]; decide) hm (row_18 h15 h14), h12]
    exact congrArg (·, rt) (by decide +kernel)
  refine sim_write hR (ad := 256 + st.1 3) (act := 20) (v := st.1 5 + 32) (ad_20 hst) (by rw [hst]; decide) (by rw [bw_20 hst, if_neg (by rw [h7]; decide)]) hact (by rw [pl_20, ← e3, ← e5, (p_dec g5).2.2.2.2.1]) (fun seen => ?_)
  exact use_end (hp_20 _ _) (by decide) (Or.inr (nx_pl (row := 2005) (d := 3) h11 h13 (show rt.1 12 + 1 = 3 by rw [h12]; rfl) (by decide) hm (row_18 h15 h14) (by decide +kernel))) (wr_20 (u := (sV (sM st (256 + st.1 3) (st.1 5 + 32)) 9 (st.1 9 + 1))) hst) (show Rc (sV (sM st (256 + st.1 3) (st.1 5 + 32)) 3 ((st.1 3 + (-1)) &&& 255)) (tV (tM rt (256 + st.1 3) (st.1 5 + 32)) 3 ((rt.1 3 - 1) &&& 255)) from Rc_push hc (p_dec g5).1) h13 rfl rfl
set_option maxHeartbeats 4000000 in
theorem P17_3 {st : CS} {rt : MS} (hR : RR st rt) (h11 : rt.1 11 = 0) (h13 : rt.1 13 = 0) (h14 : rt.1 14 = 17) (h15 : rt.1 15 = 7) (h7 : st.1 7 = 17) (h8 : st.1 8 = 7) (hkd : st.2.2.1 = 8) (hst : st.2.1 = 24) (h12 : rt.1 12 = 3) : Sim st rt := by
  have hc := hR.1
  have hd := hR.2.1
  obtain ⟨⟨e0, e1, e2, e3, e4, e5⟩, ⟨g0, g1, g2, g3, g4, g5⟩, d1, d2, d3, d4, d5, d6⟩ := id hc
  have hm : rt.1 15 = 7 ∨ ¬ rt.1 14 ≤ 13 := Or.inl h15
  have n99 : ¬ rt.1 14 = 99 := by rw [h14]; decide
  have hact : f_M_action rt = (21, rt) := by
    rw [act_plain h11 h13 (by rw [h12]; decide) hm (row_17 h15 h14), h12]
    exact congrArg (·, rt) (by decide +kernel)
  refine sim_read hR (ad := 256 + ((st.1 3 + 1) &&& 255)) (act := 21) (ad_24 hst) (by rw [hst]; rfl) hact (by rw [pl_21, ← e3, w_and (sk_W (isB_and _))]) (fun b seen hb hbe => ?_)
  have eC : f_C_afterRead (sV st 9 (st.1 9 + 1)) b = f_C_end (sV (sV (sV (sV st 9 (st.1 9 + 1)) 3 ((st.1 3 + 1) &&& 255)) 5 (nzF (st.1 5) b)) 0 b) := by
    rw [rd_24 (u := (sV st 9 (st.1 9 + 1))) hst]
    have e : f_C_afterPullByte (sV st 9 (st.1 9 + 1)) b = f_C_end (f_R_loadA (sV (sV st 9 (st.1 9 + 1)) 3 ((st.1 3 + 1) &&& 255)) b) := by
      unfold f_C_afterPullByte
      show (if st.2.2.1 = 10 then _ else if st.1 7 = 17 then _ else _) = _
      rw [if_neg (by rw [hkd]; decide), if_pos h7]
      rfl
    rw [e, R_loadA, b_and255 hb]
    rfl
  have hcp := Rc_pull hc
  exact use_end (hp_21 _ b) (by decide) (Or.inr (nx_pl (row := 210705) (d := 4) h11 h13 (show rt.1 12 + 1 = 4 by rw [h12]; rfl) (by decide) hm (row_17 h15 h14) (by decide +kernel))) (eC) (show Rc (sV (sV (sV st 3 ((st.1 3 + 1) &&& 255)) 5 (nzF (st.1 5) b)) 0 b) (tV (tV (tV rt 3 ((rt.1 3 + 1) &&& 255)) 5 (mkF (rt.1 5) b)) 0 b) from Rc_op hcp (((OpOk.rf hcp.1 hcp.2.1).nz hb).a hb)) h13 rfl rfl
set_option maxHeartbeats 4000000 in
theorem P19_3 {st : CS} {rt : MS} (hR : RR st rt) (h11 : rt.1 11 = 0) (h13 : rt.1 13 = 0) (h14 : rt.1 14 = 19) (h15 : rt.1 15 = 7) (h7 : st.1 7 = 19) (h8 : st.1 8 = 7) (hkd : st.2.2.1 = 8) (hst : st.2.1 = 24) (h12 : rt.1 12 = 3) : Sim st rt := by
  have hc := hR.1
  have hd := hR.2.1
  obtain ⟨⟨e0, e1, e2, e3, e4, e5⟩, ⟨g0, g1, g2, g3, g4, g5⟩, d1, d2, d3, d4, d5, d6⟩ := id hc
  have hm : rt.1 15 = 7 ∨ ¬ rt.1 14 ≤ 13 := Or.inl h15
  have n99 : ¬ rt.1 14 = 99 := by rw [h14]; decide
  have hact : f_M_action rt = (22, rt) := by
    rw [act_plain h11 h13 (by rw [h12]; decide) hm (row_19 h15 h14), h12]
    exact congrArg (·, rt) (by decide +kernel)
  refine sim_read hR (ad := 256 + ((st.1 3 + 1) &&& 255)) (act := 22) (ad_24 hst) (by rw [hst]; rfl) hact (by rw [pl_22, ← e3, w_and (sk_W (isB_and _))]) (fun b seen hb hbe => ?_)
  have eC : f_C_afterRead (sV st 9 (st.1 9 + 1)) b = f_C_end (sV (sV (sV st 9 (st.1 9 + 1)) 3 ((st.1 3 + 1) &&& 255)) 5 (b &&& 207)) := by
    rw [rd_24 (u := (sV st 9 (st.1 9 + 1))) hst]
    unfold f_C_afterPullByte
    show (if st.2.2.1 = 10 then _ else if st.1 7 = 17 then _ else _) = _
    rw [if_neg (by rw [hkd]; decide), if_neg (by rw [h7]; decide)]
    rfl
  exact use_end (hp_22 _ b) (by decide) (Or.inr (nx_pl (row := 220705) (d := 4) h11 h13 (show rt.1 12 + 1 = 4 by rw [h12]; rfl) (by decide) hm (row_19 h15 h14) (by decide +kernel))) (eC) (show Rc (sV (sV st 3 ((st.1 3 + 1) &&& 255)) 5 (b &&& 207)) (tV (tV rt 3 ((rt.1 3 + 1) &&& 255)) 5 (b &&& 207)) from Rc_f (Rc_pull hc) (isF_and b)) h13 rfl rfl
set_option maxHeartbeats 4000000 in
theorem P21_3 {st : CS} {rt : MS} (hR : RR st rt) (h11 : rt.1 11 = 0) (h13 : rt.1 13 = 0) (h14 : rt.1 14 = 21) (h15 : rt.1 15 = 7) (h7 : st.1 7 = 21) (h8 : st.1 8 = 7) (hkd : st.2.2.1 = 10) (hst : st.2.1 = 24) (h12 : rt.1 12 = 3) : Sim st rt := by
  have hc := hR.1
  have hd := hR.2.1
  obtain ⟨⟨e0, e1, e2, e3, e4, e5⟩, ⟨g0, g1, g2, g3, g4, g5⟩, d1, d2, d3, d4, d5, d6⟩ := id hc
  have hm : rt.1 15 = 7 ∨ ¬ rt.1 14 ≤ 13 := Or.inl h15
  have n99 : ¬ rt.1 14 = 99 := by rw [h14]; decide
  have hact : f_M_action rt = (22, rt) := by
    rw [act_plain h11 h13 (by rw [h12]; decide) hm (row_21 h15 h14), h12]
    exact congrArg (·, rt) (by decide +kernel)
  refine sim_read hR (ad := 256 + ((st.1 3 + 1) &&& 255)) (act := 22) (ad_24 hst) (by rw [hst]; rfl) hact (by rw [pl_22, ← e3, w_and (sk_W (isB_and _))]) (fun b seen hb hbe => ?_)
  have eC : f_C_afterRead (sV st 9 (st.1 9 + 1)) b = sS (sV (sV (sV st 9 (st.1 9 + 1)) 3 ((st.1 3 + 1) &&& 255)) 5 (b &&& 207)) 25 := by
    rw [rd_24 (u := (sV st 9 (st.1 9 + 1))) hst]
    unfold f_C_afterPullByte
    show (if st.2.2.1 = 10 then _ else if st.1 7 = 17 then _ else _) = _
    rw [if_pos hkd]
    rfl
  rw [eC]
  exact use_go (a := 23) (hp_22 _ b) (by decide) (Or.inl n99) (nx_pl (row := 2423220705) (d := 4) h11 h13 (show rt.1 12 + 1 = 4 by rw [h12]; rfl) (by decide) hm (row_21 h15 h14) (by decide +kernel)) (by decide) ⟨show Rc (sV (sV st 3 ((st.1 3 + 1) &&& 255)) 5 (b &&& 207)) (tV (tV rt 3 ((rt.1 3 + 1) &&& 255)) 5 (b &&& 207)) from Rc_f (Rc_pull hc) (isF_and b), by show st.1 9 + 1 = rt.1 12 + 1; rw [hd], (Sit_P (k := 21) (j := 7) (d := 4) h11 h13 (by decide) (by decide) h14 h15 h7 h8 (show rt.1 12 + 1 = nI 4 by rw [h12]; decide) hkd (by decide) (Or.inr (Or.inr (Or.inr (Or.inr (Or.inr (Or.inr (Or.inl ⟨hkd, (Or.inr (Or.inr (Or.inr (Or.inl ⟨rfl, rfl⟩))))⟩))))))))⟩ rfl rfl
set_option maxHeartbeats 4000000 in
theorem P20_3 {st : CS} {rt : MS} (hR : RR st rt) (h11 : rt.1 11 = 0) (h13 : rt.1 13 = 0) (h14 : rt.1 14 = 20) (h15 : rt.1 15 = 7) (h7 : st.1 7 = 20) (h8 : st.1 8 = 7) (hkd : st.2.2.1 = 9) (hst : st.2.1 = 25) (h12 : rt.1 12 = 3) : Sim st rt := by
  have hc := hR.1
  have hd := hR.2.1
  obtain ⟨⟨e0, e1, e2, e3, e4, e5⟩, ⟨g0, g1, g2, g3, g4, g5⟩, d1, d2, d3, d4, d5, d6⟩ := id hc
  have hm : rt.1 15 = 7 ∨ ¬ rt.1 14 ≤ 13 := Or.inl h15
  have n99 : ¬ rt.1 14 = 99 := by rw [h14]; decide
  have hact : f_M_action rt = (23, rt) := by
    rw [act_plain h11 h13 (by rw [h12]; decide) hm (row_20 h15 h14), h12]
    exact congrArg (·, rt) (by decide +kernel)
  refine sim_read hR (ad := 256 + ((st.1 3 + 1) &&& 255)) (act := 23) (ad_25 hst) (by rw [hst]; rfl) hact (by rw [pl_23, ← e3, w_and (sk_W (isB_and _))]) (fun b seen hb hbe => ?_)
  rw [rd_25 (u := (sV st 9 (st.1 9 + 1))) hst]
  exact use_go (a := 24) (hp_23 _ b) (by decide) (Or.inl n99) (nx_pl (row := 2524230705) (d := 4) h11 h13 (show rt.1 12 + 1 = 4 by rw [h12]; rfl) (by decide) hm (row_20 h15 h14) (by decide +kernel)) (by decide) ⟨show Rc (sV st 3 ((st.1 3 + 1) &&& 255)) (tV rt 3 ((rt.1 3 + 1) &&& 255)) from Rc_pull hc, by show st.1 9 + 1 = rt.1 12 + 1; rw [hd], (Sit_P (k := 20) (j := 7) (d := 4) h11 h13 (by decide) (by decide) h14 h15 h7 h8 (show rt.1 12 + 1 = nI 4 by rw [h12]; decide) hkd (by decide) (Or.inr (Or.inr (Or.inr (Or.inr (Or.inr (Or.inl ⟨hkd, (Or.inr (Or.inr (Or.inr (Or.inl ⟨rfl, rfl, ⟨rfl, hb⟩⟩))))⟩)))))))⟩ rfl rfl
set_option maxHeartbeats 4000000 in
theorem P21_4 {st : CS} {rt : MS} (hR : RR st rt) (h11 : rt.1 11 = 0) (h13 : rt.1 13 = 0) (h14 : rt.1 14 = 21) (h15 : rt.1 15 = 7) (h7 : st.1 7 = 21) (h8 : st.1 8 = 7) (hkd : st.2.2.1 = 10) (hst : st.2.1 = 25) (h12 : rt.1 12 = 4) : Sim st rt := by
  have hc := hR.1
  have hd := hR.2.1
  obtain ⟨⟨e0, e1, e2, e3, e4, e5⟩, ⟨g0, g1, g2, g3, g4, g5⟩, d1, d2, d3, d4, d5, d6⟩ := id hc
  have hm : rt.1 15 = 7 ∨ ¬ rt.1 14 ≤ 13 := Or.inl h15
  have n99 : ¬ rt.1 14 = 99 := by rw [h14]; decide
  have hact : f_M_action rt = (23, rt) := by
    rw [act_plain h11 h13 (by rw [h12]; decide) hm (row_21 h15 h14), h12]
    exact congrArg (·, rt) (by decide +kernel)
  refine sim_read hR (ad := 256 + ((st.1 3 + 1) &&& 255)) (act := 23) (ad_25 hst) (by rw [hst]; rfl) hact (by rw [pl_23, ← e3, w_and (sk_W (isB_and _))]) (fun b seen hb hbe => ?_)
  rw [rd_25 (u := (sV st 9 (st.1 9 + 1))) hst]
  exact use_go (a := 24) (hp_23 _ b) (by decide) (Or.inl n99) (nx_pl (row := 2423220705) (d := 5) h11 h13 (show rt.1 12 + 1 = 5 by rw [h12]; rfl) (by decide) hm (row_21 h15 h14) (by decide +kernel)) (by decide) ⟨show Rc (sV st 3 ((st.1 3 + 1) &&& 255)) (tV rt 3 ((rt.1 3 + 1) &&& 255)) from Rc_pull hc, by show st.1 9 + 1 = rt.1 12 + 1; rw [hd], (Sit_P (k := 21) (j := 7) (d := 5) h11 h13 (by decide) (by decide) h14 h15 h7 h8 (show rt.1 12 + 1 = nI 5 by rw [h12]; decide) hkd (by decide) (Or.inr (Or.inr (Or.inr (Or.inr (Or.inr (Or.inr (Or.inl ⟨hkd, (Or.inr (Or.inr (Or.inr (Or.inr ⟨rfl, rfl, ⟨rfl, hb⟩⟩))))⟩))))))))⟩ rfl rfl
set_option maxHeartbeats 4000000 in
theorem P20_4 {st : CS} {rt : MS} (hR : RR st rt) (h11 : rt.1 11 = 0) (h13 : rt.1 13 = 0) (h14 : rt.1 14 = 20) (h15 : rt.1 15 = 7) (h7 : st.1 7 = 20) (h8 : st.1 8 = 7) (hkd : st.2.2.1 = 9) (hst : st.2.1 = 26) (h12 : rt.1 12 = 4) (hz : Hz st rt) : Sim st rt := by
  have hc := hR.1
  have hd := hR.2.1
  obtain ⟨⟨e0, e1, e2, e3, e4, e5⟩, ⟨g0, g1, g2, g3, g4, g5⟩, d1, d2, d3, d4, d5, d6⟩ := id hc
  have hm : rt.1 15 = 7 ∨ ¬ rt.1 14 ≤ 13 := Or.inl h15
  have n99 : ¬ rt.1 14 = 99 := by rw [h14]; decide
  have hact : f_M_action rt = (24, rt) := by
    rw [act_plain h11 h13 (by rw [h12]; decide) hm (row_20 h15 h14), h12]
    exact congrArg (·, rt) (by decide +kernel)
  refine sim_read hR (ad := 256 + ((st.1 3 + 1) &&& 255)) (act := 24) (ad_26 hst) (by rw [hst]; rfl) hact (by rw [pl_24, ← e3, w_and (sk_W (isB_and _))]) (fun b seen hb hbe => ?_)
  obtain ⟨w1, w2⟩ := word_dec hz.2 hb
  have hh : f_M_happen (tV (tV rt 23 (256 + ((st.1 3 + 1) &&& 255))) 24 0) 24 b = tV (tV (tV (tV rt 23 (256 + ((st.1 3 + 1) &&& 255))) 24 0) 3 ((rt.1 3 + 1) &&& 255)) 4 (rt.1 16 + 256 * b) := by rw [← w1]; exact hp_24 _ b
  have eC : f_C_afterRead (sV st 9 (st.1 9 + 1)) b = sS (sV (sV (sV st 9 (st.1 9 + 1)) 3 ((st.1 3 + 1) &&& 255)) 4 (rt.1 16 + 256 * b)) 27 := by
    rw [rd_26 (u := (sV st 9 (st.1 9 + 1))) hst]
    unfold f_C_afterPullPage
    show (if st.2.2.1 = 9 then _ else _) = _
    rw [if_pos hkd, ← hz.1]
    rfl
  rw [eC]
  exact use_go (a := 25) (hh) (by decide) (Or.inl n99) (nx_pl (row := 2524230705) (d := 5) h11 h13 (show rt.1 12 + 1 = 5 by rw [h12]; rfl) (by decide) hm (row_20 h15 h14) (by decide +kernel)) (by decide) ⟨show Rc (sV (sV st 3 ((st.1 3 + 1) &&& 255)) 4 (rt.1 16 + 256 * b)) (tV (tV rt 3 ((rt.1 3 + 1) &&& 255)) 4 (rt.1 16 + 256 * b)) from Rc_pc (Rc_pull hc) w2, by show st.1 9 + 1 = rt.1 12 + 1; rw [hd], (Sit_P (k := 20) (j := 7) (d := 5) h11 h13 (by decide) (by decide) h14 h15 h7 h8 (show rt.1 12 + 1 = nI 5 by rw [h12]; decide) hkd (by decide) (Or.inr (Or.inr (Or.inr (Or.inr (Or.inr (Or.inl ⟨hkd, (Or.inr (Or.inr (Or.inr (Or.inr ⟨rfl, rfl⟩))))⟩)))))))⟩ rfl rfl
set_option maxHeartbeats 4000000 in
theorem P21_5 {st : CS} {rt : MS} (hR : RR st rt) (h11 : rt.1 11 = 0) (h13 : rt.1 13 = 0) (h14 : rt.1 14 = 21) (h15 : rt.1 15 = 7) (h7 : st.1 7 = 21) (h8 : st.1 8 = 7) (hkd : st.2.2.1 = 10) (hst : st.2.1 = 26) (h12 : rt.1 12 = 5) (hz : Hz st rt) : Sim st rt := by
  have hc := hR.1
  have hd := hR.2.1
  obtain ⟨⟨e0, e1, e2, e3, e4, e5⟩, ⟨g0, g1, g2, g3, g4, g5⟩, d1, d2, d3, d4, d5, d6⟩ := id hc
  have hm : rt.1 15 = 7 ∨ ¬ rt.1 14 ≤ 13 := Or.inl h15
  have n99 : ¬ rt.1 14 = 99 := by rw [h14]; decide
  have hact : f_M_action rt = (24, rt) := by
    rw [act_plain h11 h13 (by rw [h12]; decide) hm (row_21 h15 h14), h12]
    exact congrArg (·, rt) (by decide +kernel)
  refine sim_read hR (ad := 256 + ((st.1 3 + 1) &&& 255)) (act := 24) (ad_26 hst) (by rw [hst]; rfl) hact (by rw [pl_24, ← e3, w_and (sk_W (isB_and _))]) (fun b seen hb hbe => ?_)
  obtain ⟨w1, w2⟩ := word_dec hz.2 hb
  have hh : f_M_happen (tV (tV rt 23 (256 + ((st.1 3 + 1) &&& 255))) 24 0) 24 b = tV (tV (tV (tV rt 23 (256 + ((st.1 3 + 1) &&& 255))) 24 0) 3 ((rt.1 3 + 1) &&& 255)) 4 (rt.1 16 + 256 * b) := by rw [← w1]; exact hp_24 _ b
  have eC : f_C_afterRead (sV st 9 (st.1 9 + 1)) b = f_C_end (sV (sV (sV st 9 (st.1 9 + 1)) 3 ((st.1 3 + 1) &&& 255)) 4 (rt.1 16 + 256 * b)) := by
    rw [rd_26 (u := (sV st 9 (st.1 9 + 1))) hst]
    unfold f_C_afterPullPage
    show (if st.2.2.1 = 9 then _ else _) = _
    rw [if_neg (by rw [hkd]; decide), ← hz.1]
    rfl
  exact use_end (hh) (by decide) (Or.inr (nx_pl (row := 2423220705) (d := 6) h11 h13 (show rt.1 12 + 1 = 6 by rw [h12]; rfl) (by decide) hm (row_21 h15 h14) (by decide +kernel))) (eC) (show Rc (sV (sV st 3 ((st.1 3 + 1) &&& 255)) 4 (rt.1 16 + 256 * b)) (tV (tV rt 3 ((rt.1 3 + 1) &&& 255)) 4 (rt.1 16 + 256 * b)) from Rc_pc (Rc_pull hc) w2) h13 rfl rfl
set_option maxHeartbeats 4000000 in
theorem P20_5 {st : CS} {rt : MS} (hR : RR st rt) (h11 : rt.1 11 = 0) (h13 : rt.1 13 = 0) (h14 : rt.1 14 = 20) (h15 : rt.1 15 = 7) (h7 : st.1 7 = 20) (h8 : st.1 8 = 7) (hkd : st.2.2.1 = 9) (hst : st.2.1 = 27) (h12 : rt.1 12 = 5) : Sim st rt := by
  have hc := hR.1
  have hd := hR.2.1
  obtain ⟨⟨e0, e1, e2, e3, e4, e5⟩, ⟨g0, g1, g2, g3, g4, g5⟩, d1, d2, d3, d4, d5, d6⟩ := id hc
  have hm : rt.1 15 = 7 ∨ ¬ rt.1 14 ≤ 13 := Or.inl h15
  have n99 : ¬ rt.1 14 = 99 := by rw [h14]; decide
  have hact : f_M_action rt = (25, rt) := by
    rw [act_plain h11 h13 (by rw [h12]; decide) hm (row_20 h15 h14), h12]
    exact congrArg (·, rt) (by decide +kernel)
  refine sim_read hR (ad := st.1 4) (act := 25) (ad_27 hst) (by rw [hst]; rfl) hact (by rw [pl_25, ← e4, w_and g4]) (fun b seen hb hbe => ?_)
  exact use_end (hp_25 _ b) (by decide) (Or.inr (nx_pl (row := 2524230705) (d := 6) h11 h13 (show rt.1 12 + 1 = 6 by rw [h12]; rfl) (by decide) hm (row_20 h15 h14) (by decide +kernel))) (rd_27 (u := (sV st 9 (st.1 9 + 1))) hst) (show Rc (sV st 4 ((st.1 4 + 1) &&& 65535)) (tV rt 4 ((rt.1 4 + 1) &&& 65535)) from Rc_next hc) h13 rfl rfl
set_option maxHeartbeats 4000000 in
theorem P22_1 {st : CS} {rt : MS} (hR : RR st rt) (h11 : rt.1 11 = 0) (h13 : rt.1 13 = 0) (h14 : rt.1 14 = 22) (h15 : rt.1 15 = 7) (h7 : st.1 7 = 22) (h8 : st.1 8 = 7) (hkd : st.2.2.1 = 11) (hst : st.2.1 = 17) (h12 : rt.1 12 = 1) : Sim st rt := by
  have hc := hR.1
  have hd := hR.2.1
  obtain ⟨⟨e0, e1, e2, e3, e4, e5⟩, ⟨g0, g1, g2, g3, g4, g5⟩, d1, d2, d3, d4, d5, d6⟩ := id hc
  have hm : rt.1 15 = 7 ∨ ¬ rt.1 14 ≤ 13 := Or.inl h15
  have n99 : ¬ rt.1 14 = 99 := by rw [h14]; decide
  have hact : f_M_action rt = (4, rt) := by
    rw [act_plain h11 h13 (by rw [h12]; decide) hm (row_22 h15 h14), h12]
    exact congrArg (·, rt) (by decide +kernel)
  refine sim_read hR (ad := st.1 4) (act := 4) (ad_17 hst) (by rw [hst]; rfl) hact (by rw [pl_4, ← e4, w_and g4]) (fun b seen hb hbe => ?_)
  rw [rd_17 (u := (sV st 9 (st.1 9 + 1))) hst]
  exact use_go (a := 16) (hp_4 _ b) (by decide) (Or.inl n99) (nx_pl (row := 292818171604) (d := 2) h11 h13 (show rt.1 12 + 1 = 2 by rw [h12]; rfl) (by decide) hm (row_22 h15 h14) (by decide +kernel)) (by decide) ⟨show Rc (sV st 4 ((st.1 4 + 1) &&& 65535)) (tV rt 4 ((rt.1 4 + 1) &&& 65535)) from Rc_next hc, by show st.1 9 + 1 = rt.1 12 + 1; rw [hd], (Sit_P (k := 22) (j := 7) (d := 2) h11 h13 (by decide) (by decide) h14 h15 h7 h8 (show rt.1 12 + 1 = nI 2 by rw [h12]; decide) hkd (by decide) (Or.inr (Or.inr (Or.inr (Or.inr (Or.inr (Or.inr (Or.inr ⟨hkd, (Or.inr (Or.inl ⟨rfl, rfl⟩))⟩))))))))⟩ rfl rfl
set_option maxHeartbeats 4000000 in
theorem P22_4 {st : CS} {rt : MS} (hR : RR st rt) (h11 : rt.1 11 = 0) (h13 : rt.1 13 = 0) (h14 : rt.1 14 = 22) (h15 : rt.1 15 = 7) (h7 : st.1 7 = 22) (h8 : st.1 8 = 7) (hkd : st.2.2.1 = 11) (hst : st.2.1 = 23) (h12 : rt.1 12 = 4) : Sim st rt := by
  have hc := hR.1
  have hd := hR.2.1
  obtain ⟨⟨e0, e1, e2, e3, e4, e5⟩, ⟨g0, g1, g2, g3, g4, g5⟩, d1, d2, d3, d4, d5, d6⟩ := id hc
  have hm : rt.1 15 = 7 ∨ ¬ rt.1 14 ≤ 13 := Or.inl h15
  have n99 : ¬ rt.1 14 = 99 := by rw [h14]; decide
  have hact : f_M_action rt = (18, rt) := by
    rw [act_plain h11 h13 (by rw [h12]; decide) hm (row_22 h15 h14), h12]
    exact congrArg (·, rt) (by decide +kernel)
  have hp := p_dec g5
  have eb : f_C_byteToWrite st = (st.1 5 + 32 + 16, st) := by rw [bw_23 hst, if_pos hkd]
  refine sim_write hR (ad := 256 + st.1 3) (act := 18) (v := st.1 5 + 32 + 16) (ad_23 hst) (by rw [hst]; decide) eb hact (by rw [pl_18, if_neg (by rw [h11]; decide), ← e3, ← e5, hp.2.2.1]) (fun seen => ?_)
  rw [wr_23 (u := sV (sM st (256 + st.1 3) (st.1 5 + 32 + 16)) 9 (st.1 9 + 1)) hst, R_put]
  exact use_go (a := 28) (hp_18 _ _) (by decide) (Or.inl n99) (nx_pl (row := 292818171604) (d := 5) h11 h13 (show rt.1 12 + 1 = 5 by rw [h12]; rfl) (by decide) hm (row_22 h15 h14) (by decide +kernel)) (by decide) ⟨show Rc (sV (sV (sM st (256 + st.1 3) (st.1 5 + 32 + 16)) 3 ((st.1 3 + (-1)) &&& 255)) 5 (fput (st.1 5) 4 1)) (tV (tV (tM rt (256 + st.1 3) (st.1 5 + 32 + 16)) 3 ((rt.1 3 - 1) &&& 255)) 5 (rt.1 5 ||| 4)) from Rc_setI (Rc_push hc hp.2.2.2.1), by show st.1 9 + 1 = rt.1 12 + 1; rw [hd], (Sit_P (k := 22) (j := 7) (d := 5) h11 h13 (by decide) (by decide) h14 h15 h7 h8 (show rt.1 12 + 1 = nI 5 by rw [h12]; decide) hkd (by decide) (Or.inr (Or.inr (Or.inr (Or.inr (Or.inr (Or.inr (Or.inr ⟨hkd, (Or.inr (Or.inr (Or.inr (Or.inr (Or.inl ⟨rfl, rfl⟩)))))⟩))))))))⟩ rfl rfl
set_option maxHeartbeats 4000000 in
theorem P22_5 {st : CS} {rt : MS} (hR : RR st rt) (h11 : rt.1 11 = 0) (h13 : rt.1 13 = 0) (h14 : rt.1 14 = 22) (h15 : rt.1 15 = 7) (h7 : st.1 7 = 22) (h8 : st.1 8 = 7) (hkd : st.2.2.1 = 11) (hst : st.2.1 = 29) (h12 : rt.1 12 = 5) : Sim st rt := by
  have hc := hR.1
  have hd := hR.2.1
  obtain ⟨⟨e0, e1, e2, e3, e4, e5⟩, ⟨g0, g1, g2, g3, g4, g5⟩, d1, d2, d3, d4, d5, d6⟩ := id hc
  have hm : rt.1 15 = 7 ∨ ¬ rt.1 14 ≤ 13 := Or.inl h15
  have n99 : ¬ rt.1 14 = 99 := by rw [h14]; decide
  have hact : f_M_action rt = (28, rt) := by
    rw [act_plain h11 h13 (by rw [h12]; decide) hm (row_22 h15 h14), h12]
    exact congrArg (·, rt) (by decide +kernel)
  obtain ⟨V, hV⟩ : ∃ V : Int32, V = if rt.1 10 = 0 then 65534 else 65530 := ⟨_, rfl⟩
  have hVW : V &&& 65535 = V ∧ isW (V + 1) ∧ (¬ rt.1 10 = 0 → V = 65530) := by
    rw [hV]
    by_cases q : rt.1 10 = 0
    · rw [if_pos q]; exact ⟨by decide, ⟨65535, by decide, by decide⟩, fun h => absurd q h⟩
    · rw [if_neg q]; exact ⟨by decide, ⟨65531, by decide, by decide⟩, fun _ => rfl⟩
  have eA : f_C_addressOfStep st = (V, st) := by rw [ad_29 hst, d3, hV]
  have n2 : ¬ rt.1 11 = 2 := by rw [h11]; decide
  refine sim_read hR (ad := V) (act := 28) eA (by rw [hst]; rfl) hact (by rw [pl_28, if_neg n2, hV]; split <;> rfl) (fun b seen hb hbe => ?_)
  rw [rd_29 (u := sV st 9 (st.1 9 + 1)) hst]
  have eC : f_C_afterVectorLow (sV st 9 (st.1 9 + 1)) b = sS (sV (sV (sV (sV st 9 (st.1 9 + 1)) 13 b) 11 (V + 1)) 6 0) 30 := by
    have e : f_C_afterVectorLow (sV st 9 (st.1 9 + 1)) b = sS (sV (sV (f_C_addressOfStep (sV (sV st 9 (st.1 9 + 1)) 13 b)).2 11 ((f_C_addressOfStep (sV (sV st 9 (st.1 9 + 1)) 13 b)).1 + 1)) 6 0) 30 := rfl
    rw [e, ad_29 (u := sV (sV st 9 (st.1 9 + 1)) 13 b) hst, hV, ← d3]
    rfl
  rw [eC]
  have hh := hp_28 (u := tV (tV rt 23 V) 24 0) b d6 (fun q => Or.inr (hVW.2.2 q)) (fun q => absurd q n2)
  have hh : f_M_happen (tV (tV rt 23 V) 24 0) 28 b = tV (tV (tV (tV (tV (tV (tV rt 23 V) 24 0) 3 (rt.1 3)) 19 V) 10 0) 5 (rt.1 5)) 16 b := by
    rw [hh, if_neg (show ¬ (tV (tV rt 23 V) 24 0).1 11 = 2 from n2), if_neg (show ¬ (tV (tV rt 23 V) 24 0).1 11 = 2 from n2)]
    rfl
  exact use_go (a := 29) (hh) (by decide) (Or.inl n99) (nx_pl (row := 292818171604) (d := 6) h11 h13 (show rt.1 12 + 1 = 6 by rw [h12]; rfl) (by decide) hm (row_22 h15 h14) (by decide +kernel)) (by decide) ⟨⟨⟨e0, e1, e2, e3, e4, e5⟩, ⟨g0, g1, g2, g3, g4, g5⟩, d1, d2, rfl, d4, d5, Or.inl rfl⟩, by show st.1 9 + 1 = rt.1 12 + 1; rw [hd], (Sit_P (k := 22) (j := 7) (d := 6) h11 h13 (by decide) (by decide) h14 h15 h7 h8 (show rt.1 12 + 1 = nI 6 by rw [h12]; decide) hkd (by decide) (Or.inr (Or.inr (Or.inr (Or.inr (Or.inr (Or.inr (Or.inr ⟨hkd, (Or.inr (Or.inr (Or.inr (Or.inr (Or.inr ⟨rfl, rfl, ⟨rfl, hb, rfl, hVW.2.1⟩⟩)))))⟩))))))))⟩ rfl rfl
set_option maxHeartbeats 4000000 in
theorem P22_6 {st : CS} {rt : MS} (hR : RR st rt) (h11 : rt.1 11 = 0) (h13 : rt.1 13 = 0) (h14 : rt.1 14 = 22) (h15 : rt.1 15 = 7) (h7 : st.1 7 = 22) (h8 : st.1 8 = 7) (hkd : st.2.2.1 = 11) (hst : st.2.1 = 30) (h12 : rt.1 12 = 6) (hv6 : V6 st rt) : Sim st rt := by
  have hc := hR.1
  have hd := hR.2.1
  obtain ⟨⟨e0, e1, e2, e3, e4, e5⟩, ⟨g0, g1, g2, g3, g4, g5⟩, d1, d2, d3, d4, d5, d6⟩ := id hc
  have hm : rt.1 15 = 7 ∨ ¬ rt.1 14 ≤ 13 := Or.inl h15
  have n99 : ¬ rt.1 14 = 99 := by rw [h14]; decide
  have hact : f_M_action rt = (29, rt) := by
    rw [act_plain h11 h13 (by rw [h12]; decide) hm (row_22 h15 h14), h12]
    exact congrArg (·, rt) (by decide +kernel)
  obtain ⟨hz, hzB, hv, hvW⟩ := hv6
  refine sim_read hR (ad := st.1 11) (act := 29) (ad_30 hst) (by rw [hst]; rfl) hact (by rw [pl_29, hv, w_and hvW]) (fun b seen hb hbe => ?_)
  exact vec_end hc hst hb hz hzB h13 (nx_pl (h := tV (tV (tV (tV rt 23 (st.1 11)) 24 0) 3 (rt.1 3)) 4 (rt.1 16 + 256 * b)) (row := 292818171604) (d := 7) h11 h13 (show rt.1 12 + 1 = 7 by rw [h12]; rfl) (by decide) hm (row_22 h15 h14) (by decide +kernel))
set_option maxHeartbeats 4000000 in
theorem Plo {st : CS} {rt : MS} {k : Nat} (hk : k < 16) (hR : RR st rt) (h11 : rt.1 11 = 0) (h13 : rt.1 13 = 0) (h14 : rt.1 14 = nI k) (h15 : rt.1 15 = 7) (h7 : st.1 7 = nI k) (hkd : st.2.2.1 = 6) (hst : st.2.1 = 18) (h12 : rt.1 12 = 1) : Sim st rt := by
  have hc := hR.1
  have hd := hR.2.1
  obtain ⟨⟨e0, e1, e2, e3, e4, e5⟩, ⟨g0, g1, g2, g3, g4, g5⟩, d1, d2, d3, d4, d5, d6⟩ := id hc
  obtain ⟨-, -, q16, -⟩ := lo_dec k hk
  have hact : f_M_action rt = (5, rt) := by
    rw [act_plain h11 h13 (by rw [h12]; decide) (Or.inl h15) (row_lo hk h15 h14), h12]
    exact congrArg (·, rt) (by decide +kernel)
  refine sim_read hR (ad := st.1 4) (act := 5) (ad_18 hst) (by rw [hst]; rfl) hact (by rw [pl_5, ← e4, w_and g4]) (fun b seen hb hbe => ?_)
  have eC : f_C_afterRead (sV st 9 (st.1 9 + 1)) b = f_C_end (f_R_operateAlone (sV st 9 (st.1 9 + 1)) (nI k)) := by
    rw [rd_18 (u := sV st 9 (st.1 9 + 1)) hst]
    unfold f_C_afterPcIdle
    rw [show (sV st 9 (st.1 9 + 1)).2.2.1 = st.2.2.1 from rfl, hkd, show (sV st 9 (st.1 9 + 1)).1 7 = st.1 7 from rfl, h7]
    rfl
  have hop := alone_ok (st := sV st 9 (st.1 9 + 1)) (rt := tV (tV (tV rt 23 (st.1 4)) 24 0) 3 (rt.1 3)) ⟨e0, e1, e2, e3, e4, e5⟩ ⟨g0, g1, g2, g3, g4, g5⟩ hk h14
  have hh : f_M_happen (tV (tV rt 23 (st.1 4)) 24 0) 5 b = f_M_plain (tV (tV (tV rt 23 (st.1 4)) 24 0) 3 (rt.1 3)) := hp_5a b h11 h15 (show ¬ 16 ≤ rt.1 14 by rw [h14]; exact q16)
  generalize f_M_plain (tV (tV (tV rt 23 (st.1 4)) 24 0) 3 (rt.1 3)) = h at hop hh
  generalize f_R_operateAlone (sV st 9 (st.1 9 + 1)) (nI k) = s2 at hop eC
  have m := hop.2.2.2
  have f := hop.2.1.2
  have a11 : h.1 11 = 0 := (m 11 (by decide)).trans h11
  have a13 : h.1 13 = 0 := (m 13 (by decide)).trans h13
  have a14 : h.1 14 = nI k := (m 14 (by decide)).trans h14
  have a15 : h.1 15 = 7 := (m 15 (by decide)).trans h15
  have a12 : h.1 12 = 1 := (m 12 (by decide)).trans h12
  have hcc : Rc s2 h := Rc_op (show Rc (sV st 9 (st.1 9 + 1)) (tV (tV (tV rt 23 (st.1 4)) 24 0) 3 (rt.1 3)) from hc) hop
  exact use_end hh (by decide) (Or.inr (nx_pl (row := 5) (d := 2) a11 a13 (by rw [a12]; rfl) (by decide) (Or.inl a15) (row_lo hk a15 a14) (by decide +kernel))) eC (show Rc s2 h from hcc) a13 (f 10 (by decide)) (m 26 (by decide))

/-! one cycle of an instruction with an operand -/
theorem opd_0 {u : MS} (h : u.1 15 = 0) : opd u = u.1 4 := by unfold opd; rw [h]; rfl
theorem opd_1 {u : MS} (h : u.1 15 = 1) : opd u = u.1 16 := by unfold opd; rw [h]; rfl
theorem opd_2 {u : MS} (h : u.1 15 = 2) : opd u = (u.1 16 + u.1 1) &&& 255 := by unfold opd; rw [h]; rfl
theorem opd_3 {u : MS} (h : u.1 15 = 3) : opd u = u.1 16 ||| (u.1 17 <<< ((8 : Int32) &&& 31)) := by unfold opd; rw [h]; rfl
theorem opd_4 {u : MS} (h : u.1 15 = 4) : opd u = ((u.1 16 ||| (u.1 17 <<< ((8 : Int32) &&& 31))) + u.1 1) &&& 65535 := by unfold opd; rw [h]; rfl
theorem opd_5 {u : MS} (h : u.1 15 = 5) : opd u = u.1 18 ||| (u.1 17 <<< ((8 : Int32) &&& 31)) := by unfold opd; rw [h]; rfl
theorem opd_6 {u : MS} (h : u.1 15 = 6) : opd u = ((u.1 18 ||| (u.1 17 <<< ((8 : Int32) &&& 31))) + u.1 2) &&& 65535 := by unfold opd; rw [h]; rfl
theorem op_end {st su : CS} {rt ur u0 : MS} {k j d hh : Nat} {b seen : Int32} (hcs : Rc su ur) (hk : k < 10) (hk1 : k ≠ 1) (hj : j ≤ 6) (h11 : ur.1 11 = 0) (h13 : ur.1 13 = 0) (h14 : ur.1 14 = nI k) (h15 : ur.1 15 = nI j) (h12 : ur.1 12 + 1 = nI d) (hd : 0 < d) (hd2 : d < 12) (h22 : ur.1 22 = nI hh) (hhh : hh < 2) (h0 : aN k j d hh = 0) (hb : isB b) (hH : f_M_happen u0 11 b = f_M_use ur b) (eC : f_C_afterRead (sV st 9 (st.1 9 + 1)) b = f_C_end (f_R_operate su (nI k) b)) (h10 : su.1 10 = st.1 10) (h26 : ur.1 26 = rt.1 26) :
    ∃ rt' : MS, f_M_clock_101 u0 11 b seen = (seen, rt') ∧ RR (f_C_afterRead (sV st 9 (st.1 9 + 1)) b) rt' ∧ (f_C_afterRead (sV st 9 (st.1 9 + 1)) b).1 10 - st.1 10 = rt'.1 26 - rt.1 26 := by
  have hop := use_ok hcs.1 hcs.2.1 hb hk hk1 h14
  have hcc := Rc_op hcs hop
  generalize f_M_use ur b = h at hop hH hcc
  generalize f_R_operate su (nI k) b = s2 at hop eC hcc
  have m := hop.2.2.2
  have f := hop.2.1.2
  have e := nx_A (u := h) (k := k) (j := j) (d := d) (h := hh) ((m 11 (by decide)).trans h11) ((m 13 (by decide)).trans h13) (by omega) hj ((m 14 (by decide)).trans h14) ((m 15 (by decide)).trans h15) (by rw [m 12 (by decide)]; exact h12) hd hd2 ((m 22 (by decide)).trans h22) hhh
  rw [h0] at e
  exact use_end hH (by decide) (Or.inr e) eC (show Rc s2 h from hcc) ((m 13 (by decide)).trans h13) ((f 10 (by decide)).trans h10) ((m 26 (by decide)).trans h26)
set_option maxHeartbeats 4000000 in
theorem A_1 {st : CS} {rt : MS} {k j d : Nat} (hR : RR st rt) (h11 : rt.1 11 = 0) (h13 : rt.1 13 = 0) (hk : k ≤ 13) (hj : j ≤ 6) (h14 : rt.1 14 = nI k) (h15 : rt.1 15 = nI j) (h7 : st.1 7 = nI k) (h8 : st.1 8 = nI j) (h12 : rt.1 12 = nI d) (hkd : st.2.2.1 = kdN k j) (hv : (kdN k j).val ≤ 2) (hst : st.2.1 = 1) (ej : j = 0) (ed : d = 1) (h22 : rt.1 22 = 0) (hq : kdN k j = 0) : Sim st rt := by
  have hc := hR.1
  have hd := hR.2.1
  obtain ⟨⟨e0, e1, e2, e3, e4, e5⟩, ⟨g0, g1, g2, g3, g4, g5⟩, d1, d2, d3, d4, d5, d6⟩ := id hc
  have hk14 : k < 14 := by omega
  have hj7 : j < 7 := by omega
  have n99 : ¬ rt.1 14 = 99 := by rw [h14]; exact (kj_dec.1 k hk14).2
  have hd1 : st.1 9 + 1 = rt.1 12 + 1 := by rw [hd]
  subst ej ed
  obtain ⟨k10, k1⟩ := kd_0 k hk14 0 (by decide) hq
  have hop : opd rt = rt.1 4 := opd_0 h15
  have hact : f_M_action rt = (11, rt) := by
    rw [cur_A (d := 1) (h := 0) h11 h13 hk hj h14 h15 h12 (by decide) (by decide) h22 (by decide), (aN1 k hk14 hq).1]
  refine sim_read hR (ad := st.1 4) (act := 11) (ad_1 hst) (by rw [hst]; rfl) hact (by rw [pl_11, hop, ← e4, w_and g4]) (fun b seen hb hbe => ?_)
  have hcn := Rc_next hc
  have eC : f_C_afterRead (sV st 9 (st.1 9 + 1)) b = f_C_end (f_R_operate (sV (sV st 9 (st.1 9 + 1)) 4 ((st.1 4 + 1) &&& 65535)) (nI k) b) := by
    rw [rd_1 (u := (sV st 9 (st.1 9 + 1))) hst]
    show f_C_end (f_R_operate (sV (sV st 9 (st.1 9 + 1)) 4 ((st.1 4 + 1) &&& 65535)) (st.1 7) b) = _
    rw [h7]
  exact op_end (su := sV (sV st 9 (st.1 9 + 1)) 4 ((st.1 4 + 1) &&& 65535)) (ur := tV (tV (tV rt 23 (st.1 4)) 24 0) 4 ((rt.1 4 + 1) &&& 65535)) (j := 0) (d := 2) (hh := 0) hcn k10 k1 (by decide) h11 h13 h14 h15 (show rt.1 12 + 1 = nI 2 by rw [h12]; decide) (by decide) (by decide) h22 (by decide) (aN1 k hk14 hq).2 hb (by rw [hp_11, if_pos (show (tV (tV rt 23 (st.1 4)) 24 0).1 15 = 0 from h15)]; rfl) eC rfl rfl
set_option maxHeartbeats 4000000 in
theorem A_2 {st : CS} {rt : MS} {k j d : Nat} (hR : RR st rt) (h11 : rt.1 11 = 0) (h13 : rt.1 13 = 0) (hk : k ≤ 13) (hj : j ≤ 6) (h14 : rt.1 14 = nI k) (h15 : rt.1 15 = nI j) (h7 : st.1 7 = nI k) (h8 : st.1 8 = nI j) (h12 : rt.1 12 = nI d) (hkd : st.2.2.1 = kdN k j) (hv : (kdN k j).val ≤ 2) (hst : st.2.1 = 2) (ej : j = 1 ∨ j = 2 ∨ j = 5 ∨ j = 6) (ed : d = 1) (h22 : rt.1 22 = 0) : Sim st rt := by
  have hc := hR.1
  have hd := hR.2.1
  obtain ⟨⟨e0, e1, e2, e3, e4, e5⟩, ⟨g0, g1, g2, g3, g4, g5⟩, d1, d2, d3, d4, d5, d6⟩ := id hc
  have hk14 : k < 14 := by omega
  have hj7 : j < 7 := by omega
  have n99 : ¬ rt.1 14 = 99 := by rw [h14]; exact (kj_dec.1 k hk14).2
  have hd1 : st.1 9 + 1 = rt.1 12 + 1 := by rw [hd]
  subst ed
  have hact : f_M_action rt = (2, rt) := by
    rw [cur_A (d := 1) (h := 0) h11 h13 hk hj h14 h15 h12 (by decide) (by decide) h22 (by decide), aN2 k hk14 j hj7 ej]
  refine sim_read hR (ad := st.1 4) (act := 2) (ad_2 hst) (by rw [hst]; rfl) hact (by rw [pl_2, ← e4, w_and g4]) (fun b seen hb hbe => ?_)
  have hcn : Rc (sV st 4 ((st.1 4 + 1) &&& 65535)) (tV rt 4 ((rt.1 4 + 1) &&& 65535)) := Rc_next hc
  have h12' : rt.1 12 + 1 = nI 2 := by rw [h12]; decide
  have hh := hp_2 (tV (tV rt 23 (st.1 4)) 24 0) b
  have eC : f_C_afterRead (sV st 9 (st.1 9 + 1)) b = (if st.1 8 = 1 then f_C_accessOperandAt (sV (sV st 9 (st.1 9 + 1)) 4 ((st.1 4 + 1) &&& 65535)) b else (if st.1 8 = 2 then sS (sV (sV (sV st 9 (st.1 9 + 1)) 4 ((st.1 4 + 1) &&& 65535)) 11 b) 3 else (if st.1 8 = 5 then sS (sV (sV (sV st 9 (st.1 9 + 1)) 4 ((st.1 4 + 1) &&& 65535)) 11 b) 3 else sS (sV (sV (sV st 9 (st.1 9 + 1)) 4 ((st.1 4 + 1) &&& 65535)) 11 b) 4))) := rd_2 (u := (sV st 9 (st.1 9 + 1))) hst
  generalize (f_M_isTaken (f_M_next (tV (tV (tV rt 23 (st.1 4)) 24 0) 16 b))).1 = T at hh
  have hh : f_M_happen (tV (tV rt 23 (st.1 4)) 24 0) 2 b = tV (tV (tV (tV (tV rt 23 (st.1 4)) 24 0) 16 b) 4 ((rt.1 4 + 1) &&& 65535)) 21 T := hh
  have hna : ∀ a, aN k j 2 0 = a → f_M_action (tV (tV (tV (tV (tV (tV rt 23 (st.1 4)) 24 0) 16 b) 4 ((rt.1 4 + 1) &&& 65535)) 21 T) 12 (rt.1 12 + 1)) = (a, tV (tV (tV (tV (tV (tV rt 23 (st.1 4)) 24 0) 16 b) 4 ((rt.1 4 + 1) &&& 65535)) 21 T) 12 (rt.1 12 + 1)) := by
    intro a ha
    rw [← ha]
    exact nx_A (u := tV (tV (tV (tV (tV rt 23 (st.1 4)) 24 0) 16 b) 4 ((rt.1 4 + 1) &&& 65535)) 21 T) (d := 2) (h := 0) h11 h13 hk hj h14 h15 h12' (by decide) (by decide) h22 (by decide)
  rcases ej with rfl | rfl | rfl | rfl
  · have ho : opd (tV (tV (tV (tV (tV (tV rt 23 (st.1 4)) 24 0) 16 b) 4 ((rt.1 4 + 1) &&& 65535)) 21 T) 12 (rt.1 12 + 1)) = b := opd_1 (u := tV (tV (tV (tV (tV (tV rt 23 (st.1 4)) 24 0) 16 b) 4 ((rt.1 4 + 1) &&& 65535)) 21 T) 12 (rt.1 12 + 1)) h15
    rw [eC, if_pos (show st.1 8 = 1 from h8), acc_C]
    exact use_go hh (by decide) (Or.inl n99) (hna _ rfl) (nz9 k hk14 1 (by decide) (by decide) hv) ⟨hcn, hd1, Sit_acc (s0 := sV (sV st 9 (st.1 9 + 1)) 4 ((st.1 4 + 1) &&& 65535)) rfl h11 h13 hk hj h14 h15 h7 h8 h12' hkd hv (by decide) ho.symm (by have hw := isB_W hb; rw [← ho] at hw; exact hw) (Or.inl ⟨rfl, h22⟩)⟩ rfl rfl
  · rw [eC, if_neg (by rw [h8]; decide), if_pos (show st.1 8 = 2 from h8)]
    exact use_go hh (by decide) (Or.inl n99) (hna 6 (aN3 k hk14 2 (by decide) (by decide))) (by decide) ⟨hcn, hd1, Sit_A h11 h13 hk hj h14 h15 h7 h8 h12' hkd hv (Or.inr (Or.inr (Or.inl ⟨rfl, Or.inl rfl, rfl, h22, rfl, hb⟩)))⟩ rfl rfl
  · rw [eC, if_neg (by rw [h8]; decide), if_neg (by rw [h8]; decide), if_pos (show st.1 8 = 5 from h8)]
    exact use_go hh (by decide) (Or.inl n99) (hna 6 (aN3 k hk14 5 (by decide) (by decide))) (by decide) ⟨hcn, hd1, Sit_A h11 h13 hk hj h14 h15 h7 h8 h12' hkd hv (Or.inr (Or.inr (Or.inl ⟨rfl, Or.inr rfl, rfl, h22, rfl, hb⟩)))⟩ rfl rfl
  · rw [eC, if_neg (by rw [h8]; decide), if_neg (by rw [h8]; decide), if_neg (by rw [h8]; decide)]
    exact use_go hh (by decide) (Or.inl n99) (hna 9 (aN4 k hk14).2) (by decide) ⟨hcn, hd1, Sit_A h11 h13 hk hj h14 h15 h7 h8 h12' hkd hv (Or.inr (Or.inr (Or.inr (Or.inl ⟨rfl, h22, hb, Or.inr ⟨rfl, rfl, rfl⟩⟩))))⟩ rfl rfl
set_option maxHeartbeats 4000000 in
theorem A_3 {st : CS} {rt : MS} {k j d : Nat} (hR : RR st rt) (h11 : rt.1 11 = 0) (h13 : rt.1 13 = 0) (hk : k ≤ 13) (hj : j ≤ 6) (h14 : rt.1 14 = nI k) (h15 : rt.1 15 = nI j) (h7 : st.1 7 = nI k) (h8 : st.1 8 = nI j) (h12 : rt.1 12 = nI d) (hkd : st.2.2.1 = kdN k j) (hv : (kdN k j).val ≤ 2) (hst : st.2.1 = 3) (ej : j = 2 ∨ j = 5) (ed : d = 2) (h22 : rt.1 22 = 0) (ha : st.1 11 = rt.1 16) (hz : isB (rt.1 16)) : Sim st rt := by
  have hc := hR.1
  have hd := hR.2.1
  obtain ⟨⟨e0, e1, e2, e3, e4, e5⟩, ⟨g0, g1, g2, g3, g4, g5⟩, d1, d2, d3, d4, d5, d6⟩ := id hc
  have hk14 : k < 14 := by omega
  have hj7 : j < 7 := by omega
  have n99 : ¬ rt.1 14 = 99 := by rw [h14]; exact (kj_dec.1 k hk14).2
  have hd1 : st.1 9 + 1 = rt.1 12 + 1 := by rw [hd]
  subst ed
  have hact : f_M_action rt = (6, rt) := by
    rw [cur_A (d := 2) (h := 0) h11 h13 hk hj h14 h15 h12 (by decide) (by decide) h22 (by decide), aN3 k hk14 j hj7 ej]
  refine sim_read hR (ad := st.1 11) (act := 6) (ad_3 hst) (by rw [hst]; rfl) hact (by rw [pl_6, ha, w_and (isB_W hz)]) (fun b seen hb hbe => ?_)
  have h12' : rt.1 12 + 1 = nI 3 := by rw [h12]; decide
  have hh := hp_6 (tV (tV rt 23 (st.1 11)) 24 0) b
  have eC : f_C_afterRead (sV st 9 (st.1 9 + 1)) b = (if st.1 8 = 2 then f_C_accessOperandAt (sV st 9 (st.1 9 + 1)) ((st.1 11 + st.1 1) &&& 255) else sS (sV (sV st 9 (st.1 9 + 1)) 11 ((st.1 11 + st.1 1) &&& 255)) 4) := rd_3 (u := (sV st 9 (st.1 9 + 1))) hst
  have hna : ∀ a, aN k j 3 0 = a → f_M_action (tV (tV (tV (tV rt 23 (st.1 11)) 24 0) 3 (rt.1 3)) 12 (rt.1 12 + 1)) = (a, tV (tV (tV (tV rt 23 (st.1 11)) 24 0) 3 (rt.1 3)) 12 (rt.1 12 + 1)) := by
    intro a ha
    rw [← ha]
    exact nx_A (u := tV (tV (tV rt 23 (st.1 11)) 24 0) 3 (rt.1 3)) (d := 3) (h := 0) h11 h13 hk hj h14 h15 h12' (by decide) (by decide) h22 (by decide)
  rcases ej with rfl | rfl
  · rw [eC, if_pos (show st.1 8 = 2 from h8), acc_C]
    exact use_go hh (by decide) (Or.inl n99) (hna _ rfl) (nz9 k hk14 2 (by decide) (by decide) hv) ⟨hc, hd1, Sit_acc (s0 := (sV st 9 (st.1 9 + 1))) rfl h11 h13 hk hj h14 h15 h7 h8 h12' hkd hv (by decide) (by rw [opd_2 (by exact h15), ha, e1]; rfl) (by rw [opd_2 (by exact h15)]; exact isB_W (isB_and _)) (Or.inl ⟨rfl, h22⟩)⟩ rfl rfl
  · rw [eC, if_neg (by rw [h8]; decide)]
    exact use_go hh (by decide) (Or.inl n99) (hna 9 (aN4 k hk14).1) (by decide) ⟨hc, hd1, Sit_A h11 h13 hk hj h14 h15 h7 h8 h12' hkd hv (Or.inr (Or.inr (Or.inr (Or.inl ⟨rfl, h22, hz, Or.inl ⟨rfl, rfl, by show (st.1 11 + st.1 1) &&& 255 = (rt.1 16 + rt.1 1) &&& 255; rw [ha, e1]⟩⟩))))⟩ rfl rfl
set_option maxHeartbeats 4000000 in
theorem A_4 {st : CS} {rt : MS} {k j d : Nat} (hR : RR st rt) (h11 : rt.1 11 = 0) (h13 : rt.1 13 = 0) (hk : k ≤ 13) (hj : j ≤ 6) (h14 : rt.1 14 = nI k) (h15 : rt.1 15 = nI j) (h7 : st.1 7 = nI k) (h8 : st.1 8 = nI j) (h12 : rt.1 12 = nI d) (hkd : st.2.2.1 = kdN k j) (hv : (kdN k j).val ≤ 2) (hst : st.2.1 = 4) (h22 : rt.1 22 = 0) (hz : isB (rt.1 16)) (hq : (j = 5 ∧ d = 3 ∧ st.1 11 = (rt.1 16 + rt.1 1) &&& 255) ∨ (j = 6 ∧ d = 2 ∧ st.1 11 = rt.1 16)) : Sim st rt := by
  have hc := hR.1
  have hd := hR.2.1
  obtain ⟨⟨e0, e1, e2, e3, e4, e5⟩, ⟨g0, g1, g2, g3, g4, g5⟩, d1, d2, d3, d4, d5, d6⟩ := id hc
  have hk14 : k < 14 := by omega
  have hj7 : j < 7 := by omega
  have n99 : ¬ rt.1 14 = 99 := by rw [h14]; exact (kj_dec.1 k hk14).2
  have hd1 : st.1 9 + 1 = rt.1 12 + 1 := by rw [hd]
  rcases hq with hq | hq
  · obtain ⟨rfl, rfl, ha⟩ := hq
    have hact : f_M_action rt = (9, rt) := by rw [cur_A (d := 3) (h := 0) h11 h13 hk hj h14 h15 h12 (by decide) (by decide) h22 (by decide), (aN4 k hk14).1]
    refine sim_read hR (ad := st.1 11) (act := 9) (ad_4 hst) (by rw [hst]; rfl) hact (by rw [pl_9, if_pos (show rt.1 15 = 5 from h15), ha, w_and (isB_W (isB_and _))]) (fun b seen hb hbe => ?_)
    have h12' : rt.1 12 + 1 = nI 4 := by rw [h12]; decide
    rw [rd_4 (u := (sV st 9 (st.1 9 + 1))) hst]
    exact use_go (a := 10) (hp_9 _ b) (by decide) (Or.inl n99) (by rw [← (aN5 k hk14).1]; exact nx_A (u := tV (tV (tV rt 23 (st.1 11)) 24 0) 18 b) (d := 4) (h := 0) h11 h13 hk hj h14 h15 h12' (by decide) (by decide) h22 (by decide)) (by decide) ⟨hc, hd1, Sit_A h11 h13 hk hj h14 h15 h7 h8 h12' hkd hv (Or.inr (Or.inr (Or.inr (Or.inr (Or.inl ⟨rfl, h22, hz, hb, rfl, Or.inl ⟨rfl, rfl, by show (st.1 11 + 1) &&& 255 = ((rt.1 16 + rt.1 1) + 1) &&& 255; rw [ha, add255 hz (e1 ▸ g1)]⟩⟩)))))⟩ rfl rfl
  · obtain ⟨rfl, rfl, ha⟩ := hq
    have hact : f_M_action rt = (9, rt) := by rw [cur_A (d := 2) (h := 0) h11 h13 hk hj h14 h15 h12 (by decide) (by decide) h22 (by decide), (aN4 k hk14).2]
    refine sim_read hR (ad := st.1 11) (act := 9) (ad_4 hst) (by rw [hst]; rfl) hact (by rw [pl_9, if_neg (by rw [h15]; decide), ha, w_and (isB_W hz)]) (fun b seen hb hbe => ?_)
    have h12' : rt.1 12 + 1 = nI 3 := by rw [h12]; decide
    rw [rd_4 (u := (sV st 9 (st.1 9 + 1))) hst]
    exact use_go (a := 10) (hp_9 _ b) (by decide) (Or.inl n99) (by rw [← (aN5 k hk14).2]; exact nx_A (u := tV (tV (tV rt 23 (st.1 11)) 24 0) 18 b) (d := 3) (h := 0) h11 h13 hk hj h14 h15 h12' (by decide) (by decide) h22 (by decide)) (by decide) ⟨hc, hd1, Sit_A h11 h13 hk hj h14 h15 h7 h8 h12' hkd hv (Or.inr (Or.inr (Or.inr (Or.inr (Or.inl ⟨rfl, h22, hz, hb, rfl, Or.inr ⟨rfl, rfl, by show (st.1 11 + 1) &&& 255 = (rt.1 16 + 1) &&& 255; rw [ha]⟩⟩)))))⟩ rfl rfl
/-- behind the page of an indexed address -/
theorem idx_go {st su : CS} {rt ur u0 : MS} {k j d : Nat} {act b seen y : Int32} (hcs : Rc su (tV ur 22 (hvV ur))) (hk : k ≤ 13) (hj : j = 4 ∨ j = 6) (h11 : ur.1 11 = 0) (h13 : ur.1 13 = 0) (h14 : ur.1 14 = nI k) (h15 : ur.1 15 = nI j) (h7 : su.1 7 = nI k) (h8 : su.1 8 = nI j) (hkd : su.2.2.1 = kdN k j) (hv : (kdN k j).val ≤ 2) (h12 : ur.1 12 + 1 = nI d) (ed : d = njN j + 1) (h9 : su.1 9 = ur.1 12 + 1) (hb : isB b) (h17 : ur.1 17 = b) (hop : opd ur = ((su.1 13 + 256 * b) + y) &&& 65535)
    (hH : f_M_happen u0 act b = tV ur 22 (hvV ur)) (hact : ¬ act = 32) (eC : f_C_afterRead (sV st 9 (st.1 9 + 1)) b = f_C_accessIndexed su b y) (h10 : su.1 10 = st.1 10) (h26 : ur.1 26 = rt.1 26) :
    ∃ rt' : MS, f_M_clock_101 u0 act b seen = (seen, rt') ∧ RR (f_C_afterRead (sV st 9 (st.1 9 + 1)) b) rt' ∧ (f_C_afterRead (sV st 9 (st.1 9 + 1)) b).1 10 - st.1 10 = rt'.1 26 - rt.1 26 := by
  have hk14 : k < 14 := by omega
  have hj7 : j < 7 := by omega
  have hj6 : j ≤ 6 := by omega
  have hj1 : 1 ≤ j := by omega
  have n99 : ¬ ur.1 14 = 99 := by rw [h14]; exact (kj_dec.1 k hk14).2
  have hW : isW (opd ur) := by rw [hop]; exact isW_and _
  obtain ⟨t1, t2, t3⟩ := half_dec hW hb
  rw [C_idx, ← hop] at eC
  have hd12 : 0 < d ∧ d < 11 := by rcases hj with rfl | rfl <;> subst ed <;> decide
  have toHalf : hvV ur = 1 → f_C_afterRead (sV st 9 (st.1 9 + 1)) b = sS (sV (sV su 12 (opd ur)) 11 (256 * b + (opd ur &&& 255))) 8 → ∃ rt' : MS, f_M_clock_101 u0 act b seen = (seen, rt') ∧ RR (f_C_afterRead (sV st 9 (st.1 9 + 1)) b) rt' ∧ (f_C_afterRead (sV st 9 (st.1 9 + 1)) b).1 10 - st.1 10 = rt'.1 26 - rt.1 26 := by
    intro hvv eq
    rw [eq]
    rw [hvv] at hH hcs
    have ha : aN k j d 1 = 8 := by
      subst ed
      rcases hj with rfl | rfl
      · exact (aN8 k hk14).1
      · exact (aN8 k hk14).2
    refine use_go (a := 8) hH hact (Or.inl n99) (by rw [← ha]; exact nx_A (u := tV ur 22 1) (d := d) (h := 1) h11 h13 hk hj6 h14 h15 h12 hd12.1 (by omega) rfl (by decide)) (by decide) ⟨hcs, h9, Sit_A h11 h13 hk hj6 h14 h15 h7 h8 h12 hkd hv (Or.inr (Or.inr (Or.inr (Or.inr (Or.inr (Or.inr (Or.inr (Or.inl ⟨rfl, ?_, rfl, rfl, hW, ?_, ?_⟩))))))))⟩ h10 h26
    · subst ed
      rcases hj with rfl | rfl
      · exact Or.inl ⟨rfl, rfl⟩
      · exact Or.inr ⟨rfl, rfl⟩
    · show 256 * b + (opd ur &&& 255) = (opd ur &&& 255) ||| (ur.1 17 <<< ((8 : Int32) &&& 31))
      rw [h17, t1]
    · show isW ((opd ur &&& 255) ||| (ur.1 17 <<< ((8 : Int32) &&& 31)))
      rw [h17, t1]
      exact t2
  by_cases hk0 : kdN k j = 0
  · obtain ⟨k10, k1⟩ := kd_0 k hk14 j hj7 hk0
    have hvv : hvV ur = if opd ur >>> ((8 : Int32) &&& 31) = b then 0 else 1 := by
      unfold hvV
      rw [h14, if_neg ((hl_dec.1 k k10).2 k1), if_pos (hl_dec.1 k k10).1, h17]
    rw [if_pos (hkd.trans hk0)] at eC
    by_cases q : opd ur >>> ((8 : Int32) &&& 31) = b
    · rw [if_pos q] at hvv
      rw [if_pos (t3.mpr q), acc_C] at eC
      rw [eC]
      rw [hvv] at hH hcs
      subst ed
      exact use_go hH hact (Or.inl n99) (nx_A (u := tV ur 22 0) (d := njN j + 1) (h := 0) h11 h13 hk hj6 h14 h15 h12 hd12.1 (by omega) rfl (by decide)) (nz9 k hk14 j hj7 hj1 hv) ⟨hcs, h9, Sit_acc (s0 := su) rfl h11 h13 hk hj6 h14 h15 h7 h8 h12 hkd hv hj1 rfl hW (Or.inl ⟨rfl, rfl⟩)⟩ h10 h26
    · rw [if_neg q] at hvv
      rw [if_neg (fun z => q (t3.mp z))] at eC
      exact toHalf hvv eC
  · rw [if_neg (fun z => hk0 (hkd ▸ z))] at eC
    refine toHalf ?_ eC
    have hq : kdN k j = 1 ∨ kdN k j = 2 := by
      have : ∀ q : Fin 16, q.val ≤ 2 → ¬ q = 0 → q = 1 ∨ q = 2 := by decide
      exact this _ hv hk0
    unfold hvV
    rw [h14]
    rcases hq with q | q
    · obtain ⟨rfl, -⟩ := kd_1 k hk14 j hj7 q
      rfl
    · obtain ⟨k10, -⟩ := kd_2 k hk14 j hj7 q
      obtain ⟨a1, a2, a3⟩ := hl_dec.2 k hk14 k10
      rw [if_neg a1, if_neg a2, if_neg a3]
set_option maxHeartbeats 4000000 in
theorem A_5 {st : CS} {rt : MS} {k j d : Nat} (hR : RR st rt) (h11 : rt.1 11 = 0) (h13 : rt.1 13 = 0) (hk : k ≤ 13) (hj : j ≤ 6) (h14 : rt.1 14 = nI k) (h15 : rt.1 15 = nI j) (h7 : st.1 7 = nI k) (h8 : st.1 8 = nI j) (h12 : rt.1 12 = nI d) (hkd : st.2.2.1 = kdN k j) (hv : (kdN k j).val ≤ 2) (hst : st.2.1 = 5) (h22 : rt.1 22 = 0) (hz : isB (rt.1 16)) (hlB : isB (rt.1 18)) (hl : st.1 13 = rt.1 18) (hq : (j = 5 ∧ d = 4 ∧ st.1 11 = ((rt.1 16 + rt.1 1) + 1) &&& 255) ∨ (j = 6 ∧ d = 3 ∧ st.1 11 = (rt.1 16 + 1) &&& 255)) : Sim st rt := by
  have hc := hR.1
  have hd := hR.2.1
  obtain ⟨⟨e0, e1, e2, e3, e4, e5⟩, ⟨g0, g1, g2, g3, g4, g5⟩, d1, d2, d3, d4, d5, d6⟩ := id hc
  have hk14 : k < 14 := by omega
  have hj7 : j < 7 := by omega
  have n99 : ¬ rt.1 14 = 99 := by rw [h14]; exact (kj_dec.1 k hk14).2
  have hd1 : st.1 9 + 1 = rt.1 12 + 1 := by rw [hd]
  rcases hq with ⟨rfl, rfl, ha⟩ | ⟨rfl, rfl, ha⟩
  · have hact : f_M_action rt = (10, rt) := by rw [cur_A (d := 4) (h := 0) h11 h13 hk hj h14 h15 h12 (by decide) (by decide) h22 (by decide), (aN5 k hk14).1]
    refine sim_read hR (ad := st.1 11) (act := 10) (ad_5 hst) (by rw [hst]; rfl) hact (by rw [pl_10, if_pos (show rt.1 15 = 5 from h15), ha, w_and (isB_W (isB_and _))]) (fun b seen hb hbe => ?_)
    have h12' : rt.1 12 + 1 = nI 5 := by rw [h12]; decide
    obtain ⟨w1, w2⟩ := word_dec hlB hb
    have eC : f_C_afterRead (sV st 9 (st.1 9 + 1)) b = sS (sV (sV st 9 (st.1 9 + 1)) 11 (st.1 13 + 256 * b)) (accN st.2.2.1) := by
      rw [rd_5 (u := (sV st 9 (st.1 9 + 1))) hst]
      have e : f_C_afterPointerPage (sV st 9 (st.1 9 + 1)) b = (if st.1 8 = 5 then f_C_accessOperandAt (sV st 9 (st.1 9 + 1)) (st.1 13 + 256 * b) else f_C_accessIndexed (sV st 9 (st.1 9 + 1)) b (st.1 2)) := rfl
      rw [e, if_pos (show st.1 8 = 5 from h8), acc_C]
      rfl
    rw [eC]
    have hh : f_M_happen (tV (tV rt 23 (st.1 11)) 24 0) 10 b = tV (tV (tV (tV rt 23 (st.1 11)) 24 0) 17 b) 22 0 := by
      rw [hp_10, M_hf0 (rt := tV (tV (tV rt 23 (st.1 11)) 24 0) 17 b) (show ¬ rt.1 15 = 4 by rw [h15]; decide) (show ¬ rt.1 15 = 6 by rw [h15]; decide)]
    have ho : opd (tV (tV (tV (tV (tV rt 23 (st.1 11)) 24 0) 17 b) 22 0) 12 (rt.1 12 + 1)) = rt.1 18 + 256 * b := (opd_5 (by exact h15)).trans w1
    exact use_go hh (by decide) (Or.inl n99) (nx_A (u := tV (tV (tV (tV rt 23 (st.1 11)) 24 0) 17 b) 22 0) (d := 5) (h := 0) h11 h13 hk hj h14 h15 h12' (by decide) (by decide) rfl (by decide)) (nz9 k hk14 5 (by decide) (by decide) hv) ⟨hc, hd1, Sit_acc (s0 := (sV st 9 (st.1 9 + 1))) rfl h11 h13 hk hj h14 h15 h7 h8 h12' hkd hv (by decide) (by rw [hl]; exact ho.symm) (by exact ho ▸ w2) (Or.inl ⟨rfl, rfl⟩)⟩ rfl rfl
  · have hact : f_M_action rt = (10, rt) := by rw [cur_A (d := 3) (h := 0) h11 h13 hk hj h14 h15 h12 (by decide) (by decide) h22 (by decide), (aN5 k hk14).2]
    refine sim_read hR (ad := st.1 11) (act := 10) (ad_5 hst) (by rw [hst]; rfl) hact (by rw [pl_10, if_neg (by rw [h15]; decide), ha, w_and (isB_W (isB_and _))]) (fun b seen hb hbe => ?_)
    obtain ⟨w1, w2⟩ := word_dec hlB hb
    have eC : f_C_afterRead (sV st 9 (st.1 9 + 1)) b = f_C_accessIndexed (sV st 9 (st.1 9 + 1)) b (st.1 2) := by
      rw [rd_5 (u := (sV st 9 (st.1 9 + 1))) hst]
      have e : f_C_afterPointerPage (sV st 9 (st.1 9 + 1)) b = (if st.1 8 = 5 then f_C_accessOperandAt (sV st 9 (st.1 9 + 1)) (st.1 13 + 256 * b) else f_C_accessIndexed (sV st 9 (st.1 9 + 1)) b (st.1 2)) := rfl
      rw [e, if_neg (by rw [h8]; decide)]
    have ho : opd (tV (tV (tV rt 23 (st.1 11)) 24 0) 17 b) = ((st.1 13 + 256 * b) + st.1 2) &&& 65535 := by
      refine (opd_6 (by exact h15)).trans ?_
      show ((rt.1 18 ||| (b <<< ((8 : Int32) &&& 31))) + rt.1 2) &&& 65535 = _
      rw [w1, hl, e2]
    exact idx_go (su := (sV st 9 (st.1 9 + 1))) (ur := tV (tV (tV rt 23 (st.1 11)) 24 0) 17 b) (k := k) (j := 6) (d := 4) hc hk (Or.inr rfl) h11 h13 h14 h15 h7 h8 hkd hv (show rt.1 12 + 1 = nI 4 by rw [h12]; decide) rfl hd1 hb rfl ho (by rw [hp_10, M_hf46 (rt := tV (tV (tV rt 23 (st.1 11)) 24 0) 17 b) (Or.inr h15)]) (by decide) eC rfl rfl
set_option maxHeartbeats 4000000 in
theorem A_6 {st : CS} {rt : MS} {k j d : Nat} (hR : RR st rt) (h11 : rt.1 11 = 0) (h13 : rt.1 13 = 0) (hk : k ≤ 13) (hj : j ≤ 6) (h14 : rt.1 14 = nI k) (h15 : rt.1 15 = nI j) (h7 : st.1 7 = nI k) (h8 : st.1 8 = nI j) (h12 : rt.1 12 = nI d) (hkd : st.2.2.1 = kdN k j) (hv : (kdN k j).val ≤ 2) (hst : st.2.1 = 6) (ej : j = 3 ∨ j = 4) (ed : d = 1) (h22 : rt.1 22 = 0) : Sim st rt := by
  have hc := hR.1
  have hd := hR.2.1
  obtain ⟨⟨e0, e1, e2, e3, e4, e5⟩, ⟨g0, g1, g2, g3, g4, g5⟩, d1, d2, d3, d4, d5, d6⟩ := id hc
  have hk14 : k < 14 := by omega
  have hj7 : j < 7 := by omega
  have n99 : ¬ rt.1 14 = 99 := by rw [h14]; exact (kj_dec.1 k hk14).2
  have hd1 : st.1 9 + 1 = rt.1 12 + 1 := by rw [hd]
  subst ed
  have hact : f_M_action rt = (2, rt) := by
    rw [cur_A (d := 1) (h := 0) h11 h13 hk hj h14 h15 h12 (by decide) (by decide) h22 (by decide)]
    rcases ej with rfl | rfl
    · rw [(aN6 k hk14).1]
    · rw [(aN6 k hk14).2.1]
  refine sim_read hR (ad := st.1 4) (act := 2) (ad_6 hst) (by rw [hst]; rfl) hact (by rw [pl_2, ← e4, w_and g4]) (fun b seen hb hbe => ?_)
  have hcn : Rc (sV st 4 ((st.1 4 + 1) &&& 65535)) (tV rt 4 ((rt.1 4 + 1) &&& 65535)) := Rc_next hc
  have h12' : rt.1 12 + 1 = nI 2 := by rw [h12]; decide
  have hh := hp_2 (tV (tV rt 23 (st.1 4)) 24 0) b
  have eC : f_C_afterRead (sV st 9 (st.1 9 + 1)) b = sS (sV (sV (sV st 9 (st.1 9 + 1)) 4 ((st.1 4 + 1) &&& 65535)) 13 b) 7 := by
    rw [rd_6 (u := (sV st 9 (st.1 9 + 1))) hst]
    have e : f_C_afterFarLow (sV st 9 (st.1 9 + 1)) b = (if st.2.2.1 = 5 then sS (sV (sV (sV st 9 (st.1 9 + 1)) 4 ((st.1 4 + 1) &&& 65535)) 13 b) 19 else sS (sV (sV (sV st 9 (st.1 9 + 1)) 4 ((st.1 4 + 1) &&& 65535)) 13 b) 7) := rfl
    rw [e, if_neg (fun q => by rw [hkd] at q; rw [q] at hv; exact absurd hv (by decide))]
  rw [eC]
  generalize (f_M_isTaken (f_M_next (tV (tV (tV rt 23 (st.1 4)) 24 0) 16 b))).1 = T at hh
  have hh : f_M_happen (tV (tV rt 23 (st.1 4)) 24 0) 2 b = tV (tV (tV (tV (tV rt 23 (st.1 4)) 24 0) 16 b) 4 ((rt.1 4 + 1) &&& 65535)) 21 T := hh
  have ha : aN k j 2 0 = 3 := by
    rcases ej with rfl | rfl
    · exact (aN6 k hk14).2.2.1
    · exact (aN6 k hk14).2.2.2
  exact use_go (a := 3) hh (by decide) (Or.inl n99) (by rw [← ha]; exact nx_A (u := tV (tV (tV (tV (tV rt 23 (st.1 4)) 24 0) 16 b) 4 ((rt.1 4 + 1) &&& 65535)) 21 T) (d := 2) (h := 0) h11 h13 hk hj h14 h15 h12' (by decide) (by decide) h22 (by decide)) (by decide) ⟨hcn, hd1, Sit_A h11 h13 hk hj h14 h15 h7 h8 h12' hkd hv (Or.inr (Or.inr (Or.inr (Or.inr (Or.inr (Or.inr (Or.inl ⟨rfl, ej, rfl, h22, rfl, hb⟩)))))))⟩ rfl rfl
set_option maxHeartbeats 4000000 in
theorem A_7 {st : CS} {rt : MS} {k j d : Nat} (hR : RR st rt) (h11 : rt.1 11 = 0) (h13 : rt.1 13 = 0) (hk : k ≤ 13) (hj : j ≤ 6) (h14 : rt.1 14 = nI k) (h15 : rt.1 15 = nI j) (h7 : st.1 7 = nI k) (h8 : st.1 8 = nI j) (h12 : rt.1 12 = nI d) (hkd : st.2.2.1 = kdN k j) (hv : (kdN k j).val ≤ 2) (hst : st.2.1 = 7) (ej : j = 3 ∨ j = 4) (ed : d = 2) (h22 : rt.1 22 = 0) (hz : Hz st rt) : Sim st rt := by
  have hc := hR.1
  have hd := hR.2.1
  obtain ⟨⟨e0, e1, e2, e3, e4, e5⟩, ⟨g0, g1, g2, g3, g4, g5⟩, d1, d2, d3, d4, d5, d6⟩ := id hc
  have hk14 : k < 14 := by omega
  have hj7 : j < 7 := by omega
  have n99 : ¬ rt.1 14 = 99 := by rw [h14]; exact (kj_dec.1 k hk14).2
  have hd1 : st.1 9 + 1 = rt.1 12 + 1 := by rw [hd]
  subst ed
  have hact : f_M_action rt = (3, rt) := by
    rw [cur_A (d := 2) (h := 0) h11 h13 hk hj h14 h15 h12 (by decide) (by decide) h22 (by decide)]
    rcases ej with rfl | rfl
    · rw [(aN6 k hk14).2.2.1]
    · rw [(aN6 k hk14).2.2.2]
  refine sim_read hR (ad := st.1 4) (act := 3) (ad_7 hst) (by rw [hst]; rfl) hact (by rw [pl_3, ← e4, w_and g4]) (fun b seen hb hbe => ?_)
  have hcn : Rc (sV st 4 ((st.1 4 + 1) &&& 65535)) (tV rt 4 ((rt.1 4 + 1) &&& 65535)) := Rc_next hc
  have h12' : rt.1 12 + 1 = nI 3 := by rw [h12]; decide
  obtain ⟨w1, w2⟩ := word_dec hz.2 hb
  have n4 : ¬ st.2.2.1 = 4 := fun q => by rw [hkd] at q; rw [q] at hv; exact absurd hv (by decide)
  have n5 : ¬ st.2.2.1 = 5 := fun q => by rw [hkd] at q; rw [q] at hv; exact absurd hv (by decide)
  have eC : f_C_afterRead (sV st 9 (st.1 9 + 1)) b = (if st.1 8 = 3 then f_C_accessOperandAt (sV (sV st 9 (st.1 9 + 1)) 4 ((st.1 4 + 1) &&& 65535)) (st.1 13 + 256 * b) else f_C_accessIndexed (sV (sV st 9 (st.1 9 + 1)) 4 ((st.1 4 + 1) &&& 65535)) b (st.1 1)) := by
    rw [rd_7 (u := (sV st 9 (st.1 9 + 1))) hst]
    have e : f_C_afterFarPage (sV st 9 (st.1 9 + 1)) b = (if st.2.2.1 = 4 then f_C_afterFarPage_20 (sV st 9 (st.1 9 + 1)) b else if st.2.2.1 = 5 then f_C_afterFarPage_20 (sV st 9 (st.1 9 + 1)) b else (if st.1 8 = 3 then f_C_accessOperandAt (sV (sV st 9 (st.1 9 + 1)) 4 ((st.1 4 + 1) &&& 65535)) (st.1 13 + 256 * b) else f_C_accessIndexed (sV (sV st 9 (st.1 9 + 1)) 4 ((st.1 4 + 1) &&& 65535)) b (st.1 1))) := rfl
    rw [e, if_neg n4, if_neg n5]
  rcases ej with rfl | rfl
  · rw [eC, if_pos (show st.1 8 = 3 from h8), acc_C]
    have hh : f_M_happen (tV (tV rt 23 (st.1 4)) 24 0) 3 b = tV (tV (tV (tV (tV rt 23 (st.1 4)) 24 0) 17 b) 4 ((rt.1 4 + 1) &&& 65535)) 22 0 := by
      rw [hp_3, M_hf0 (rt := f_M_next (tV (tV (tV rt 23 (st.1 4)) 24 0) 17 b)) (show ¬ rt.1 15 = 4 by rw [h15]; decide) (show ¬ rt.1 15 = 6 by rw [h15]; decide)]
      rfl
    have ho : opd (tV (tV (tV (tV (tV (tV rt 23 (st.1 4)) 24 0) 17 b) 4 ((rt.1 4 + 1) &&& 65535)) 22 0) 12 (rt.1 12 + 1)) = rt.1 16 + 256 * b := (opd_3 (by exact h15)).trans w1
    exact use_go hh (by decide) (Or.inl n99) (nx_A (u := tV (tV (tV (tV (tV rt 23 (st.1 4)) 24 0) 17 b) 4 ((rt.1 4 + 1) &&& 65535)) 22 0) (d := 3) (h := 0) h11 h13 hk hj h14 h15 h12' (by decide) (by decide) rfl (by decide)) (nz9 k hk14 3 (by decide) (by decide) hv) ⟨hcn, hd1, Sit_acc (s0 := sV (sV st 9 (st.1 9 + 1)) 4 ((st.1 4 + 1) &&& 65535)) rfl h11 h13 hk hj h14 h15 h7 h8 h12' hkd hv (by decide) (by rw [hz.1]; exact ho.symm) (by exact ho ▸ w2) (Or.inl ⟨rfl, rfl⟩)⟩ rfl rfl
  · rw [if_neg (by rw [h8]; decide)] at eC
    have ho : opd (tV (tV (tV (tV rt 23 (st.1 4)) 24 0) 17 b) 4 ((rt.1 4 + 1) &&& 65535)) = ((st.1 13 + 256 * b) + st.1 1) &&& 65535 := by
      refine (opd_4 (by exact h15)).trans ?_
      show ((rt.1 16 ||| (b <<< ((8 : Int32) &&& 31))) + rt.1 1) &&& 65535 = _
      rw [w1, hz.1, e1]
    exact idx_go (su := sV (sV st 9 (st.1 9 + 1)) 4 ((st.1 4 + 1) &&& 65535)) (ur := tV (tV (tV (tV rt 23 (st.1 4)) 24 0) 17 b) 4 ((rt.1 4 + 1) &&& 65535)) (k := k) (j := 4) (d := 3) hcn hk (Or.inl rfl) h11 h13 h14 h15 h7 h8 hkd hv h12' rfl hd1 hb rfl ho (by rw [hp_3]; rw [M_hf46 (rt := f_M_next (tV (tV (tV rt 23 (st.1 4)) 24 0) 17 b)) (Or.inl h15)]; rfl) (by decide) eC rfl rfl
set_option maxHeartbeats 4000000 in
theorem A_8 {st : CS} {rt : MS} {k j d : Nat} (hR : RR st rt) (h11 : rt.1 11 = 0) (h13 : rt.1 13 = 0) (hk : k ≤ 13) (hj : j ≤ 6) (h14 : rt.1 14 = nI k) (h15 : rt.1 15 = nI j) (h7 : st.1 7 = nI k) (h8 : st.1 8 = nI j) (h12 : rt.1 12 = nI d) (hkd : st.2.2.1 = kdN k j) (hv : (kdN k j).val ≤ 2) (hst : st.2.1 = 8) (hq : (j = 4 ∧ d = 3) ∨ (j = 6 ∧ d = 4)) (h22 : rt.1 22 = 1) (ht : st.1 12 = opd rt) (hW : isW (opd rt)) (ha : st.1 11 = hlf rt) (hW2 : isW (hlf rt)) : Sim st rt := by
  have hc := hR.1
  have hd := hR.2.1
  obtain ⟨⟨e0, e1, e2, e3, e4, e5⟩, ⟨g0, g1, g2, g3, g4, g5⟩, d1, d2, d3, d4, d5, d6⟩ := id hc
  have hk14 : k < 14 := by omega
  have hj7 : j < 7 := by omega
  have n99 : ¬ rt.1 14 = 99 := by rw [h14]; exact (kj_dec.1 k hk14).2
  have hd1 : st.1 9 + 1 = rt.1 12 + 1 := by rw [hd]
  have hact : f_M_action rt = (8, rt) := by
    rw [cur_A (d := d) (h := 1) h11 h13 hk hj h14 h15 h12 (by omega) (by omega) h22 (by decide)]
    rcases hq with ⟨rfl, rfl⟩ | ⟨rfl, rfl⟩
    · rw [(aN8 k hk14).1]
    · rw [(aN8 k hk14).2]
  have hjj : j = 4 ∨ j = 6 := by omega
  have ed : d = njN j + 1 := by rcases hq with ⟨rfl, rfl⟩ | ⟨rfl, rfl⟩ <;> rfl
  have h12' : rt.1 12 + 1 = nI (njN j + 2) := by rw [h12, ed, nI_1]
  refine sim_read hR (ad := st.1 11) (act := 8) (ad_8 hst) (by rw [hst]; rfl) hact (by rw [pl_8, ha, w_and hW2]) (fun b seen hb hbe => ?_)
  rw [rd_8 (u := (sV st 9 (st.1 9 + 1))) hst, acc_C]
  exact use_go (hp_8 _ b) (by decide) (Or.inl n99) (nx_A (u := tV (tV (tV rt 23 (st.1 11)) 24 0) 3 (rt.1 3)) (d := njN j + 2) (h := 1) h11 h13 hk hj h14 h15 h12' (by omega) (by rcases hjj with rfl | rfl <;> decide) h22 (by decide)) (nz9h k hk14 j hj7 hjj hv) ⟨hc, hd1, Sit_acc (s0 := (sV st 9 (st.1 9 + 1))) rfl h11 h13 hk hj h14 h15 h7 h8 h12' hkd hv (by omega) ht hW (Or.inr ⟨rfl, h22, hjj⟩)⟩ rfl rfl
theorem njle : ∀ j, j < 7 → njN j ≤ 4 := by decide
theorem nj0 : ∀ j, j < 7 → 1 ≤ j → ¬ nI j = 0 := by decide +kernel
theorem opd_18 {u : MS} {j : Nat} {x : Int32} (h : u.1 15 = nI j) (h1 : 1 ≤ j) (h4 : j ≤ 4) : opd (tV u 18 x) = opd u := by
  have : j = 1 ∨ j = 2 ∨ j = 3 ∨ j = 4 := by omega
  rcases this with rfl | rfl | rfl | rfl
  · rw [opd_1 h, opd_1 (u := tV u 18 x) h]; rfl
  · rw [opd_2 h, opd_2 (u := tV u 18 x) h]; rfl
  · rw [opd_3 h, opd_3 (u := tV u 18 x) h]; rfl
  · rw [opd_4 h, opd_4 (u := tV u 18 x) h]; rfl
set_option maxHeartbeats 4000000 in
theorem A_9 {st : CS} {rt : MS} {k j d : Nat} (hR : RR st rt) (h11 : rt.1 11 = 0) (h13 : rt.1 13 = 0) (hk : k ≤ 13) (hj : j ≤ 6) (h14 : rt.1 14 = nI k) (h15 : rt.1 15 = nI j) (h7 : st.1 7 = nI k) (h8 : st.1 8 = nI j) (h12 : rt.1 12 = nI d) (hkd : st.2.2.1 = kdN k j) (hv : (kdN k j).val ≤ 2) (hst : st.2.1 = 9) (hq : kdN k j = 0) (hj1 : 1 ≤ j) (ha : st.1 11 = opd rt) (hW : isW (opd rt)) (hdd : (d = njN j + 1 ∧ rt.1 22 = 0) ∨ (d = njN j + 2 ∧ rt.1 22 = 1 ∧ (j = 4 ∨ j = 6))) : Sim st rt := by
  have hc := hR.1
  have hd := hR.2.1
  obtain ⟨⟨e0, e1, e2, e3, e4, e5⟩, ⟨g0, g1, g2, g3, g4, g5⟩, d1, d2, d3, d4, d5, d6⟩ := id hc
  have hk14 : k < 14 := by omega
  have hj7 : j < 7 := by omega
  have n99 : ¬ rt.1 14 = 99 := by rw [h14]; exact (kj_dec.1 k hk14).2
  have hd1 : st.1 9 + 1 = rt.1 12 + 1 := by rw [hd]
  obtain ⟨k10, k1⟩ := kd_0 k hk14 j hj7 hq
  have nj := njle j hj7
  obtain ⟨hh, h22, hh2, a1, a2⟩ : ∃ hh, rt.1 22 = nI hh ∧ hh < 2 ∧ aN k j d hh = 11 ∧ aN k j (d + 1) hh = 0 := by
    rcases hdd with ⟨rfl, h22⟩ | ⟨rfl, h22, j46⟩
    · exact ⟨0, h22, by decide, aN9a k hk14 j hj7 hj1 hq, aN9h k hk14 j hj7 hj1 hq⟩
    · exact ⟨1, h22, by decide, aN9d k hk14 j hj7 j46 hq, aN9j k hk14 j hj7 j46 hq⟩
  have hd8 : 0 < d ∧ d < 9 := by
    rcases hdd with ⟨rfl, -⟩ | ⟨rfl, -, -⟩ <;> omega
  have hact : f_M_action rt = (11, rt) := by rw [cur_A (d := d) (h := hh) h11 h13 hk hj h14 h15 h12 (by omega) (by omega) h22 hh2, a1]
  have h12' : rt.1 12 + 1 = nI (d + 1) := by rw [h12, nI_1]
  have n15 : ¬ rt.1 15 = 0 := by rw [h15]; exact nj0 j hj7 hj1
  refine sim_read hR (ad := st.1 11) (act := 11) (ad_9 hst) (by rw [hst]; rfl) hact (by rw [pl_11, ha, w_and hW]) (fun b seen hb hbe => ?_)
  have eC : f_C_afterRead (sV st 9 (st.1 9 + 1)) b = f_C_end (f_R_operate (sV st 9 (st.1 9 + 1)) (nI k) b) := by
    rw [rd_9 (u := (sV st 9 (st.1 9 + 1))) hst]
    show f_C_end (f_R_operate (sV st 9 (st.1 9 + 1)) (st.1 7) b) = _
    rw [h7]
  exact op_end (su := (sV st 9 (st.1 9 + 1))) (ur := tV (tV rt 23 (st.1 11)) 24 0) (j := j) (d := d + 1) (hh := hh) hc k10 k1 hj h11 h13 h14 h15 h12' (by omega) (by omega) h22 hh2 a2 hb (by rw [hp_11, if_neg (show ¬ (tV (tV rt 23 (st.1 11)) 24 0).1 15 = 0 from n15)]) eC rfl rfl
set_option maxHeartbeats 4000000 in
theorem A_10 {st : CS} {rt : MS} {k j d : Nat} (hR : RR st rt) (h11 : rt.1 11 = 0) (h13 : rt.1 13 = 0) (hk : k ≤ 13) (hj : j ≤ 6) (h14 : rt.1 14 = nI k) (h15 : rt.1 15 = nI j) (h7 : st.1 7 = nI k) (h8 : st.1 8 = nI j) (h12 : rt.1 12 = nI d) (hkd : st.2.2.1 = kdN k j) (hv : (kdN k j).val ≤ 2) (hst : st.2.1 = 10) (hq : kdN k j = 1) (hj1 : 1 ≤ j) (ha : st.1 11 = opd rt) (hW : isW (opd rt)) (hdd : (d = njN j + 1 ∧ rt.1 22 = 0) ∨ (d = njN j + 2 ∧ rt.1 22 = 1 ∧ (j = 4 ∨ j = 6))) : Sim st rt := by
  have hc := hR.1
  have hd := hR.2.1
  obtain ⟨⟨e0, e1, e2, e3, e4, e5⟩, ⟨g0, g1, g2, g3, g4, g5⟩, d1, d2, d3, d4, d5, d6⟩ := id hc
  have hk14 : k < 14 := by omega
  have hj7 : j < 7 := by omega
  have n99 : ¬ rt.1 14 = 99 := by rw [h14]; exact (kj_dec.1 k hk14).2
  have hd1 : st.1 9 + 1 = rt.1 12 + 1 := by rw [hd]
  have nj := njle j hj7
  obtain ⟨hh, h22, hh2, a1, a2⟩ : ∃ hh, rt.1 22 = nI hh ∧ hh < 2 ∧ aN k j d hh = 12 ∧ aN k j (d + 1) hh = 0 := by
    rcases hdd with ⟨rfl, h22⟩ | ⟨rfl, h22, j46⟩
    · exact ⟨0, h22, by decide, aN9b k hk14 j hj7 hj1 hq, aN9i k hk14 j hj7 hj1 hq⟩
    · exact ⟨1, h22, by decide, aN9f k hk14 j hj7 j46 hq, aN9k k hk14 j hj7 j46 hq⟩
  have hd8 : 0 < d ∧ d < 9 := by
    rcases hdd with ⟨rfl, -⟩ | ⟨rfl, -, -⟩ <;> omega
  have hact : f_M_action rt = (12, rt) := by rw [cur_A (d := d) (h := hh) h11 h13 hk hj h14 h15 h12 (by omega) (by omega) h22 hh2, a1]
  have h12' : rt.1 12 + 1 = nI (d + 1) := by rw [h12, nI_1]
  refine sim_write hR (ad := st.1 11) (act := 12) (v := st.1 0) (ad_10 hst) (by rw [hst]; decide) (bw_10 hst) hact (by rw [pl_12, ha, e0]) (fun seen => ?_)
  have e := nx_A (u := tV (tM (tV (tV (tV rt 23 (st.1 11)) 24 1) 25 (st.1 0)) (st.1 11) (st.1 0)) 3 (rt.1 3)) (k := k) (j := j) (d := d + 1) (h := hh) h11 h13 hk hj h14 h15 h12' (by omega) (by omega) h22 hh2
  rw [a2] at e
  exact use_end (hp_12 _ _) (by decide) (Or.inr e) (wr_10 (u := (sV (sM st (st.1 11) (st.1 0)) 9 (st.1 9 + 1))) hst) (show Rc (sM st (st.1 11) (st.1 0)) (tM rt (st.1 11) (st.1 0)) from Rc_write hc g0) h13 rfl rfl
set_option maxHeartbeats 4000000 in
theorem A_11 {st : CS} {rt : MS} {k j d : Nat} (hR : RR st rt) (h11 : rt.1 11 = 0) (h13 : rt.1 13 = 0) (hk : k ≤ 13) (hj : j ≤ 6) (h14 : rt.1 14 = nI k) (h15 : rt.1 15 = nI j) (h7 : st.1 7 = nI k) (h8 : st.1 8 = nI j) (h12 : rt.1 12 = nI d) (hkd : st.2.2.1 = kdN k j) (hv : (kdN k j).val ≤ 2) (hst : st.2.1 = 11) (hq : kdN k j = 2) (hj1 : 1 ≤ j) (ha : st.1 11 = opd rt) (hW : isW (opd rt)) (hdd : (d = njN j + 1 ∧ rt.1 22 = 0) ∨ (d = njN j + 2 ∧ rt.1 22 = 1 ∧ (j = 4 ∨ j = 6))) : Sim st rt := by
  have hc := hR.1
  have hd := hR.2.1
  obtain ⟨⟨e0, e1, e2, e3, e4, e5⟩, ⟨g0, g1, g2, g3, g4, g5⟩, d1, d2, d3, d4, d5, d6⟩ := id hc
  have hk14 : k < 14 := by omega
  have hj7 : j < 7 := by omega
  have n99 : ¬ rt.1 14 = 99 := by rw [h14]; exact (kj_dec.1 k hk14).2
  have hd1 : st.1 9 + 1 = rt.1 12 + 1 := by rw [hd]
  obtain ⟨k10, -, j4⟩ := kd_2 k hk14 j hj7 hq
  have nj := njle j hj7
  obtain ⟨hh, h22, hh2, a1, a2, hdn⟩ : ∃ hh, rt.1 22 = nI hh ∧ hh < 2 ∧ aN k j d hh = 13 ∧ aN k j (d + 1) hh = 14 ∧ ((d + 1 = njN j + 2 ∧ rt.1 22 = 0) ∨ (d + 1 = njN j + 3 ∧ rt.1 22 = 1 ∧ j = 4)) := by
    rcases hdd with ⟨rfl, h22⟩ | ⟨rfl, h22, j46⟩
    · exact ⟨0, h22, by decide, aN9c k hk14 j hj7 hj1 hq, aN10a k hk14 j hj7 hq, Or.inl ⟨rfl, h22⟩⟩
    · refine ⟨1, h22, by decide, aN9g k hk14 j hj7 j46 hq, ?_, Or.inr ⟨rfl, h22, by omega⟩⟩
      have : j = 4 := by omega
      subst this
      exact (aN10d k hk14 hq).1
  have hd8 : 0 < d ∧ d < 9 := by
    rcases hdd with ⟨rfl, -⟩ | ⟨rfl, -, -⟩ <;> omega
  have hact : f_M_action rt = (13, rt) := by rw [cur_A (d := d) (h := hh) h11 h13 hk hj h14 h15 h12 (by omega) (by omega) h22 hh2, a1]
  have h12' : rt.1 12 + 1 = nI (d + 1) := by rw [h12, nI_1]
  refine sim_read hR (ad := st.1 11) (act := 13) (ad_11 hst) (by rw [hst]; rfl) hact (by rw [pl_13, ha, w_and hW]) (fun b seen hb hbe => ?_)
  have eC : f_C_afterRead (sV st 9 (st.1 9 + 1)) b = sS (sV (sV st 9 (st.1 9 + 1)) 13 b) 12 := by rw [rd_11 (u := (sV st 9 (st.1 9 + 1))) hst]; rfl
  rw [eC]
  have ho : opd (tV (tV (tV rt 23 (st.1 11)) 24 0) 18 b) = opd rt := opd_18 (u := tV (tV rt 23 (st.1 11)) 24 0) h15 hj1 j4
  exact use_go (a := 14) (hp_13 _ b) (by decide) (Or.inl n99) (by rw [← a2]; exact nx_A (u := tV (tV (tV rt 23 (st.1 11)) 24 0) 18 b) (d := d + 1) (h := hh) h11 h13 hk hj h14 h15 h12' (by omega) (by omega) h22 hh2) (by decide) ⟨hc, hd1, Sit_A h11 h13 hk hj h14 h15 h7 h8 h12' hkd hv (Or.inr (Or.inr (Or.inr (Or.inr (Or.inr (Or.inr (Or.inr (Or.inr (Or.inr (Or.inl ⟨rfl, hq, ha.trans ho.symm, by exact ho ▸ hW, rfl, hb, hdn⟩))))))))))⟩ rfl rfl
set_option maxHeartbeats 4000000 in
theorem A_12 {st : CS} {rt : MS} {k j d : Nat} (hR : RR st rt) (h11 : rt.1 11 = 0) (h13 : rt.1 13 = 0) (hk : k ≤ 13) (hj : j ≤ 6) (h14 : rt.1 14 = nI k) (h15 : rt.1 15 = nI j) (h7 : st.1 7 = nI k) (h8 : st.1 8 = nI j) (h12 : rt.1 12 = nI d) (hkd : st.2.2.1 = kdN k j) (hv : (kdN k j).val ≤ 2) (hst : st.2.1 = 12) (hq : kdN k j = 2) (ha : st.1 11 = opd rt) (hW : isW (opd rt)) (hl : st.1 13 = rt.1 18) (hlB : isB (rt.1 18)) (hdd : (d = njN j + 2 ∧ rt.1 22 = 0) ∨ (d = njN j + 3 ∧ rt.1 22 = 1 ∧ j = 4)) : Sim st rt := by
  have hc := hR.1
  have hd := hR.2.1
  obtain ⟨⟨e0, e1, e2, e3, e4, e5⟩, ⟨g0, g1, g2, g3, g4, g5⟩, d1, d2, d3, d4, d5, d6⟩ := id hc
  have hk14 : k < 14 := by omega
  have hj7 : j < 7 := by omega
  have n99 : ¬ rt.1 14 = 99 := by rw [h14]; exact (kj_dec.1 k hk14).2
  have hd1 : st.1 9 + 1 = rt.1 12 + 1 := by rw [hd]
  have nj := njle j hj7
  obtain ⟨hh, h22, hh2, a1, a2, hdn⟩ : ∃ hh, rt.1 22 = nI hh ∧ hh < 2 ∧ aN k j d hh = 14 ∧ aN k j (d + 1) hh = 15 ∧ ((d + 1 = njN j + 3 ∧ rt.1 22 = 0) ∨ (d + 1 = njN j + 4 ∧ rt.1 22 = 1 ∧ j = 4)) := by
    rcases hdd with ⟨rfl, h22⟩ | ⟨rfl, h22, rfl⟩
    · exact ⟨0, h22, by decide, aN10a k hk14 j hj7 hq, aN10b k hk14 j hj7 hq, Or.inl ⟨rfl, h22⟩⟩
    · exact ⟨1, h22, by decide, (aN10d k hk14 hq).1, (aN10d k hk14 hq).2.1, Or.inr ⟨rfl, h22, rfl⟩⟩
  have hd8 : 0 < d ∧ d < 9 := by
    rcases hdd with ⟨rfl, -⟩ | ⟨rfl, -, -⟩ <;> omega
  have hact : f_M_action rt = (14, rt) := by rw [cur_A (d := d) (h := hh) h11 h13 hk hj h14 h15 h12 (by omega) (by omega) h22 hh2, a1]
  have h12' : rt.1 12 + 1 = nI (d + 1) := by rw [h12, nI_1]
  refine sim_write hR (ad := st.1 11) (act := 14) (v := st.1 13) (ad_12 hst) (by rw [hst]; decide) (bw_12 hst) hact (by rw [pl_14, ha, hl]) (fun seen => ?_)
  rw [wr_12 (u := (sV (sM st (st.1 11) (st.1 13)) 9 (st.1 9 + 1))) hst]
  have hB : isB (st.1 13) := hl ▸ hlB
  exact use_go (a := 15) (hp_14 _ _) (by decide) (Or.inl n99) (by rw [← a2]; exact nx_A (u := tV (tM (tV (tV (tV rt 23 (st.1 11)) 24 1) 25 (st.1 13)) (st.1 11) (st.1 13)) 20 (chg (rt.1 14) (st.1 13))) (d := d + 1) (h := hh) h11 h13 hk hj h14 h15 h12' (by omega) (by omega) h22 hh2) (by decide) ⟨show Rc (sM st (st.1 11) (st.1 13)) (tM rt (st.1 11) (st.1 13)) from Rc_write hc hB, hd1, Sit_A h11 h13 hk hj h14 h15 h7 h8 h12' hkd hv (Or.inr (Or.inr (Or.inr (Or.inr (Or.inr (Or.inr (Or.inr (Or.inr (Or.inr (Or.inr ⟨rfl, hq, ha, hW, hl, hlB, by show chg (rt.1 14) (st.1 13) = chg (nI k) (rt.1 18); rw [h14, hl], hdn⟩))))))))))⟩ rfl rfl
set_option maxHeartbeats 4000000 in
theorem A_13 {st : CS} {rt : MS} {k j d : Nat} (hR : RR st rt) (h11 : rt.1 11 = 0) (h13 : rt.1 13 = 0) (hk : k ≤ 13) (hj : j ≤ 6) (h14 : rt.1 14 = nI k) (h15 : rt.1 15 = nI j) (h7 : st.1 7 = nI k) (h8 : st.1 8 = nI j) (h12 : rt.1 12 = nI d) (hkd : st.2.2.1 = kdN k j) (hv : (kdN k j).val ≤ 2) (hst : st.2.1 = 13) (hq : kdN k j = 2) (ha : st.1 11 = opd rt) (hW : isW (opd rt)) (hl : st.1 13 = rt.1 18) (hlB : isB (rt.1 18)) (h20 : rt.1 20 = chg (nI k) (rt.1 18)) (hdd : (d = njN j + 3 ∧ rt.1 22 = 0) ∨ (d = njN j + 4 ∧ rt.1 22 = 1 ∧ j = 4)) : Sim st rt := by
  have hc := hR.1
  have hd := hR.2.1
  obtain ⟨⟨e0, e1, e2, e3, e4, e5⟩, ⟨g0, g1, g2, g3, g4, g5⟩, d1, d2, d3, d4, d5, d6⟩ := id hc
  have hk14 : k < 14 := by omega
  have hj7 : j < 7 := by omega
  have n99 : ¬ rt.1 14 = 99 := by rw [h14]; exact (kj_dec.1 k hk14).2
  have hd1 : st.1 9 + 1 = rt.1 12 + 1 := by rw [hd]
  obtain ⟨k10, -, j4⟩ := kd_2 k hk14 j hj7 hq
  have nj := njle j hj7
  obtain ⟨hh, h22, hh2, a1, a2⟩ : ∃ hh, rt.1 22 = nI hh ∧ hh < 2 ∧ aN k j d hh = 15 ∧ aN k j (d + 1) hh = 0 := by
    rcases hdd with ⟨rfl, h22⟩ | ⟨rfl, h22, rfl⟩
    · exact ⟨0, h22, by decide, aN10b k hk14 j hj7 hq, aN10c k hk14 j hj7 hq⟩
    · exact ⟨1, h22, by decide, (aN10d k hk14 hq).2.1, (aN10d k hk14 hq).2.2⟩
  have hd8 : 0 < d ∧ d < 9 := by
    rcases hdd with ⟨rfl, -⟩ | ⟨rfl, -, -⟩ <;> omega
  have hact : f_M_action rt = (15, rt) := by rw [cur_A (d := d) (h := hh) h11 h13 hk hj h14 h15 h12 (by omega) (by omega) h22 hh2, a1]
  have h12' : rt.1 12 + 1 = nI (d + 1) := by rw [h12, nI_1]
  have hB : isB (st.1 13) := hl ▸ hlB
  refine sim_write hR (ad := st.1 11) (act := 15) (v := (chg (nI k) (st.1 13))) (ad_13 hst) (by rw [hst]; decide) (by rw [bw_13 hst, R_chg st _ hB, h7]) hact (by rw [pl_15, ha, h20, hl]) (fun seen => ?_)
  have hcw : Rc (sV (sM st (st.1 11) (chg (nI k) (st.1 13))) 9 (st.1 9 + 1)) (tM (tV (tV (tV rt 23 (st.1 11)) 24 1) 25 (chg (nI k) (st.1 13))) (st.1 11) (chg (nI k) (st.1 13))) := show Rc (sM st (st.1 11) (chg (nI k) (st.1 13))) (tM rt (st.1 11) (chg (nI k) (st.1 13))) from Rc_write hc (chg_B _ hB)
  obtain ⟨w, w1, w2⟩ := chg_ok (st := (sV (sM st (st.1 11) (chg (nI k) (st.1 13))) 9 (st.1 9 + 1))) (rt := (tM (tV (tV (tV rt 23 (st.1 11)) 24 1) 25 (chg (nI k) (st.1 13))) (st.1 11) (chg (nI k) (st.1 13)))) hcw.1 hcw.2.1 hk14 k10 h14 hB hl.symm
  have eC : f_C_afterWrite (sV (sM st (st.1 11) (chg (nI k) (st.1 13))) 9 (st.1 9 + 1)) = f_C_end (f_R_flagsOfChange (sV (sM st (st.1 11) (chg (nI k) (st.1 13))) 9 (st.1 9 + 1)) (nI k) (st.1 13)) := by
    rw [wr_13 (u := (sV (sM st (st.1 11) (chg (nI k) (st.1 13))) 9 (st.1 9 + 1))) hst]
    show f_C_end (f_R_flagsOfChange (sV (sM st (st.1 11) (chg (nI k) (st.1 13))) 9 (st.1 9 + 1)) (st.1 7) (st.1 13)) = _
    rw [h7]
  have hcc := Rc_op hcw w2
  have m := w2.2.2.2
  have f := w2.2.1.2
  have e := nx_A (u := tV w 20 (chg (nI k) (st.1 13))) (k := k) (j := j) (d := d + 1) (h := hh) ((m 11 (by decide)).trans h11) ((m 13 (by decide)).trans h13) hk hj ((m 14 (by decide)).trans h14) ((m 15 (by decide)).trans h15) (by show w.1 12 + 1 = _; rw [m 12 (by decide)]; exact h12') (by omega) (by omega) ((m 22 (by decide)).trans h22) hh2
  rw [a2] at e
  exact use_end w1 (by decide) (Or.inr e) eC (show Rc (f_R_flagsOfChange (sV (sM st (st.1 11) (chg (nI k) (st.1 13))) 9 (st.1 9 + 1)) (nI k) (st.1 13)) w from hcc) ((m 13 (by decide)).trans h13) (f 10 (by decide)) (m 26 (by decide))
theorem sim_A {st : CS} {rt : MS} {k j d : Nat} (hR : RR st rt) (h11 : rt.1 11 = 0) (h13 : rt.1 13 = 0) (hk : k ≤ 13) (hj : j ≤ 6) (h14 : rt.1 14 = nI k) (h15 : rt.1 15 = nI j) (h7 : st.1 7 = nI k) (h8 : st.1 8 = nI j) (h12 : rt.1 12 = nI d) (hkd : st.2.2.1 = kdN k j) (hv : (kdN k j).val ≤ 2) (hA : InA st rt k j d) : Sim st rt := by
  rcases hA with ⟨q1, q2, q3, q4, q5⟩ | ⟨q1, q2, q3, q4⟩ | ⟨q1, q2, q3, q4, q5, q6⟩ | ⟨q1, q2, q3, q4⟩ | ⟨q1, q2, q3, q4, q5, q6⟩ | ⟨q1, q2, q3, q4⟩ | ⟨q1, q2, q3, q4, q5⟩ | ⟨q1, q2, q3, q4, q5, q6, q7⟩ | ⟨q1, q2, q3, q4, q5⟩ | ⟨q1, q2, q3, q4, q5, q6, q7⟩ | ⟨q1, q2, q3, q4, q5, q6, q7, q8⟩
  · exact A_1 hR h11 h13 hk hj h14 h15 h7 h8 h12 hkd hv q1 q2 q3 q4 q5
  · exact A_2 hR h11 h13 hk hj h14 h15 h7 h8 h12 hkd hv q1 q2 q3 q4
  · exact A_3 hR h11 h13 hk hj h14 h15 h7 h8 h12 hkd hv q1 q2 q3 q4 q5 q6
  · exact A_4 hR h11 h13 hk hj h14 h15 h7 h8 h12 hkd hv q1 q2 q3 q4
  · exact A_5 hR h11 h13 hk hj h14 h15 h7 h8 h12 hkd hv q1 q2 q3 q4 q5 q6
  · exact A_6 hR h11 h13 hk hj h14 h15 h7 h8 h12 hkd hv q1 q2 q3 q4
  · exact A_7 hR h11 h13 hk hj h14 h15 h7 h8 h12 hkd hv q1 q2 q3 q4 q5
  · exact A_8 hR h11 h13 hk hj h14 h15 h7 h8 h12 hkd hv q1 q2 q3 q4 q5 q6 q7
  · rcases q1 with ⟨r1, r2⟩ | ⟨r1, r2⟩ | ⟨r1, r2⟩
    · exact A_9 hR h11 h13 hk hj h14 h15 h7 h8 h12 hkd hv r1 r2 q2 q3 q4 q5
    · exact A_10 hR h11 h13 hk hj h14 h15 h7 h8 h12 hkd hv r1 r2 q2 q3 q4 q5
    · exact A_11 hR h11 h13 hk hj h14 h15 h7 h8 h12 hkd hv r1 r2 q2 q3 q4 q5
  · exact A_12 hR h11 h13 hk hj h14 h15 h7 h8 h12 hkd hv q1 q2 q3 q4 q5 q6 q7
  · exact A_13 hR h11 h13 hk hj h14 h15 h7 h8 h12 hkd hv q1 q2 q3 q4 q5 q6 q7 q8

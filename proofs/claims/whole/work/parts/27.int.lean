/-! one cycle of an interrupt, of a reset, of a stopped chip -/
theorem nx_int {h : MS} {d a : Int32} (h11 : h.1 11 = 1) (h12 : h.1 12 + 1 = d) (ha : digV 29281817160505 d = a) : f_M_action (tV h 12 (h.1 12 + 1)) = (a, tV h 12 (h.1 12 + 1)) := by
  rw [act_int (rt := tV h 12 (h.1 12 + 1)) h11]
  show (digV 29281817160505 (h.1 12 + 1), _) = _
  rw [h12, ha]
theorem nx_res {h : MS} {d a : Int32} (h11 : h.1 11 = 2) (h12 : h.1 12 + 1 = d) (ha : digV 29283030300505 d = a) : f_M_action (tV h 12 (h.1 12 + 1)) = (a, tV h 12 (h.1 12 + 1)) := by
  rw [act_res (rt := tV h 12 (h.1 12 + 1)) h11]
  show (digV 29283030300505 (h.1 12 + 1), _) = _
  rw [h12, ha]
theorem hp_5n {u : MS} (b : Int32) (h : ¬ u.1 11 = 0) : f_M_happen u 5 b = tV u 3 (u.1 3) := by
  rw [hp_5]
  unfold f_M_idle
  rw [if_neg (show ¬ (tV u 3 (u.1 3)).1 11 = 0 from h)]
theorem sk_W {s : Int32} (h : isB s) : isW (256 + s) := by
  obtain ⟨n, hn, rfl⟩ := h
  exact ⟨256 + n, by omega, by rw [show (256 : Int32) = nI 256 from rfl, nI_add]⟩
theorem pg_dec {x : Int32} (h : isW x) : isB (x >>> ((8 : Int32) &&& 31)) := by
  obtain ⟨n, hn, rfl⟩ := h
  rw [pk_shrN (by omega) _ 8 (by decide)]
  exact ⟨n / 2 ^ 8, by omega, rfl⟩
theorem sub1 (x : Int32) : x + (-1) = x - 1 := by rw [Int32.sub_eq_add_neg]
theorem Rc_write {st : CS} {rt : MS} {v ad : Int32} (hc : Rc st rt) (hv : isB v) : Rc (sM st ad v) (tM rt ad v) := by
  obtain ⟨h1, h2, d1, d2, d3, d4, d5⟩ := hc
  refine ⟨h1, h2, ?_, d2, d3, ?_, d5⟩
  · show upd st.2.2.2.1 _ _ = upd rt.2 _ _
    rw [d1]
  · intro j
    show isB (upd rt.2 _ _ j)
    unfold upd
    split
    · exact hv
    · exact d4 j
theorem Rc_s {st : CS} {rt : MS} {x : Int32} (hc : Rc st rt) (hx : isB x) : Rc (sV st 3 x) (tV rt 3 x) := Rc_op hc ((OpOk.rf hc.1 hc.2.1).s hx)
theorem Rc_pc {st : CS} {rt : MS} {x : Int32} (hc : Rc st rt) (hx : isW x) : Rc (sV st 4 x) (tV rt 4 x) := Rc_op hc ((OpOk.rf hc.1 hc.2.1).pc hx)
theorem Rc_f {st : CS} {rt : MS} {x : Int32} (hc : Rc st rt) (hx : isF x) : Rc (sV st 5 x) (tV rt 5 x) := Rc_op hc ((OpOk.rf hc.1 hc.2.1).f hx)
theorem Rc_next {st : CS} {rt : MS} (hc : Rc st rt) : Rc (sV st 4 ((st.1 4 + 1) &&& 65535)) (tV rt 4 ((rt.1 4 + 1) &&& 65535)) := by
  rw [hc.1.2.2.2.2.1]
  exact Rc_pc hc (isW_and _)
theorem Rc_push {st : CS} {rt : MS} {v : Int32} (hc : Rc st rt) (hv : isB v) : Rc (sV (sM st (256 + st.1 3) v) 3 ((st.1 3 + (-1)) &&& 255)) (tV (tM rt (256 + st.1 3) v) 3 ((rt.1 3 - 1) &&& 255)) := by
  rw [sub1, hc.1.2.2.2.1]
  exact Rc_s (Rc_write hc hv) (isB_and _)
theorem Rc_pull {st : CS} {rt : MS} (hc : Rc st rt) : Rc (sV st 3 ((st.1 3 + 1) &&& 255)) (tV rt 3 ((rt.1 3 + 1) &&& 255)) := by
  rw [hc.1.2.2.2.1]
  exact Rc_s hc (isB_and _)
theorem Rc_setI {st : CS} {rt : MS} (hc : Rc st rt) : Rc (sV st 5 (fput (st.1 5) 4 1)) (tV rt 5 (rt.1 5 ||| 4)) := by
  have e : fput (st.1 5) 4 1 = rt.1 5 ||| 4 := by rw [hc.1.2.2.2.2.2]; rfl
  rw [e]
  exact Rc_f hc (by rw [← e]; exact isF_put hc.2.1.2.2.2.2.2 4 (by decide) 1)
theorem word_dec {z h : Int32} (hz : isB z) (hh : isB h) : z ||| (h <<< ((8 : Int32) &&& 31)) = z + 256 * h ∧ isW (z + 256 * h) := by
  obtain ⟨n, hn, rfl⟩ := hz
  obtain ⟨k, hk, rfl⟩ := hh
  have e1 : nI k <<< ((8 : Int32) &&& 31) = nI (k * 2 ^ 8) := pk_shlN _ 8 (by decide) (by omega)
  have e2 : n ||| k * 2 ^ 8 = n + 256 * k := by
    have h1 : k * 2 ^ 8 = k <<< 8 := (Nat.shiftLeft_eq k 8).symm
    rw [Nat.or_comm, h1, ← Nat.shiftLeft_add_eq_or_of_lt (i := 8) hn, Nat.shiftLeft_eq, show (2 : Nat) ^ 8 = 256 from rfl, Nat.mul_comm, Nat.add_comm]
  have e3 : nI n + 256 * nI k = nI (n + 256 * k) := by
    rw [show (256 : Int32) = nI 256 from rfl, pk_mul, nI_add]
  rw [e1, nI_bor, e2, e3]
  exact ⟨rfl, n + 256 * k, by omega, rfl⟩
theorem p_dec0 : ∀ n, n < 256 → n &&& 207 = n → isBd (nI n + 32) = true ∧ ((nI n ||| 32) ||| 0) &&& 255 = nI n + 32 ∧ ((nI n ||| 32) ||| 16) &&& 255 = (nI n + 32) + 16 ∧ isBd ((nI n + 32) + 16) = true ∧ (nI n ||| 32) &&& 255 = nI n + 32 ∧ nI n ||| 32 = nI n + 32 := by decide +kernel
theorem p_dec {f : Int32} (h : isF f) : isB (f + 32) ∧ ((f ||| 32) ||| 0) &&& 255 = f + 32 ∧ ((f ||| 32) ||| 16) &&& 255 = (f + 32) + 16 ∧ isB ((f + 32) + 16) ∧ (f ||| 32) &&& 255 = f + 32 ∧ f ||| 32 = f + 32 := by
  obtain ⟨n, hn, h2, rfl⟩ := h
  obtain ⟨a1, a2, a3, a4, a5, a6⟩ := p_dec0 n hn h2
  exact ⟨isBd_B a1, a2, a3, isBd_B a4, a5, a6⟩
/-- the last byte of a vector: both go there, and end -/
theorem vec_end {st : CS} {rt : MS} {b seen : Int32} (hc : Rc st rt) (hst : st.2.1 = 30) (hb : isB b) (hz : st.1 13 = rt.1 16) (hzB : isB (rt.1 16)) (h13 : rt.1 13 = 0) {ad : Int32}
    (ha : f_M_action (tV (tV (tV (tV (tV rt 23 ad) 24 0) 3 (rt.1 3)) 4 (rt.1 16 + 256 * b)) 12 (rt.1 12 + 1)) = (0, tV (tV (tV (tV (tV rt 23 ad) 24 0) 3 (rt.1 3)) 4 (rt.1 16 + 256 * b)) 12 (rt.1 12 + 1))) :
    ∃ rt' : MS, f_M_clock_101 (tV (tV rt 23 ad) 24 0) 29 b seen = (seen, rt') ∧ RR (f_C_afterRead (sV st 9 (st.1 9 + 1)) b) rt' ∧ (f_C_afterRead (sV st 9 (st.1 9 + 1)) b).1 10 - st.1 10 = rt'.1 26 - rt.1 26 := by
  obtain ⟨w1, w2⟩ := word_dec hzB hb
  have hh : f_M_happen (tV (tV rt 23 ad) 24 0) 29 b = tV (tV (tV (tV rt 23 ad) 24 0) 3 (rt.1 3)) 4 (rt.1 16 + 256 * b) := by rw [← w1]; exact hp_29 _ b
  rw [rd_30 (u := sV st 9 (st.1 9 + 1)) hst]
  have eg : f_C_goTo (sV st 9 (st.1 9 + 1)) ((sV st 9 (st.1 9 + 1)).1 13 + 256 * b) = f_C_end (sV (sV st 9 (st.1 9 + 1)) 4 (rt.1 16 + 256 * b)) := by
    have e : f_C_goTo (sV st 9 (st.1 9 + 1)) ((sV st 9 (st.1 9 + 1)).1 13 + 256 * b) = f_C_end (sV (sV st 9 (st.1 9 + 1)) 4 ((st.1 13 + 256 * b) &&& 65535)) := rfl
    rw [e, hz, w_and w2]
  exact use_end hh (by decide) (Or.inr ha) eg (show Rc (sV st 4 (rt.1 16 + 256 * b)) (tV rt 4 (rt.1 16 + 256 * b)) from Rc_pc hc w2) h13 rfl rfl
set_option maxHeartbeats 4000000 in
theorem sim_int {st : CS} {rt : MS} (hR : RR st rt) (hI : IntR st rt) : Sim st rt := by
  have hc := hR.1
  have hd := hR.2.1
  obtain ⟨⟨e0, e1, e2, e3, e4, e5⟩, ⟨g0, g1, g2, g3, g4, g5⟩, d1, d2, d3, d4, d5, d6⟩ := id hc
  obtain ⟨h11, h13, hk, hcs⟩ := hI
  have n11 : ¬ rt.1 11 = 0 := by rw [h11]; decide
  have nC : ∀ x, rt.1 12 = x → st.1 9 + 1 = x + 1 := fun x h => by rw [hd, h]
  rcases hcs with ⟨hst, h12⟩ | ⟨hst, h12⟩ | ⟨hst, h12⟩ | ⟨hst, h12⟩ | ⟨hst, h12⟩ | ⟨hst, h12⟩ | ⟨hst, h12, hz, hzB, hv, hvW⟩
  · refine sim_read hR (ad := st.1 4) (act := 5) (ad_28 hst) (by rw [hst]; rfl) (by rw [act_int h11, h12]; exact congrArg (·, rt) (by decide +kernel)) (by rw [pl_5, ← e4, w_and g4]) (fun b seen hb hbe => ?_)
    have e9 : (sV st 9 (st.1 9 + 1)).1 9 = 1 := by show st.1 9 + 1 = 1; rw [hd, h12]; rfl
    rw [rd_28 (u := sV st 9 (st.1 9 + 1)) hst, if_neg (by rw [e9]; decide)]
    exact use_go (a := 5) (hp_5n b n11) (by decide) (Or.inr n11) (nx_int (d := 1) h11 (show rt.1 12 + 1 = 1 by rw [h12]; rfl) (by decide +kernel)) (by decide) ⟨hc, by show st.1 9 + 1 = rt.1 12 + 1; rw [hd], Or.inr (Or.inr (Or.inl ⟨h11, h13, hk, (Or.inr (Or.inl ⟨rfl, (show rt.1 12 + 1 = 1 by rw [h12]; rfl)⟩))⟩))⟩ rfl rfl
  · refine sim_read hR (ad := st.1 4) (act := 5) (ad_28 hst) (by rw [hst]; rfl) (by rw [act_int h11, h12]; exact congrArg (·, rt) (by decide +kernel)) (by rw [pl_5, ← e4, w_and g4]) (fun b seen hb hbe => ?_)
    have e9 : (sV st 9 (st.1 9 + 1)).1 9 = 2 := by show st.1 9 + 1 = 2; rw [hd, h12]; rfl
    rw [rd_28 (u := sV st 9 (st.1 9 + 1)) hst, if_pos (by rw [e9]; decide)]
    exact use_go (a := 16) (hp_5n b n11) (by decide) (Or.inr n11) (nx_int (d := 2) h11 (show rt.1 12 + 1 = 2 by rw [h12]; rfl) (by decide +kernel)) (by decide) ⟨hc, by show st.1 9 + 1 = rt.1 12 + 1; rw [hd], Or.inr (Or.inr (Or.inl ⟨h11, h13, hk, (Or.inr (Or.inr (Or.inl ⟨rfl, (show rt.1 12 + 1 = 2 by rw [h12]; rfl)⟩)))⟩))⟩ rfl rfl
  · refine sim_write hR (ad := 256 + st.1 3) (act := 16) (v := st.1 4 >>> ((8 : Int32) &&& 31)) (ad_21 hst) (by rw [hst]; decide) (bw_21 hst) (by rw [act_int h11, h12]; exact congrArg (·, rt) (by decide +kernel)) (by rw [pl_16, ← e3, ← e4, b_and255 (pg_dec g4)]) (fun seen => ?_)
    rw [wr_21 (u := sV (sM st (256 + st.1 3) (st.1 4 >>> ((8 : Int32) &&& 31))) 9 (st.1 9 + 1)) hst]
    exact use_go (a := 17) (hp_16 _ _) (by decide) (Or.inr n11) (nx_int (d := 3) h11 (show rt.1 12 + 1 = 3 by rw [h12]; rfl) (by decide +kernel)) (by decide) ⟨show Rc (sV (sM st (256 + st.1 3) (st.1 4 >>> ((8 : Int32) &&& 31))) 3 ((st.1 3 + (-1)) &&& 255)) (tV (tM rt (256 + st.1 3) (st.1 4 >>> ((8 : Int32) &&& 31))) 3 ((rt.1 3 - 1) &&& 255)) from Rc_push hc (pg_dec g4), by show st.1 9 + 1 = rt.1 12 + 1; rw [hd], Or.inr (Or.inr (Or.inl ⟨h11, h13, hk, (Or.inr (Or.inr (Or.inr (Or.inl ⟨rfl, (show rt.1 12 + 1 = 3 by rw [h12]; rfl)⟩))))⟩))⟩ rfl rfl
  · refine sim_write hR (ad := 256 + st.1 3) (act := 17) (v := st.1 4 &&& 255) (ad_22 hst) (by rw [hst]; decide) (bw_22 hst) (by rw [act_int h11, h12]; exact congrArg (·, rt) (by decide +kernel)) (by rw [pl_17, ← e3, ← e4]) (fun seen => ?_)
    have hk5 : ¬ (f_R_moveStack (sV (sM st (256 + st.1 3) (st.1 4 &&& 255)) 9 (st.1 9 + 1)) (-1)).2.2.1 = 5 := by show ¬ st.2.2.1 = 5; rw [hk]; decide
    rw [wr_22 (u := sV (sM st (256 + st.1 3) (st.1 4 &&& 255)) 9 (st.1 9 + 1)) hst, if_neg hk5]
    exact use_go (a := 18) (hp_17 _ _) (by decide) (Or.inr n11) (nx_int (d := 4) h11 (show rt.1 12 + 1 = 4 by rw [h12]; rfl) (by decide +kernel)) (by decide) ⟨show Rc (sV (sM st (256 + st.1 3) (st.1 4 &&& 255)) 3 ((st.1 3 + (-1)) &&& 255)) (tV (tM rt (256 + st.1 3) (st.1 4 &&& 255)) 3 ((rt.1 3 - 1) &&& 255)) from Rc_push hc (isB_and _), by show st.1 9 + 1 = rt.1 12 + 1; rw [hd], Or.inr (Or.inr (Or.inl ⟨h11, h13, hk, (Or.inr (Or.inr (Or.inr (Or.inr (Or.inl ⟨rfl, (show rt.1 12 + 1 = 4 by rw [h12]; rfl)⟩)))))⟩))⟩ rfl rfl
  · have hp := p_dec g5
    have eb : f_C_byteToWrite st = (st.1 5 + 32, st) := by rw [bw_23 hst, if_neg (by rw [hk]; decide)]
    refine sim_write hR (ad := 256 + st.1 3) (act := 18) (v := st.1 5 + 32) (ad_23 hst) (by rw [hst]; decide) eb (by rw [act_int h11, h12]; exact congrArg (·, rt) (by decide +kernel)) (by rw [pl_18, if_pos h11, ← e3, ← e5, hp.2.1]) (fun seen => ?_)
    rw [wr_23 (u := sV (sM st (256 + st.1 3) (st.1 5 + 32)) 9 (st.1 9 + 1)) hst, R_put]
    exact use_go (a := 28) (hp_18 _ _) (by decide) (Or.inr n11) (nx_int (d := 5) h11 (show rt.1 12 + 1 = 5 by rw [h12]; rfl) (by decide +kernel)) (by decide) ⟨show Rc (sV (sV (sM st (256 + st.1 3) (st.1 5 + 32)) 3 ((st.1 3 + (-1)) &&& 255)) 5 (fput (st.1 5) 4 1)) (tV (tV (tM rt (256 + st.1 3) (st.1 5 + 32)) 3 ((rt.1 3 - 1) &&& 255)) 5 (rt.1 5 ||| 4)) from Rc_setI (Rc_push hc hp.1), by show st.1 9 + 1 = rt.1 12 + 1; rw [hd], Or.inr (Or.inr (Or.inl ⟨h11, h13, hk, (Or.inr (Or.inr (Or.inr (Or.inr (Or.inr (Or.inl ⟨rfl, (show rt.1 12 + 1 = 5 by rw [h12]; rfl)⟩))))))⟩))⟩ rfl rfl
  · obtain ⟨V, hV⟩ : ∃ V : Int32, V = if rt.1 10 = 0 then 65534 else 65530 := ⟨_, rfl⟩
    have hVW : V &&& 65535 = V ∧ isW (V + 1) ∧ (¬ rt.1 10 = 0 → V = 65530) := by
      rw [hV]
      by_cases q : rt.1 10 = 0
      · rw [if_pos q]; exact ⟨by decide, ⟨65535, by decide, by decide⟩, fun h => absurd q h⟩
      · rw [if_neg q]; exact ⟨by decide, ⟨65531, by decide, by decide⟩, fun _ => rfl⟩
    have eA : f_C_addressOfStep st = (V, st) := by rw [ad_29 hst, d3, hV]
    have n2 : ¬ rt.1 11 = 2 := by rw [h11]; decide
    refine sim_read hR (ad := V) (act := 28) eA (by rw [hst]; rfl) (by rw [act_int h11, h12]; exact congrArg (·, rt) (by decide +kernel)) (by rw [pl_28, if_neg n2, hV]; split <;> rfl) (fun b seen hb hbe => ?_)
    rw [rd_29 (u := sV st 9 (st.1 9 + 1)) hst]
    have eC : f_C_afterVectorLow (sV st 9 (st.1 9 + 1)) b = sS (sV (sV (sV (sV st 9 (st.1 9 + 1)) 13 b) 11 (V + 1)) 6 0) 30 := by
      have e : f_C_afterVectorLow (sV st 9 (st.1 9 + 1)) b = sS (sV (sV (f_C_addressOfStep (sV (sV st 9 (st.1 9 + 1)) 13 b)).2 11 ((f_C_addressOfStep (sV (sV st 9 (st.1 9 + 1)) 13 b)).1 + 1)) 6 0) 30 := rfl
      rw [e, ad_29 (u := sV (sV st 9 (st.1 9 + 1)) 13 b) hst, hV, ← d3]
      rfl
    rw [eC]
    have hh := hp_28 (u := tV (tV rt 23 V) 24 0) b d6 (fun q => Or.inr (hVW.2.2 q)) (fun q => absurd q n2)
    have hh : f_M_happen (tV (tV rt 23 V) 24 0) 28 b = tV (tV (tV (tV (tV (tV (tV rt 23 V) 24 0) 3 (rt.1 3)) 19 V) 10 0) 5 (rt.1 5)) 16 b := by
      rw [hh, if_neg (show ¬ (tV (tV rt 23 V) 24 0).1 11 = 2 from n2), if_neg (show ¬ (tV (tV rt 23 V) 24 0).1 11 = 2 from n2)]
      rfl
    exact use_go (a := 29) hh (by decide) (Or.inr n11) (nx_int (d := 6) h11 (show rt.1 12 + 1 = 6 by rw [h12]; rfl) (by decide +kernel)) (by decide) ⟨⟨⟨e0, e1, e2, e3, e4, e5⟩, ⟨g0, g1, g2, g3, g4, g5⟩, d1, d2, rfl, d4, d5, Or.inl rfl⟩, by show st.1 9 + 1 = rt.1 12 + 1; rw [hd], Or.inr (Or.inr (Or.inl ⟨h11, h13, hk, (Or.inr (Or.inr (Or.inr (Or.inr (Or.inr (Or.inr ⟨rfl, (show rt.1 12 + 1 = 6 by rw [h12]; rfl), rfl, hb, rfl, hVW.2.1⟩))))))⟩))⟩ rfl rfl
  · refine sim_read hR (ad := st.1 11) (act := 29) (ad_30 hst) (by rw [hst]; rfl) (by rw [act_int h11, h12]; exact congrArg (·, rt) (by decide +kernel)) (by rw [pl_29, hv, w_and hvW]) (fun b seen hb hbe => ?_)
    exact vec_end hc hst hb hz hzB h13 (by rw [act_int (by exact h11)]; show (digV _ (rt.1 12 + 1), _) = _; rw [h12]; exact congrArg (·, _) (by decide +kernel))
set_option maxHeartbeats 4000000 in
theorem sim_res {st : CS} {rt : MS} (hR : RR st rt) (hI : ResR st rt) : Sim st rt := by
  have hc := hR.1
  have hd := hR.2.1
  obtain ⟨⟨e0, e1, e2, e3, e4, e5⟩, ⟨g0, g1, g2, g3, g4, g5⟩, d1, d2, d3, d4, d5, d6⟩ := id hc
  obtain ⟨h11, h13, hk, hcs⟩ := hI
  have n11 : ¬ rt.1 11 = 0 := by rw [h11]; decide
  have nC : ∀ x, rt.1 12 = x → st.1 9 + 1 = x + 1 := fun x h => by rw [hd, h]
  rcases hcs with ⟨hst, h12⟩ | ⟨hst, h12⟩ | ⟨hst, h12⟩ | ⟨hst, h12⟩ | ⟨hst, h12⟩ | ⟨hst, h12⟩ | ⟨hst, h12, hz, hzB, hv, hvW⟩
  · refine sim_read hR (ad := st.1 4) (act := 5) (ad_31 hst) (by rw [hst]; rfl) (by rw [act_res h11, h12]; exact congrArg (·, rt) (by decide +kernel)) (by rw [pl_5, ← e4, w_and g4]) (fun b seen hb hbe => ?_)
    have e9 : (sV st 9 (st.1 9 + 1)).1 9 = 1 := by show st.1 9 + 1 = 1; rw [hd, h12]; rfl
    rw [rd_31 (u := sV st 9 (st.1 9 + 1)) hst, if_neg (by rw [e9]; decide)]
    exact use_go (a := 5) (hp_5n b n11) (by decide) (Or.inr n11) (nx_res (d := 1) h11 (show rt.1 12 + 1 = 1 by rw [h12]; rfl) (by decide +kernel)) (by decide) ⟨hc, by show st.1 9 + 1 = rt.1 12 + 1; rw [hd], Or.inr (Or.inr (Or.inr (Or.inl ⟨h11, h13, hk, (Or.inr (Or.inl ⟨rfl, (show rt.1 12 + 1 = 1 by rw [h12]; rfl)⟩))⟩)))⟩ rfl rfl
  · refine sim_read hR (ad := st.1 4) (act := 5) (ad_31 hst) (by rw [hst]; rfl) (by rw [act_res h11, h12]; exact congrArg (·, rt) (by decide +kernel)) (by rw [pl_5, ← e4, w_and g4]) (fun b seen hb hbe => ?_)
    have e9 : (sV st 9 (st.1 9 + 1)).1 9 = 2 := by show st.1 9 + 1 = 2; rw [hd, h12]; rfl
    rw [rd_31 (u := sV st 9 (st.1 9 + 1)) hst, if_pos (by rw [e9]; decide)]
    exact use_go (a := 30) (hp_5n b n11) (by decide) (Or.inr n11) (nx_res (d := 2) h11 (show rt.1 12 + 1 = 2 by rw [h12]; rfl) (by decide +kernel)) (by decide) ⟨hc, by show st.1 9 + 1 = rt.1 12 + 1; rw [hd], Or.inr (Or.inr (Or.inr (Or.inl ⟨h11, h13, hk, (Or.inr (Or.inr (Or.inl ⟨rfl, (show rt.1 12 + 1 = 2 by rw [h12]; rfl)⟩)))⟩)))⟩ rfl rfl
  · refine sim_read hR (ad := 256 + st.1 3) (act := 30) (ad_32 hst) (by rw [hst]; rfl) (by rw [act_res h11, h12]; exact congrArg (·, rt) (by decide +kernel)) (by rw [pl_30, ← e3, w_and (sk_W g3)]) (fun b seen hb hbe => ?_)
    have e9 : (f_R_moveStack (sV st 9 (st.1 9 + 1)) (-1)).1 9 = 3 := by show st.1 9 + 1 = 3; rw [hd, h12]; rfl
    have eC : f_C_afterResetStack (sV st 9 (st.1 9 + 1)) = sS (f_R_moveStack (sV st 9 (st.1 9 + 1)) (-1)) 32 := by
      have e : f_C_afterResetStack (sV st 9 (st.1 9 + 1)) = (if 5 ≤ (f_R_moveStack (sV st 9 (st.1 9 + 1)) (-1)).1 9 then sS (f_R_moveStack (sV st 9 (st.1 9 + 1)) (-1)) 33 else sS (f_R_moveStack (sV st 9 (st.1 9 + 1)) (-1)) 32) := rfl
      rw [e, if_neg (by rw [e9]; decide)]
    rw [rd_32 (u := sV st 9 (st.1 9 + 1)) hst, eC]
    exact use_go (a := 30) (hp_30 _ _) (by decide) (Or.inr n11) (nx_res (d := 3) h11 (show rt.1 12 + 1 = 3 by rw [h12]; rfl) (by decide +kernel)) (by decide) ⟨show Rc (sV st 3 ((st.1 3 + (-1)) &&& 255)) (tV rt 3 ((rt.1 3 - 1) &&& 255)) from (by rw [sub1, e3]; exact Rc_s hc (isB_and _)), by show st.1 9 + 1 = rt.1 12 + 1; rw [hd], Or.inr (Or.inr (Or.inr (Or.inl ⟨h11, h13, hk, (Or.inr (Or.inr (Or.inr (Or.inl ⟨rfl, (show rt.1 12 + 1 = 3 by rw [h12]; rfl)⟩))))⟩)))⟩ rfl rfl
  · refine sim_read hR (ad := 256 + st.1 3) (act := 30) (ad_32 hst) (by rw [hst]; rfl) (by rw [act_res h11, h12]; exact congrArg (·, rt) (by decide +kernel)) (by rw [pl_30, ← e3, w_and (sk_W g3)]) (fun b seen hb hbe => ?_)
    have e9 : (f_R_moveStack (sV st 9 (st.1 9 + 1)) (-1)).1 9 = 4 := by show st.1 9 + 1 = 4; rw [hd, h12]; rfl
    have eC : f_C_afterResetStack (sV st 9 (st.1 9 + 1)) = sS (f_R_moveStack (sV st 9 (st.1 9 + 1)) (-1)) 32 := by
      have e : f_C_afterResetStack (sV st 9 (st.1 9 + 1)) = (if 5 ≤ (f_R_moveStack (sV st 9 (st.1 9 + 1)) (-1)).1 9 then sS (f_R_moveStack (sV st 9 (st.1 9 + 1)) (-1)) 33 else sS (f_R_moveStack (sV st 9 (st.1 9 + 1)) (-1)) 32) := rfl
      rw [e, if_neg (by rw [e9]; decide)]
    rw [rd_32 (u := sV st 9 (st.1 9 + 1)) hst, eC]
    exact use_go (a := 30) (hp_30 _ _) (by decide) (Or.inr n11) (nx_res (d := 4) h11 (show rt.1 12 + 1 = 4 by rw [h12]; rfl) (by decide +kernel)) (by decide) ⟨show Rc (sV st 3 ((st.1 3 + (-1)) &&& 255)) (tV rt 3 ((rt.1 3 - 1) &&& 255)) from (by rw [sub1, e3]; exact Rc_s hc (isB_and _)), by show st.1 9 + 1 = rt.1 12 + 1; rw [hd], Or.inr (Or.inr (Or.inr (Or.inl ⟨h11, h13, hk, (Or.inr (Or.inr (Or.inr (Or.inr (Or.inl ⟨rfl, (show rt.1 12 + 1 = 4 by rw [h12]; rfl)⟩)))))⟩)))⟩ rfl rfl
  · refine sim_read hR (ad := 256 + st.1 3) (act := 30) (ad_32 hst) (by rw [hst]; rfl) (by rw [act_res h11, h12]; exact congrArg (·, rt) (by decide +kernel)) (by rw [pl_30, ← e3, w_and (sk_W g3)]) (fun b seen hb hbe => ?_)
    have e9 : (f_R_moveStack (sV st 9 (st.1 9 + 1)) (-1)).1 9 = 5 := by show st.1 9 + 1 = 5; rw [hd, h12]; rfl
    have eC : f_C_afterResetStack (sV st 9 (st.1 9 + 1)) = sS (f_R_moveStack (sV st 9 (st.1 9 + 1)) (-1)) 33 := by
      have e : f_C_afterResetStack (sV st 9 (st.1 9 + 1)) = (if 5 ≤ (f_R_moveStack (sV st 9 (st.1 9 + 1)) (-1)).1 9 then sS (f_R_moveStack (sV st 9 (st.1 9 + 1)) (-1)) 33 else sS (f_R_moveStack (sV st 9 (st.1 9 + 1)) (-1)) 32) := rfl
      rw [e, if_pos (by rw [e9]; decide)]
    rw [rd_32 (u := sV st 9 (st.1 9 + 1)) hst, eC]
    exact use_go (a := 28) (hp_30 _ _) (by decide) (Or.inr n11) (nx_res (d := 5) h11 (show rt.1 12 + 1 = 5 by rw [h12]; rfl) (by decide +kernel)) (by decide) ⟨show Rc (sV st 3 ((st.1 3 + (-1)) &&& 255)) (tV rt 3 ((rt.1 3 - 1) &&& 255)) from (by rw [sub1, e3]; exact Rc_s hc (isB_and _)), by show st.1 9 + 1 = rt.1 12 + 1; rw [hd], Or.inr (Or.inr (Or.inr (Or.inl ⟨h11, h13, hk, (Or.inr (Or.inr (Or.inr (Or.inr (Or.inr (Or.inl ⟨rfl, (show rt.1 12 + 1 = 5 by rw [h12]; rfl)⟩))))))⟩)))⟩ rfl rfl
  · refine sim_read hR (ad := 65532) (act := 28) (ad_33 hst) (by rw [hst]; rfl) (by rw [act_res h11, h12]; exact congrArg (·, rt) (by decide +kernel)) (by rw [pl_28, if_pos h11]; rfl) (fun b seen hb hbe => ?_)
    rw [rd_33 (u := sV st 9 (st.1 9 + 1)) hst]
    have eC : f_C_afterResetLow (sV st 9 (st.1 9 + 1)) b = sS (sV (sV (sV (sV st 9 (st.1 9 + 1)) 5 (fput (st.1 5) 4 1)) 13 b) 11 65533) 30 := by
      have e : f_C_afterResetLow (sV st 9 (st.1 9 + 1)) b = sS (sV (sV (f_R_put (sV st 9 (st.1 9 + 1)) 4 1) 13 b) 11 65533) 30 := rfl
      rw [e, R_put]
      rfl
    rw [eC]
    have hh := hp_28 (u := tV (tV rt 23 65532) 24 0) b d6 (fun q => Or.inl h11) (fun _ => by show ¬ (65532 : Int32) = 65530; decide)
    have hh : f_M_happen (tV (tV rt 23 65532) 24 0) 28 b = tV (tV (tV (tV (tV (tV (tV rt 23 65532) 24 0) 3 (rt.1 3)) 19 65532) 10 (rt.1 10)) 5 (rt.1 5 ||| 4)) 16 b := by
      rw [hh, if_pos (show (tV (tV rt 23 65532) 24 0).1 11 = 2 from h11), if_pos (show (tV (tV rt 23 65532) 24 0).1 11 = 2 from h11)]
      rfl
    exact use_go (a := 29) hh (by decide) (Or.inr n11) (nx_res (d := 6) h11 (show rt.1 12 + 1 = 6 by rw [h12]; rfl) (by decide +kernel)) (by decide) ⟨show Rc (sV st 5 (fput (st.1 5) 4 1)) (tV rt 5 (rt.1 5 ||| 4)) from Rc_setI hc, by show st.1 9 + 1 = rt.1 12 + 1; rw [hd], Or.inr (Or.inr (Or.inr (Or.inl ⟨h11, h13, hk, (Or.inr (Or.inr (Or.inr (Or.inr (Or.inr (Or.inr ⟨rfl, (show rt.1 12 + 1 = 6 by rw [h12]; rfl), rfl, hb, rfl, ⟨65533, by decide, by show (65532 : Int32) + 1 = nI 65533; decide⟩⟩))))))⟩)))⟩ rfl rfl
  · refine sim_read hR (ad := st.1 11) (act := 29) (ad_30 hst) (by rw [hst]; rfl) (by rw [act_res h11, h12]; exact congrArg (·, rt) (by decide +kernel)) (by rw [pl_29, hv, w_and hvW]) (fun b seen hb hbe => ?_)
    exact vec_end hc hst hb hz hzB h13 (by rw [act_res (by exact h11)]; show (digV _ (rt.1 12 + 1), _) = _; rw [h12]; exact congrArg (·, _) (by decide +kernel))
theorem sim_jam {st : CS} {rt : MS} (hR : RR st rt) (hst : st.2.1 = 34) (h11 : rt.1 11 = 0) (h12 : rt.1 12 = 1) (h13 : rt.1 13 = 1) (h99 : ¬ rt.1 14 = 99) : Sim st rt := by
  refine sim_read hR (ad := 65535) (act := 32) (ad_34 hst) (by rw [hst]; rfl) (act_jam h11 h13) (by rw [pl_32]; rfl) (fun b seen hb hbe => ?_)
  rw [rd_34 (u := sV st 9 (st.1 9 + 1)) hst]
  have hA : f_M_action (tV (tV (tV (tV rt 23 65535) 24 0) 3 (rt.1 3)) 12 1) = (32, tV (tV (tV (tV rt 23 65535) 24 0) 3 (rt.1 3)) 12 1) := act_jam h11 h13
  have e143 : f_M_clock_143 (tV (tV (tV (tV rt 23 65535) 24 0) 3 (rt.1 3)) 12 1) seen = (seen, tV (tV (tV (tV rt 23 65535) 24 0) 3 (rt.1 3)) 12 1) := by
    unfold f_M_clock_143
    rw [hA]
    rfl
  have e : f_M_clock_101 (tV (tV rt 23 65535) 24 0) 32 b seen = (if rt.1 14 = 99 then (if rt.1 11 = 0 then f_M_clock_150 (tV (tV (tV (tV rt 23 65535) 24 0) 3 (rt.1 3)) 12 1) seen else f_M_clock_143 (tV (tV (tV (tV rt 23 65535) 24 0) 3 (rt.1 3)) 12 1) seen) else f_M_clock_143 (tV (tV (tV (tV rt 23 65535) 24 0) 3 (rt.1 3)) 12 1) seen) := rfl
  rw [e, if_neg h99, e143]
  exact ⟨_, rfl, ⟨hR.1, rfl, Or.inr (Or.inl ⟨hst, h11, rfl, h13, h99⟩)⟩, by
    show st.1 10 - st.1 10 = rt.1 26 - rt.1 26
    rw [Int32.sub_self, Int32.sub_self]⟩

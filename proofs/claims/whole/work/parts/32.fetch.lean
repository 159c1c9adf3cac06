/-! the first cycle of an instruction -/
def kA (a : Int32) : Fin 16 := if 15 < a then (if a = 16 then 7 else if a = 17 then 8 else if a = 18 then 7 else if a = 19 then 8 else if a = 20 then 9 else if a = 21 then 10 else if a = 22 then 11 else 12) else 6
def kB3 (a m : Int32) : Fin 16 := if m = 3 then (if a = 25 then 5 else 12) else 12
def kB2 (a m : Int32) : Fin 16 := if m = 3 then (if a = 24 then 4 else kB3 a m) else kB3 a m
def kB (a m : Int32) : Fin 16 := if a = 1 then (if m = 0 then 12 else 1) else if 9 < a then (if 13 < a then (if m = 0 then (if a < 16 then kB2 a m else if 23 < a then kB2 a m else 3) else kB2 a m) else (if m < 1 then 12 else if 4 < m then 12 else 2)) else 0
theorem C_kA (st : CS) : f_C_kindWithoutOperand st = (kA (st.1 7), st) := by
  unfold f_C_kindWithoutOperand kA
  repeat' split
  all_goals rfl
theorem C_kB3 (st : CS) : f_C_kindWithOperand_123 st = (kB3 (st.1 7) (st.1 8), st) := by
  unfold f_C_kindWithOperand_123 kB3
  repeat' split
  all_goals rfl
theorem C_kB2 (st : CS) : f_C_kindWithOperand_102 st = (kB2 (st.1 7) (st.1 8), st) := by
  unfold f_C_kindWithOperand_102 kB2
  rw [C_kB3]
  repeat' split
  all_goals rfl
theorem C_kB (st : CS) : f_C_kindWithOperand st = (kB (st.1 7) (st.1 8), st) := by
  unfold f_C_kindWithOperand kB
  rw [C_kB2]
  repeat' split
  all_goals rfl
def s1V (m : Int32) : Fin 35 := if m = 0 then 1 else if m = 1 then 2 else if m = 2 then 2 else if m = 3 then 6 else if m = 4 then 6 else 2
def s2V (q : Fin 16) (m : Int32) : Fin 35 := if swK q = 1 then s1V m else if swK q = 2 then s1V m else if swK q = 3 then s1V m else if swK q = 4 then 14 else if swK q = 5 then 6 else if swK q = 6 then 6 else if swK q = 7 then 17 else if swK q = 8 then 34 else 18
theorem C_s1 (st : CS) : f_C_secondStepByMode st = (s1V (st.1 8), st) := by
  unfold f_C_secondStepByMode s1V
  repeat' split
  all_goals rfl
theorem C_s2 (st : CS) : f_C_secondStep st = (s2V st.2.2.1 (st.1 8), st) := by
  unfold f_C_secondStep f_C_secondStep_56 s2V
  rw [C_s1]
  repeat' split
  all_goals rfl
def jm86 (a m : Int32) (x : Int32) : Int32 := if x = 0 then (if (if a < 10 then (0 : Int32) else if 13 < a then 0 else 1) = 0 then 0 else if m < 1 then 1 else if m ≤ 4 then 0 else 1) else 1
def jm112 (a m : Int32) : Int32 := if a = 24 then (if m = 3 then 0 else 1) else if a = 25 then (if m = 3 then 0 else 1) else 1
def jmV (a m : Int32) : Int32 := if m = 7 then (if a ≤ 22 then 0 else 1) else if 14 ≤ a then (if a < 16 then jm112 a m else if 23 < a then jm112 a m else if m = 0 then 0 else jm112 a m) else if a = 1 then (if m = 0 then jm86 a m 1 else jm86 a m 0) else jm86 a m 0
theorem M_j53 (rt : MS) (x : Int32) : f_M_isJam_53 rt x = (jm86 (rt.1 14) (rt.1 15) x, rt) := by
  unfold f_M_isJam_53 jm86
  rw [M_isC]
  by_cases q : x = 0
  · rw [if_pos q, if_pos q]
    show (if (if rt.1 14 < 10 then (0 : Int32) else if 13 < rt.1 14 then 0 else 1) = 0 then f_M_isJam_85 rt else if rt.1 15 < 1 then f_M_isJam_81 rt else if rt.1 15 ≤ 4 then f_M_isJam_85 rt else f_M_isJam_81 rt) = _
    generalize (if rt.1 14 < 10 then (0 : Int32) else if 13 < rt.1 14 then 0 else 1) = y
    repeat' split
    all_goals rfl
  · rw [if_neg q, if_neg q]; rfl
theorem M_j112 (rt : MS) : f_M_isJam_112 rt = (jm112 (rt.1 14) (rt.1 15), rt) := by
  unfold f_M_isJam_112 f_M_isJam_130 jm112
  repeat' split
  all_goals rfl
theorem M_jam (rt : MS) : f_M_isJam rt = (jmV (rt.1 14) (rt.1 15), rt) := by
  unfold f_M_isJam f_M_isJam_52 jmV
  rw [M_j112, M_j53, M_j53]
  repeat' split
  all_goals rfl
theorem op_dec : ∀ n, n < 256 → nI n >>> ((3 : Int32) &&& 31) = nI (n / 8) ∧ nI n &&& 7 = nI (n % 8) := by decide +kernel
theorem kq_dec : ∀ k, k < 32 → ∀ j, j < 8 → (if nI j = 7 then kA (nI k) else kB (nI k) (nI j)) = kdN k j := by decide +kernel
theorem jm_dec : ∀ k, k < 32 → ∀ j, j < 8 → jmV (nI k) (nI j) = if kdN k j = 12 then 1 else 0 := by decide +kernel
theorem k13n : ∀ k, k < 32 → 13 < k → ¬ nI k ≤ 13 := by decide +kernel
theorem k99 : ∀ k, k < 32 → ¬ nI k = 99 := by decide +kernel
theorem kd_all : ∀ k, k < 32 → ∀ j, j < 8 → (kdN k j).val ≤ 12 := by decide +kernel
theorem kd_lo : ∀ k, k < 32 → ∀ j, j < 8 → (kdN k j).val ≤ 2 → k ≤ 13 ∧ j ≤ 6 ∧ (j = 0 → kdN k j = 0) := by decide +kernel
theorem nz1 : ∀ k, k < 14 → ∀ j, j < 7 → (kdN k j).val ≤ 2 → ¬ aN k j 1 0 = 0 := by decide +kernel
theorem s2_lo : ∀ q : Fin 16, q.val ≤ 2 → ∀ j, j < 7 → s2V q (nI j) = s1V (nI j) := by decide +kernel
theorem s2_hi : ∀ j, j < 8 → s2V 12 (nI j) = 34 := by decide +kernel
theorem hp_1 (u : MS) (b : Int32) : f_M_happen u 1 b = tV (f_M_isJam (tV (f_M_next (tV (tV u 14 (b >>> ((3 : Int32) &&& 31))) 15 (b &&& 7))) 22 0)).2 13 (f_M_isJam (tV (f_M_next (tV (tV u 14 (b >>> ((3 : Int32) &&& 31))) 15 (b &&& 7))) 22 0)).1 := rfl
theorem C_fetch (u : CS) {k j n : Nat} (hn : n < 256) (ek : k = n / 8) (ej : j = n % 8) : f_C_afterFetch u (nI n) = sS (sK (sV (sV (sV u 4 ((u.1 4 + 1) &&& 65535)) 7 (nI k)) 8 (nI j)) (kdN k j)) (s2V (kdN k j) (nI j)) := by
  obtain ⟨o1, o2⟩ := op_dec n hn
  have hk : k < 32 := by omega
  have hj : j < 8 := by omega
  have e : f_C_afterFetch u (nI n) = (if (nI n &&& 7) = 7 then bP (f_C_kindWithoutOperand (sV (sV (sV u 4 ((u.1 4 + 1) &&& 65535)) 7 (nI n >>> ((3 : Int32) &&& 31))) 8 (nI n &&& 7))) (fun r8 st7 => f_C_afterFetch_43 st7 r8) else bP (f_C_kindWithOperand (sV (sV (sV u 4 ((u.1 4 + 1) &&& 65535)) 7 (nI n >>> ((3 : Int32) &&& 31))) 8 (nI n &&& 7))) (fun r6 st5 => f_C_afterFetch_43 st5 r6)) := rfl
  rw [e, C_kA, C_kB, o1, o2, ← ek, ← ej]
  have e2 : ∀ (v : CS) (q : Fin 16), f_C_afterFetch_43 v q = sS (sK v q) (s2V q (v.1 8)) := by
    intro v q
    unfold f_C_afterFetch_43
    show bP (f_C_secondStep (sK v q)) (fun r11 st10 => bS (sS st10 r11) (fun st12 => st12)) = _
    rw [C_s2]
    rfl
  have e3 := kq_dec k hk j hj
  rw [← e3]
  by_cases q : nI j = 7
  · rw [if_pos q, if_pos q]
    exact e2 _ _
  · rw [if_neg q, if_neg q]
    exact e2 _ _
theorem M_fetch (u : MS) {k j n : Nat} (hn : n < 256) (ek : k = n / 8) (ej : j = n % 8) : f_M_happen u 1 (nI n) = tV (tV (tV (tV (tV u 14 (nI k)) 15 (nI j)) 4 ((u.1 4 + 1) &&& 65535)) 22 0) 13 (if kdN k j = 12 then 1 else 0) := by
  obtain ⟨o1, o2⟩ := op_dec n hn
  rw [hp_1, M_jam, o1, o2, ← ek, ← ej, ← jm_dec k (by omega) j (by omega)]
  rfl
set_option maxHeartbeats 4000000 in
theorem sim_fetch {st : CS} {rt : MS} (hR : RR st rt) (hst : st.2.1 = 0) (h11 : rt.1 11 = 0) (h12 : rt.1 12 = 0) (h13 : rt.1 13 = 0) : Sim st rt := by
  have hc := hR.1
  have hd := hR.2.1
  obtain ⟨⟨e0, e1, e2, e3, e4, e5⟩, ⟨g0, g1, g2, g3, g4, g5⟩, d1, d2, d3, d4, d5, d6⟩ := id hc
  have hd1 : st.1 9 + 1 = rt.1 12 + 1 := by rw [hd]
  have h12' : rt.1 12 + 1 = nI 1 := by rw [h12]; rfl
  refine sim_read hR (ad := st.1 4) (act := 1) (ad_0 hst) (by rw [hst]; rfl) (act_fetch h11 h13 h12) (by rw [pl_1, ← e4, w_and g4]) (fun b seen hb hbe => ?_)
  clear hbe
  have hcn : Rc (sV st 4 ((st.1 4 + 1) &&& 65535)) (tV rt 4 ((rt.1 4 + 1) &&& 65535)) := Rc_next hc
  obtain ⟨n, hn, rfl⟩ := hb
  obtain ⟨k, ek⟩ : ∃ k, k = n / 8 := ⟨_, rfl⟩
  obtain ⟨j, ej⟩ : ∃ j, j = n % 8 := ⟨_, rfl⟩
  have eC : f_C_afterRead (sV st 9 (st.1 9 + 1)) (nI n) = sS (sK (sV (sV (sV (sV st 9 (st.1 9 + 1)) 4 ((st.1 4 + 1) &&& 65535)) 7 (nI k)) 8 (nI j)) (kdN k j)) (s2V (kdN k j) (nI j)) := by
    rw [rd_0 (u := (sV st 9 (st.1 9 + 1))) hst]
    exact C_fetch (sV st 9 (st.1 9 + 1)) hn ek ej
  have hh : f_M_happen (tV (tV rt 23 (st.1 4)) 24 0) 1 (nI n) = tV (tV (tV (tV (tV (tV (tV rt 23 (st.1 4)) 24 0) 14 (nI k)) 15 (nI j)) 4 ((rt.1 4 + 1) &&& 65535)) 22 0) 13 (if kdN k j = 12 then 1 else 0) := M_fetch _ hn ek ej
  have hk : k < 32 := by omega
  have hj : j < 8 := by omega
  clear ek ej
  rw [eC]
  have n99 := k99 k hk
  have hall := kd_all k hk j hj
  by_cases q12 : kdN k j = 12
  · rw [if_pos q12] at hh
    rw [q12]
    exact use_go (a := 32) hh (by decide) (Or.inl n99) (act_jam h11 rfl) (by decide) ⟨hcn, hd1, Or.inr (Or.inl ⟨s2_hi j hj, h11, h12', rfl, n99⟩)⟩ rfl rfl
  · rw [if_neg q12] at hh
    by_cases q2 : (kdN k j).val ≤ 2
    · obtain ⟨k13, j6, j0⟩ := kd_lo k hk j hj q2
      rw [s2_lo (kdN k j) q2 j (by omega)]
      refine use_go hh (by decide) (Or.inl n99) (nx_A (u := (tV (tV (tV (tV (tV (tV (tV rt 23 (st.1 4)) 24 0) 14 (nI k)) 15 (nI j)) 4 ((rt.1 4 + 1) &&& 65535)) 22 0) 13 0)) (d := 1) (h := 0) h11 rfl k13 j6 rfl rfl h12' (by decide) (by decide) rfl (by decide)) (nz1 k (by omega) j (by omega) q2) ⟨hcn, hd1, Sit_A h11 rfl k13 j6 rfl rfl rfl rfl h12' rfl q2 ?_⟩ rfl rfl
      have hjj : j = 0 ∨ j = 1 ∨ j = 2 ∨ j = 3 ∨ j = 4 ∨ j = 5 ∨ j = 6 := by omega
      rcases hjj with rfl | rfl | rfl | rfl | rfl | rfl | rfl
      · exact Or.inl ⟨rfl, rfl, rfl, rfl, j0 rfl⟩
      · exact Or.inr (Or.inl ⟨rfl, Or.inl rfl, rfl, rfl⟩)
      · exact Or.inr (Or.inl ⟨rfl, Or.inr (Or.inl rfl), rfl, rfl⟩)
      · exact Or.inr (Or.inr (Or.inr (Or.inr (Or.inr (Or.inl ⟨rfl, Or.inl rfl, rfl, rfl⟩)))))
      · exact Or.inr (Or.inr (Or.inr (Or.inr (Or.inr (Or.inl ⟨rfl, Or.inr rfl, rfl, rfl⟩)))))
      · exact Or.inr (Or.inl ⟨rfl, Or.inr (Or.inr (Or.inl rfl)), rfl, rfl⟩)
      · exact Or.inr (Or.inl ⟨rfl, Or.inr (Or.inr (Or.inr rfl)), rfl, rfl⟩)
    · have hq : kdN k j = 3 ∨ kdN k j = 4 ∨ kdN k j = 5 ∨ kdN k j = 6 ∨ kdN k j = 7 ∨ kdN k j = 8 ∨ kdN k j = 9 ∨ kdN k j = 10 ∨ kdN k j = 11 := by
        have : ∀ q : Fin 16, q.val ≤ 12 → ¬ q = 12 → ¬ q.val ≤ 2 → q = 3 ∨ q = 4 ∨ q = 5 ∨ q = 6 ∨ q = 7 ∨ q = 8 ∨ q = 9 ∨ q = 10 ∨ q = 11 := by decide
        exact this _ hall q12 q2
      rcases hq with q | q | q | q | q | q | q | q | q
      · obtain ⟨⟨k16, k24⟩, rfl⟩ := kd_3 k hk j hj q
        rw [q]
        refine use_go (a := 2) hh (by decide) (Or.inl n99) (nx_pl (d := 1) h11 rfl h12' (by decide) (Or.inr (by exact k13n k hk (by omega))) (row_br (u := tV (tV (tV (tV (tV (tV (tV (tV rt 23 (st.1 4)) 24 0) 14 (nI k)) 15 (nI 0)) 4 ((rt.1 4 + 1) &&& 65535)) 22 0) 13 0) 12 (rt.1 12 + 1)) k24 k16 rfl rfl) ?_) (by decide) ⟨hcn, hd1, Sit_B h11 rfl k24 k16 rfl rfl rfl rfl h12' rfl (Or.inl ⟨rfl, rfl⟩)⟩ rfl rfl
        split
        · decide +kernel
        · rw [if_pos (by show rt.1 12 + 1 ≤ 1; rw [h12]; decide)]
          decide +kernel
      · obtain ⟨rfl, rfl⟩ := kd_4 k hk j hj q
        refine use_go (a := 2) hh (by decide) (Or.inl n99) (nx_pl (row := 2702) (d := 1) h11 rfl h12' (by decide) (Or.inr (by show ¬ (nI 24) ≤ 13; decide)) (row_24 rfl rfl) (by decide +kernel)) (by decide) ⟨hcn, hd1, Sit_P (k := 24) (j := 3) (d := 1) h11 rfl (by omega) (by decide) rfl rfl rfl rfl h12' rfl (by decide) (Or.inl ⟨rfl, Or.inl ⟨rfl, rfl⟩⟩)⟩ rfl rfl
      · obtain ⟨rfl, rfl⟩ := kd_5 k hk j hj q
        refine use_go (a := 2) hh (by decide) (Or.inl n99) (nx_pl (row := 2617160702) (d := 1) h11 rfl h12' (by decide) (Or.inr (by show ¬ (nI 25) ≤ 13; decide)) (row_25 rfl rfl) (by decide +kernel)) (by decide) ⟨hcn, hd1, Sit_P (k := 25) (j := 3) (d := 1) h11 rfl (by omega) (by decide) rfl rfl rfl rfl h12' rfl (by decide) (Or.inr (Or.inl ⟨rfl, Or.inl ⟨rfl, rfl⟩⟩))⟩ rfl rfl
      · obtain ⟨hk16, rfl⟩ := kd_6 k hk j hj q
        refine use_go (a := 5) hh (by decide) (Or.inl n99) (nx_pl (row := 5) (d := 1) h11 rfl h12' (by decide) (Or.inl rfl) (row_lo hk16 rfl rfl) (by decide +kernel)) (by decide) ⟨hcn, hd1, Sit_P (k := k) (j := 7) (d := 1) h11 rfl (by omega) (by decide) rfl rfl rfl rfl h12' rfl (by rw [q]; decide) (Or.inr (Or.inr (Or.inl ⟨q, by show s2V (kdN k 7) (nI 7) = 18; rw [q]; decide, rfl⟩)))⟩ rfl rfl
      · obtain ⟨rfl | rfl, rfl⟩ := kd_7 k hk j hj q
        · refine use_go (a := 5) hh (by decide) (Or.inl n99) (nx_pl (row := 1905) (d := 1) h11 rfl h12' (by decide) (Or.inl rfl) (row_16 rfl rfl) (by decide +kernel)) (by decide) ⟨hcn, hd1, Sit_P (k := 16) (j := 7) (d := 1) h11 rfl (by omega) (by decide) rfl rfl rfl rfl h12' rfl (by decide) (Or.inr (Or.inr (Or.inr (Or.inl ⟨rfl, Or.inl ⟨rfl, rfl⟩⟩))))⟩ rfl rfl
        · refine use_go (a := 5) hh (by decide) (Or.inl n99) (nx_pl (row := 2005) (d := 1) h11 rfl h12' (by decide) (Or.inl rfl) (row_18 rfl rfl) (by decide +kernel)) (by decide) ⟨hcn, hd1, Sit_P (k := 18) (j := 7) (d := 1) h11 rfl (by omega) (by decide) rfl rfl rfl rfl h12' rfl (by decide) (Or.inr (Or.inr (Or.inr (Or.inl ⟨rfl, Or.inl ⟨rfl, rfl⟩⟩))))⟩ rfl rfl
      · obtain ⟨rfl | rfl, rfl⟩ := kd_8 k hk j hj q
        · refine use_go (a := 5) hh (by decide) (Or.inl n99) (nx_pl (row := 210705) (d := 1) h11 rfl h12' (by decide) (Or.inl rfl) (row_17 rfl rfl) (by decide +kernel)) (by decide) ⟨hcn, hd1, Sit_P (k := 17) (j := 7) (d := 1) h11 rfl (by omega) (by decide) rfl rfl rfl rfl h12' rfl (by decide) (Or.inr (Or.inr (Or.inr (Or.inr (Or.inl ⟨rfl, Or.inl ⟨rfl, rfl⟩⟩)))))⟩ rfl rfl
        · refine use_go (a := 5) hh (by decide) (Or.inl n99) (nx_pl (row := 220705) (d := 1) h11 rfl h12' (by decide) (Or.inl rfl) (row_19 rfl rfl) (by decide +kernel)) (by decide) ⟨hcn, hd1, Sit_P (k := 19) (j := 7) (d := 1) h11 rfl (by omega) (by decide) rfl rfl rfl rfl h12' rfl (by decide) (Or.inr (Or.inr (Or.inr (Or.inr (Or.inl ⟨rfl, Or.inl ⟨rfl, rfl⟩⟩)))))⟩ rfl rfl
      · obtain ⟨rfl, rfl⟩ := kd_9 k hk j hj q
        refine use_go (a := 5) hh (by decide) (Or.inl n99) (nx_pl (row := 2524230705) (d := 1) h11 rfl h12' (by decide) (Or.inl rfl) (row_20 rfl rfl) (by decide +kernel)) (by decide) ⟨hcn, hd1, Sit_P (k := 20) (j := 7) (d := 1) h11 rfl (by omega) (by decide) rfl rfl rfl rfl h12' rfl (by decide) (Or.inr (Or.inr (Or.inr (Or.inr (Or.inr (Or.inl ⟨rfl, Or.inl ⟨rfl, rfl⟩⟩))))))⟩ rfl rfl
      · obtain ⟨rfl, rfl⟩ := kd_10 k hk j hj q
        refine use_go (a := 5) hh (by decide) (Or.inl n99) (nx_pl (row := 2423220705) (d := 1) h11 rfl h12' (by decide) (Or.inl rfl) (row_21 rfl rfl) (by decide +kernel)) (by decide) ⟨hcn, hd1, Sit_P (k := 21) (j := 7) (d := 1) h11 rfl (by omega) (by decide) rfl rfl rfl rfl h12' rfl (by decide) (Or.inr (Or.inr (Or.inr (Or.inr (Or.inr (Or.inr (Or.inl ⟨rfl, Or.inl ⟨rfl, rfl⟩⟩)))))))⟩ rfl rfl
      · obtain ⟨rfl, rfl⟩ := kd_11 k hk j hj q
        refine use_go (a := 4) hh (by decide) (Or.inl n99) (nx_pl (row := 292818171604) (d := 1) h11 rfl h12' (by decide) (Or.inl rfl) (row_22 rfl rfl) (by decide +kernel)) (by decide) ⟨hcn, hd1, Sit_P (k := 22) (j := 7) (d := 1) h11 rfl (by omega) (by decide) rfl rfl rfl rfl h12' rfl (by decide) (Or.inr (Or.inr (Or.inr (Or.inr (Or.inr (Or.inr (Or.inr (⟨rfl, Or.inl ⟨rfl, rfl⟩⟩))))))))⟩ rfl rfl
theorem sim_cycle {st : CS} {rt : MS} (hR : RR st rt) : Sim st rt := by
  rcases id hR.2.2 with ⟨q1, q2, q3, q4⟩ | ⟨q1, q2, q3, q4, q5⟩ | h | h | ⟨h11, h13, k, j, d, hk, hj, h14, h15, h7, h8, h12, hkd, h⟩
  · exact sim_fetch hR q1 q2 q3 q4
  · exact sim_jam hR q1 q2 q3 q4 q5
  · exact sim_int hR h
  · exact sim_res hR h
  · rcases h with ⟨hk', hj', hv, hA⟩ | ⟨q, hB⟩ | ⟨-, hP⟩
    · exact sim_A hR h11 h13 hk' hj' h14 h15 h7 h8 h12 hkd hv hA
    · obtain ⟨⟨k16, k24⟩, rfl⟩ := kd_3 k hk j hj q
      exact sim_B hR h11 h13 k24 k16 h14 h15 h7 h8 h12 (hkd.trans q) hB
    · exact sim_P hR h11 h13 hk hj h14 h15 h7 h8 h12 hkd hP

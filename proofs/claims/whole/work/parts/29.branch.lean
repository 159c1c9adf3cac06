/-! the plain instructions together; branches -/
theorem kd_4 : ∀ k, k < 32 → ∀ j, j < 8 → kdN k j = 4 → k = 24 ∧ j = 3 := by decide +kernel
theorem kd_5 : ∀ k, k < 32 → ∀ j, j < 8 → kdN k j = 5 → k = 25 ∧ j = 3 := by decide +kernel
theorem kd_6 : ∀ k, k < 32 → ∀ j, j < 8 → kdN k j = 6 → k < 16 ∧ j = 7 := by decide +kernel
theorem kd_7 : ∀ k, k < 32 → ∀ j, j < 8 → kdN k j = 7 → (k = 16 ∨ k = 18) ∧ j = 7 := by decide +kernel
theorem kd_8 : ∀ k, k < 32 → ∀ j, j < 8 → kdN k j = 8 → (k = 17 ∨ k = 19) ∧ j = 7 := by decide +kernel
theorem kd_9 : ∀ k, k < 32 → ∀ j, j < 8 → kdN k j = 9 → k = 20 ∧ j = 7 := by decide +kernel
theorem kd_10 : ∀ k, k < 32 → ∀ j, j < 8 → kdN k j = 10 → k = 21 ∧ j = 7 := by decide +kernel
theorem kd_11 : ∀ k, k < 32 → ∀ j, j < 8 → kdN k j = 11 → k = 22 ∧ j = 7 := by decide +kernel
theorem kd_3 : ∀ k, k < 32 → ∀ j, j < 8 → kdN k j = 3 → (16 ≤ k ∧ k < 24) ∧ j = 0 := by decide +kernel
theorem sim_P {st : CS} {rt : MS} {k j d : Nat} (hR : RR st rt) (h11 : rt.1 11 = 0) (h13 : rt.1 13 = 0) (hk : k < 32) (hj : j < 8) (h14 : rt.1 14 = nI k) (h15 : rt.1 15 = nI j) (h7 : st.1 7 = nI k) (h8 : st.1 8 = nI j) (h12 : rt.1 12 = nI d) (hkd : st.2.2.1 = kdN k j) (hP : InP st rt d) : Sim st rt := by
  rcases hP with ⟨q, h⟩ | ⟨q, h⟩ | ⟨q, h⟩ | ⟨q, h⟩ | ⟨q, h⟩ | ⟨q, h⟩ | ⟨q, h⟩ | ⟨q, h⟩
  · obtain ⟨rfl, rfl⟩ := kd_4 k hk j hj (hkd ▸ q)
    rcases h with ⟨hst, rfl⟩ | ⟨hst, rfl, hz⟩
    · exact P24_1 hR h11 h13 h14 h15 h7 h8 q hst h12
    · exact P24_2 hR h11 h13 h14 h15 h7 h8 q hst h12 hz
  · obtain ⟨rfl, rfl⟩ := kd_5 k hk j hj (hkd ▸ q)
    rcases h with ⟨hst, rfl⟩ | ⟨hst, rfl, hz⟩ | ⟨hst, rfl, hz⟩ | ⟨hst, rfl, hz⟩ | ⟨hst, rfl, hz⟩
    · exact P25_1 hR h11 h13 h14 h15 h7 h8 q hst h12
    · exact P25_2 hR h11 h13 h14 h15 h7 h8 q hst h12 hz
    · exact P25_3 hR h11 h13 h14 h15 h7 h8 q hst h12 hz
    · exact P25_4 hR h11 h13 h14 h15 h7 h8 q hst h12 hz
    · exact P25_5 hR h11 h13 h14 h15 h7 h8 q hst h12 hz
  · obtain ⟨hk16, rfl⟩ := kd_6 k hk j hj (hkd ▸ q)
    obtain ⟨hst, rfl⟩ := h
    exact Plo hk16 hR h11 h13 h14 h15 h7 q hst h12
  · obtain ⟨rfl | rfl, rfl⟩ := kd_7 k hk j hj (hkd ▸ q)
    · rcases h with ⟨hst, rfl⟩ | ⟨hst, rfl⟩
      · exact P16_1 hR h11 h13 h14 h15 h7 h8 q hst h12
      · exact P16_2 hR h11 h13 h14 h15 h7 h8 q hst h12
    · rcases h with ⟨hst, rfl⟩ | ⟨hst, rfl⟩
      · exact P18_1 hR h11 h13 h14 h15 h7 h8 q hst h12
      · exact P18_2 hR h11 h13 h14 h15 h7 h8 q hst h12
  · obtain ⟨rfl | rfl, rfl⟩ := kd_8 k hk j hj (hkd ▸ q)
    · rcases h with ⟨hst, rfl⟩ | ⟨hst, rfl⟩ | ⟨hst, rfl⟩
      · exact P17_1 hR h11 h13 h14 h15 h7 h8 q hst h12
      · exact P17_2 hR h11 h13 h14 h15 h7 h8 q hst h12
      · exact P17_3 hR h11 h13 h14 h15 h7 h8 q hst h12
    · rcases h with ⟨hst, rfl⟩ | ⟨hst, rfl⟩ | ⟨hst, rfl⟩
      · exact P19_1 hR h11 h13 h14 h15 h7 h8 q hst h12
      · exact P19_2 hR h11 h13 h14 h15 h7 h8 q hst h12
      · exact P19_3 hR h11 h13 h14 h15 h7 h8 q hst h12
  · obtain ⟨rfl, rfl⟩ := kd_9 k hk j hj (hkd ▸ q)
    rcases h with ⟨hst, rfl⟩ | ⟨hst, rfl⟩ | ⟨hst, rfl⟩ | ⟨hst, rfl, hz⟩ | ⟨hst, rfl⟩
    · exact P20_1 hR h11 h13 h14 h15 h7 h8 q hst h12
    · exact P20_2 hR h11 h13 h14 h15 h7 h8 q hst h12
    · exact P20_3 hR h11 h13 h14 h15 h7 h8 q hst h12
    · exact P20_4 hR h11 h13 h14 h15 h7 h8 q hst h12 hz
    · exact P20_5 hR h11 h13 h14 h15 h7 h8 q hst h12
  · obtain ⟨rfl, rfl⟩ := kd_10 k hk j hj (hkd ▸ q)
    rcases h with ⟨hst, rfl⟩ | ⟨hst, rfl⟩ | ⟨hst, rfl⟩ | ⟨hst, rfl⟩ | ⟨hst, rfl, hz⟩
    · exact P21_1 hR h11 h13 h14 h15 h7 h8 q hst h12
    · exact P21_2 hR h11 h13 h14 h15 h7 h8 q hst h12
    · exact P21_3 hR h11 h13 h14 h15 h7 h8 q hst h12
    · exact P21_4 hR h11 h13 h14 h15 h7 h8 q hst h12
    · exact P21_5 hR h11 h13 h14 h15 h7 h8 q hst h12 hz
  · obtain ⟨rfl, rfl⟩ := kd_11 k hk j hj (hkd ▸ q)
    rcases h with ⟨hst, rfl⟩ | ⟨hst, rfl⟩ | ⟨hst, rfl⟩ | ⟨hst, rfl⟩ | ⟨hst, rfl⟩ | ⟨hst, rfl, hv⟩
    · exact P22_1 hR h11 h13 h14 h15 h7 h8 q hst h12
    · exact P22_2 hR h11 h13 h14 h15 h7 h8 q hst h12
    · exact P22_3 hR h11 h13 h14 h15 h7 h8 q hst h12
    · exact P22_4 hR h11 h13 h14 h15 h7 h8 q hst h12
    · exact P22_5 hR h11 h13 h14 h15 h7 h8 q hst h12
    · exact P22_6 hR h11 h13 h14 h15 h7 h8 q hst h12 hv
-- branches
theorem br_dec : ∀ k, k < 24 → 16 ≤ k → (¬ nI k = 24 ∧ ¬ nI k = 25 ∧ ¬ nI k ≤ 13 ∧ ¬ nI k = 99) := by decide +kernel
theorem row_br {u : MS} {k : Nat} (hk : k < 24) (hk2 : 16 ≤ k) (h15 : u.1 15 = 0) (h14 : u.1 14 = nI k) : f_M_plainRow u = ((if u.1 21 = 0 then 2 else if u.1 12 ≤ 1 then 502 + 0 else if (tgtM u >>> ((8 : Int32) &&& 31)) = (u.1 4 >>> ((8 : Int32) &&& 31)) then 502 + 0 else 502 + 310000), u) := by
  obtain ⟨a1, a2, -, -⟩ := br_dec k hk hk2
  unfold f_M_plainRow
  rw [if_neg (by rw [h15]; decide), h14, if_neg a1, if_neg a2, M_tgt]
  by_cases q1 : u.1 21 = 0
  · rw [if_pos q1, if_pos q1]; rfl
  · rw [if_neg q1, if_neg q1]
    by_cases q2 : u.1 12 ≤ 1
    · rw [if_pos q2, if_pos q2]; rfl
    · rw [if_neg q2, if_neg q2]
      show (if (tgtM u >>> ((8 : Int32) &&& 31)) = (u.1 4 >>> ((8 : Int32) &&& 31)) then _ else _) = _
      split <;> rfl
def tbF (k : Nat) : Int32 := if k < 18 then 128 else if k < 20 then 64 else if k < 22 then 1 else 2
def tbV (k : Nat) (f : Int32) : Int32 := if (if f &&& tbF k = 0 then (0 : Int32) else 1) = nI (k % 2) then 1 else 0
theorem R_tk (st : CS) {k : Nat} (hk : k < 24) (hk2 : 16 ≤ k) : f_R_takesBranch st (nI k) = (tbV k (st.1 5), st) := by
  have e : ∀ (x : Int32) (c : Int32), (if (f_R_has st c).1 = x then f_R_takesBranch_112 (f_R_has st c).2 1 else f_R_takesBranch_112 (f_R_has st c).2 0) = ((if (if st.1 5 &&& c = 0 then (0 : Int32) else 1) = x then 1 else 0), st) := by
    intro x c
    rw [R_has]
    dsimp only
    by_cases q : (if st.1 5 &&& c = 0 then (0 : Int32) else 1) = x
    · rw [if_pos q, if_pos q]; rfl
    · rw [if_neg q, if_neg q]; rfl
  have cs : k = 16 ∨ k = 17 ∨ k = 18 ∨ k = 19 ∨ k = 20 ∨ k = 21 ∨ k = 22 ∨ k = 23 := by omega
  rcases cs with rfl | rfl | rfl | rfl | rfl | rfl | rfl | rfl
  · exact e 0 128
  · exact e 1 128
  · exact e 0 64
  · exact e 1 64
  · exact e 0 1
  · exact e 1 1
  · exact e 0 2
  · exact e 1 2
theorem M_tk {rt : MS} {k : Nat} (hk : k < 24) (hk2 : 16 ≤ k) (h14 : rt.1 14 = nI k) : (f_M_isTaken rt).1 = tbV k (rt.1 5) := by
  have e : ∀ (x : Int32) (c : Int32), (if (f_M_is rt c).1 = x then f_M_isTaken_66 (f_M_is rt c).2 1 else f_M_isTaken_66 (f_M_is rt c).2 0).1 = (if (if rt.1 5 &&& c = 0 then (0 : Int32) else 1) = x then 1 else 0) := by
    intro x c
    rw [M_is]
    dsimp only
    by_cases q : (if rt.1 5 &&& c = 0 then (0 : Int32) else 1) = x
    · rw [if_pos q, if_pos q]; rfl
    · rw [if_neg q, if_neg q]; rfl
  have cs : k = 16 ∨ k = 17 ∨ k = 18 ∨ k = 19 ∨ k = 20 ∨ k = 21 ∨ k = 22 ∨ k = 23 := by omega
  unfold f_M_isTaken
  rw [h14]
  rcases cs with rfl | rfl | rfl | rfl | rfl | rfl | rfl | rfl
  · exact e 0 128
  · exact e 1 128
  · exact e 0 64
  · exact e 1 64
  · exact e 0 1
  · exact e 1 1
  · exact e 0 2
  · exact e 1 2
theorem tbV_01 (k : Nat) (f : Int32) : tbV k f = 0 ∨ tbV k f = 1 := by
  unfold tbV
  by_cases q : (if f &&& tbF k = 0 then (0 : Int32) else 1) = nI (k % 2)
  · rw [if_pos q]; exact Or.inr rfl
  · rw [if_neg q]; exact Or.inl rfl
theorem nI_band (a b : Nat) : nI a &&& nI b = nI (a &&& b) := by
  apply Int32.toBitVec_inj.mp
  show BitVec.ofNat 32 a &&& BitVec.ofNat 32 b = BitVec.ofNat 32 (a &&& b)
  rw [BitVec.ofNat_and]
theorem ff00_dec : ∀ q, q < 256 → (q <<< 8) &&& 65280 = q <<< 8 ∧ q &&& 65280 = 0 := by decide +kernel
theorem ff00 {a : Nat} (ha : a < 65536) : a &&& 65280 = a / 256 * 256 := by
  have h1 : a = (a / 256) <<< 8 ||| a % 256 := by
    rw [← Nat.shiftLeft_add_eq_or_of_lt (i := 8) (Nat.mod_lt _ (by decide)), Nat.shiftLeft_eq, show (2 : Nat) ^ 8 = 256 from rfl]
    omega
  rw [h1, Nat.and_or_distrib_right, (ff00_dec (a / 256) (by omega)).1, (ff00_dec (a % 256) (Nat.mod_lt _ (by decide))).2, Nat.or_zero, ← h1, Nat.shiftLeft_eq]
theorem pgw {p t : Int32} (hp : isW p) (ht : isW t) : (p &&& 65280) ||| (t &&& 255) = (p &&& 65280) + (t &&& 255) ∧ isW ((p &&& 65280) + (t &&& 255)) ∧ ((p &&& 65280) + (t &&& 255) = t ↔ t >>> ((8 : Int32) &&& 31) = p >>> ((8 : Int32) &&& 31)) := by
  obtain ⟨a, ha, rfl⟩ := hp
  obtain ⟨c, hc, rfl⟩ := ht
  have e1 : nI a &&& 65280 = nI (a / 256 * 256) := by rw [show (65280 : Int32) = nI 65280 from rfl, nI_band, ff00 ha]
  have e2 : nI c &&& 255 = nI (c % 256) := pk_andN (by omega) 8 (by decide)
  have e3 : a / 256 * 256 ||| c % 256 = a / 256 * 256 + c % 256 := by
    have h1 : a / 256 * 256 = (a / 256) <<< 8 := (Nat.shiftLeft_eq (a / 256) 8).symm
    rw [h1, Nat.shiftLeft_add_eq_or_of_lt (i := 8) (Nat.mod_lt _ (by decide))]
  rw [e1, e2, nI_bor, e3, nI_add, pk_shrN (by omega) _ 8 (by decide), pk_shrN (by omega) _ 8 (by decide)]
  refine ⟨rfl, ⟨_, by omega, rfl⟩, ?_⟩
  rw [nI_eq (by omega) (by omega), nI_eq (by omega) (by omega)]
  omega
theorem Sit_B {st : CS} {rt : MS} {k d : Nat} (h11 : rt.1 11 = 0) (h13 : rt.1 13 = 0) (hk : k < 24) (hk2 : 16 ≤ k) (h14 : rt.1 14 = nI k) (h15 : rt.1 15 = 0) (h7 : st.1 7 = nI k) (h8 : st.1 8 = 0) (h12 : rt.1 12 = nI d) (hkd : st.2.2.1 = 3) (hB : InB st rt d) : Sit st rt := by
  have e : kdN k 0 = 3 := by
    have : ∀ k, k < 24 → 16 ≤ k → kdN k 0 = 3 := by decide +kernel
    exact this k hk hk2
  exact Or.inr (Or.inr (Or.inr (Or.inr ⟨h11, h13, k, 0, d, by omega, by decide, h14, h15, h7, h8, h12, by rw [e]; exact hkd, Or.inr (Or.inl ⟨e, hB⟩)⟩)))
theorem tgt_W (rt : MS) : isW (tgtM rt) := by
  unfold tgtM
  split
  · exact isW_and _
  · exact isW_and _
theorem dB_dec : ∀ n, n < 256 → (128 ≤ nI n ↔ ¬ nI n ≤ 127) := by decide +kernel
set_option maxHeartbeats 4000000 in
theorem sim_B {st : CS} {rt : MS} {k d : Nat} (hR : RR st rt) (h11 : rt.1 11 = 0) (h13 : rt.1 13 = 0) (hk : k < 24) (hk2 : 16 ≤ k) (h14 : rt.1 14 = nI k) (h15 : rt.1 15 = 0) (h7 : st.1 7 = nI k) (h8 : st.1 8 = 0) (h12 : rt.1 12 = nI d) (hkd : st.2.2.1 = 3) (hB : InB st rt d) : Sim st rt := by
  have hc := hR.1
  have hd := hR.2.1
  obtain ⟨⟨e0, e1, e2, e3, e4, e5⟩, ⟨g0, g1, g2, g3, g4, g5⟩, d1, d2, d3, d4, d5, d6⟩ := id hc
  obtain ⟨-, -, q13, q99⟩ := br_dec k hk hk2
  have hm : rt.1 15 = 7 ∨ ¬ rt.1 14 ≤ 13 := Or.inr (by rw [h14]; exact q13)
  have n99 : ¬ rt.1 14 = 99 := by rw [h14]; exact q99
  rcases hB with ⟨hst, rfl⟩ | ⟨hst, rfl, h21, hzB, ht⟩ | ⟨hst, rfl, h21, hzB, ht, hne, hai⟩
  · have hact : f_M_action rt = (2, rt) := by
      rw [act_plain h11 h13 (by rw [h12]; decide) hm (row_br hk hk2 h15 h14), h12]
      refine congrArg (·, rt) ?_
      split
      · decide +kernel
      · rw [if_pos (by decide)]
        decide +kernel
    refine sim_read hR (ad := st.1 4) (act := 2) (ad_14 hst) (by rw [hst]; rfl) hact (by rw [pl_2, ← e4, w_and g4]) (fun b seen hb hbe => ?_)
    have hh := hp_2 (tV (tV rt 23 (st.1 4)) 24 0) b
    rw [M_tk (rt := f_M_next (tV (tV (tV rt 23 (st.1 4)) 24 0) 16 b)) hk hk2 h14] at hh
    have hh : f_M_happen (tV (tV rt 23 (st.1 4)) 24 0) 2 b = tV (tV (tV (tV (tV rt 23 (st.1 4)) 24 0) 16 b) 4 ((rt.1 4 + 1) &&& 65535)) 21 (tbV k (rt.1 5)) := hh
    have eC : f_C_afterRead (sV st 9 (st.1 9 + 1)) b = (if tbV k (st.1 5) = 0 then f_C_end (sV (sV st 9 (st.1 9 + 1)) 4 ((st.1 4 + 1) &&& 65535)) else (if 128 ≤ b then sS (sV (sV (sV st 9 (st.1 9 + 1)) 4 ((st.1 4 + 1) &&& 65535)) 12 ((((st.1 4 + 1) &&& 65535) + (b - 256)) &&& 65535)) 15 else sS (sV (sV (sV st 9 (st.1 9 + 1)) 4 ((st.1 4 + 1) &&& 65535)) 12 ((((st.1 4 + 1) &&& 65535) + b) &&& 65535)) 15)) := by
      rw [rd_14 (u := sV st 9 (st.1 9 + 1)) hst]
      have e : f_C_afterBranchDistance (sV st 9 (st.1 9 + 1)) b = (if (f_R_takesBranch (sV (sV st 9 (st.1 9 + 1)) 4 ((st.1 4 + 1) &&& 65535)) (st.1 7)).1 = 0 then f_C_end (f_R_takesBranch (sV (sV st 9 (st.1 9 + 1)) 4 ((st.1 4 + 1) &&& 65535)) (st.1 7)).2 else (if 128 ≤ b then f_C_afterBranchDistance_37 (f_R_takesBranch (sV (sV st 9 (st.1 9 + 1)) 4 ((st.1 4 + 1) &&& 65535)) (st.1 7)).2 (b - 256) else f_C_afterBranchDistance_37 (f_R_takesBranch (sV (sV st 9 (st.1 9 + 1)) 4 ((st.1 4 + 1) &&& 65535)) (st.1 7)).2 b)) := rfl
      rw [e, h7, R_tk _ hk hk2]
      rfl
    have hcn : Rc (sV st 4 ((st.1 4 + 1) &&& 65535)) (tV rt 4 ((rt.1 4 + 1) &&& 65535)) := Rc_next hc
    rcases tbV_01 k (rt.1 5) with q | q
    · have q' : tbV k (st.1 5) = 0 := by rw [e5]; exact q
      rw [q] at hh
      rw [eC, if_pos q']
      refine use_end hh (by decide) (Or.inr (nx_pl (row := 2) (d := 2) h11 h13 (show rt.1 12 + 1 = 2 by rw [h12]; decide) (by decide) hm ?_ (by decide +kernel))) rfl (show Rc (sV st 4 ((st.1 4 + 1) &&& 65535)) (tV rt 4 ((rt.1 4 + 1) &&& 65535)) from hcn) h13 rfl rfl
      refine (row_br hk hk2 (by exact h15) (by exact h14)).trans ?_
      exact congrArg (·, _) (if_pos rfl)
    · have q' : ¬ tbV k (st.1 5) = 0 := by rw [e5, q]; decide
      rw [q] at hh
      obtain ⟨n, hn, rfl⟩ := hb
      have hT : (if 128 ≤ nI n then (((st.1 4 + 1) &&& 65535) + (nI n - 256)) &&& 65535 else (((st.1 4 + 1) &&& 65535) + nI n) &&& 65535) = tgtM (tV (tV (tV (tV (tV rt 23 (st.1 4)) 24 0) 16 (nI n)) 4 ((rt.1 4 + 1) &&& 65535)) 21 1) := by
        have e : tgtM (tV (tV (tV (tV (tV rt 23 (st.1 4)) 24 0) 16 (nI n)) 4 ((rt.1 4 + 1) &&& 65535)) 21 1) = (if nI n ≤ 127 then (((rt.1 4 + 1) &&& 65535) + nI n) &&& 65535 else (((rt.1 4 + 1) &&& 65535) + (nI n - 256)) &&& 65535) := rfl
        rw [e, ← e4]
        by_cases qq : nI n ≤ 127
        · rw [if_pos qq, if_neg (fun z => ((dB_dec n hn).mp z) qq)]
        · rw [if_neg qq, if_pos ((dB_dec n hn).mpr qq)]
      have eC2 : f_C_afterRead (sV st 9 (st.1 9 + 1)) (nI n) = sS (sV (sV (sV st 9 (st.1 9 + 1)) 4 ((st.1 4 + 1) &&& 65535)) 12 (tgtM (tV (tV (tV (tV (tV rt 23 (st.1 4)) 24 0) 16 (nI n)) 4 ((rt.1 4 + 1) &&& 65535)) 21 1))) 15 := by
        rw [eC, if_neg q', ← hT]
        split <;> rfl
      rw [eC2]
      refine use_go (a := 5) hh (by decide) (Or.inl n99) ?_ (by decide) ⟨show Rc (sV st 4 ((st.1 4 + 1) &&& 65535)) (tV rt 4 ((rt.1 4 + 1) &&& 65535)) from hcn, by show st.1 9 + 1 = rt.1 12 + 1; rw [hd], Sit_B h11 h13 hk hk2 h14 h15 h7 h8 (show rt.1 12 + 1 = nI 2 by rw [h12]; decide) hkd (Or.inr (Or.inl ⟨rfl, rfl, rfl, ⟨n, hn, rfl⟩, rfl⟩))⟩ rfl rfl
      refine (act_plain (by exact h11) (by exact h13) (by show ¬ rt.1 12 + 1 = 0; rw [h12]; decide) (by exact hm) (row_br hk hk2 (by exact h15) (by exact h14))).trans ?_
      refine congrArg (·, _) ?_
      show digV (if (1 : Int32) = 0 then 2 else if rt.1 12 + 1 ≤ 1 then 502 + 0 else _) (rt.1 12 + 1 - 1) = 5
      rw [h12, if_neg (by decide), if_neg (by decide)]
      split
      · decide +kernel
      · decide +kernel
  · obtain ⟨w1, w2, w3⟩ := pgw g4 (tgt_W rt)
    have hact : f_M_action rt = (5, rt) := by
      rw [act_plain h11 h13 (by rw [h12]; decide) hm (row_br hk hk2 h15 h14), h12]
      refine congrArg (·, rt) ?_
      rw [if_neg (by rw [h21]; decide), if_neg (by decide)]
      split
      · decide +kernel
      · decide +kernel
    refine sim_read hR (ad := st.1 4) (act := 5) (ad_15 hst) (by rw [hst]; rfl) hact (by rw [pl_5, ← e4, w_and g4]) (fun b seen hb hbe => ?_)
    have eC : f_C_afterRead (sV st 9 (st.1 9 + 1)) b = (if ((st.1 4 &&& 65280) + (tgtM rt &&& 255)) = tgtM rt then f_C_end (sV (sV st 9 (st.1 9 + 1)) 4 (tgtM rt &&& 65535)) else sS (sV (sV st 9 (st.1 9 + 1)) 11 ((st.1 4 &&& 65280) + (tgtM rt &&& 255))) 16) := by
      rw [rd_15 (u := sV st 9 (st.1 9 + 1)) hst, ← ht]
      rfl
    have hi : f_M_happen (tV (tV rt 23 (st.1 4)) 24 0) 5 b = (if (tgtM rt >>> ((8 : Int32) &&& 31)) = (rt.1 4 >>> ((8 : Int32) &&& 31)) then tV (tV (tV (tV (tV rt 23 (st.1 4)) 24 0) 3 (rt.1 3)) 4 (tgtM rt)) 14 99 else tV (tV (tV rt 23 (st.1 4)) 24 0) 3 (rt.1 3)) := by
      rw [hp_5]
      unfold f_M_idle
      rw [if_pos (show (tV (tV (tV rt 23 (st.1 4)) 24 0) 3 ((tV (tV rt 23 (st.1 4)) 24 0).1 3)).1 11 = 0 from h11), if_neg (show ¬ (tV (tV (tV rt 23 (st.1 4)) 24 0) 3 ((tV (tV rt 23 (st.1 4)) 24 0).1 3)).1 15 = 7 by show ¬ rt.1 15 = 7; rw [h15]; decide)]
      unfold f_M_idle_33
      rw [if_pos (show (tV (tV (tV rt 23 (st.1 4)) 24 0) 3 ((tV (tV rt 23 (st.1 4)) 24 0).1 3)).1 15 = 0 from h15)]
      simp only [M_tgt]
      rfl
    by_cases q : (tgtM rt >>> ((8 : Int32) &&& 31)) = (rt.1 4 >>> ((8 : Int32) &&& 31))
    · rw [if_pos q] at hi
      have q2 : (st.1 4 &&& 65280) + (tgtM rt &&& 255) = tgtM rt := w3.mpr (by rw [e4]; exact q)
      rw [eC, if_pos q2, w_and (tgt_W rt)]
      exact use_end hi (by decide) (Or.inl ⟨rfl, h11⟩) rfl (show Rc (sV st 4 (tgtM rt)) (tV rt 4 (tgtM rt)) from Rc_pc hc (tgt_W rt)) h13 rfl rfl
    · rw [if_neg q] at hi
      have q2 : ¬ (st.1 4 &&& 65280) + (tgtM rt &&& 255) = tgtM rt := fun z => q (by rw [← e4]; exact w3.mp z)
      rw [eC, if_neg q2]
      refine use_go (a := 31) hi (by decide) (Or.inl n99) ?_ (by decide) ⟨hc, by show st.1 9 + 1 = rt.1 12 + 1; rw [hd], Sit_B h11 h13 hk hk2 h14 h15 h7 h8 (show rt.1 12 + 1 = nI 3 by rw [h12]; decide) hkd (Or.inr (Or.inr ⟨rfl, rfl, h21, hzB, ht, q, by show (st.1 4 &&& 65280) + (tgtM rt &&& 255) = (rt.1 4 &&& 65280) + (tgtM rt &&& 255); rw [e4]⟩))⟩ rfl rfl
      refine (act_plain (by exact h11) (by exact h13) (by show ¬ rt.1 12 + 1 = 0; rw [h12]; decide) (by exact hm) (row_br hk hk2 (by exact h15) (by exact h14))).trans ?_
      refine congrArg (·, _) ?_
      show digV (if rt.1 21 = 0 then 2 else if rt.1 12 + 1 ≤ 1 then 502 + 0 else if (tgtM rt >>> ((8 : Int32) &&& 31)) = (rt.1 4 >>> ((8 : Int32) &&& 31)) then 502 + 0 else 502 + 310000) (rt.1 12 + 1 - 1) = 31
      rw [h12, if_neg (by rw [h21]; decide), if_neg (by decide), if_neg q]
      decide +kernel
  · obtain ⟨w1, w2, w3⟩ := pgw (e4 ▸ g4) (tgt_W rt)
    have hact : f_M_action rt = (31, rt) := by
      rw [act_plain h11 h13 (by rw [h12]; decide) hm (row_br hk hk2 h15 h14), h12]
      refine congrArg (·, rt) ?_
      rw [if_neg (by rw [h21]; decide), if_neg (by decide), if_neg hne]
      decide +kernel
    refine sim_read hR (ad := st.1 11) (act := 31) (ad_16 hst) (by rw [hst]; rfl) hact (by rw [pl_31, hai, w1, w_and w2]) (fun b seen hb hbe => ?_)
    have eC : f_C_afterRead (sV st 9 (st.1 9 + 1)) b = f_C_end (sV (sV st 9 (st.1 9 + 1)) 4 (tgtM rt)) := by
      rw [rd_16 (u := sV st 9 (st.1 9 + 1)) hst]
      have e : f_C_goTo (sV st 9 (st.1 9 + 1)) ((sV st 9 (st.1 9 + 1)).1 12) = f_C_end (sV (sV st 9 (st.1 9 + 1)) 4 (st.1 12 &&& 65535)) := rfl
      rw [e, ht, w_and (tgt_W rt)]
    refine use_end (hp_31 _ b) (by decide) (Or.inr ?_) eC (show Rc (sV st 4 (tgtM rt)) (tV rt 4 (tgtM rt)) from Rc_pc hc (tgt_W rt)) h13 rfl rfl
    refine (act_plain (by exact h11) (by exact h13) (by show ¬ rt.1 12 + 1 = 0; rw [h12]; decide) (by exact hm) (row_br hk hk2 (by exact h15) (by exact h14))).trans ?_
    refine congrArg (·, _) ?_
    show digV (if rt.1 21 = 0 then 2 else if rt.1 12 + 1 ≤ 1 then 502 + 0 else _) (rt.1 12 + 1 - 1) = 0
    rw [h12, if_neg (by rw [h21]; decide), if_neg (by decide)]
    split
    · decide +kernel
    · decide +kernel

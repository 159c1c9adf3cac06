/-! one cycle of an instruction with an operand: helpers -/
theorem Sit_A {st : CS} {rt : MS} {k j d : Nat} (h11 : rt.1 11 = 0) (h13 : rt.1 13 = 0) (hk : k ≤ 13) (hj : j ≤ 6) (h14 : rt.1 14 = nI k) (h15 : rt.1 15 = nI j) (h7 : st.1 7 = nI k) (h8 : st.1 8 = nI j) (h12 : rt.1 12 = nI d) (hkd : st.2.2.1 = kdN k j) (hv : (kdN k j).val ≤ 2) (hA : InA st rt k j d) : Sit st rt :=
  Or.inr (Or.inr (Or.inr (Or.inr ⟨h11, h13, k, j, d, by omega, by omega, h14, h15, h7, h8, h12, hkd, Or.inl ⟨hk, hj, hv, hA⟩⟩)))
theorem kj_dec : (∀ k, k < 14 → nI k ≤ 13 ∧ ¬ nI k = 99) ∧ (∀ j, j < 7 → ¬ nI j = 7) ∧ (∀ d, d < 12 → 0 < d → ¬ nI d = 0) := by decide +kernel
theorem cur_A {rt : MS} {k j d h : Nat} (h11 : rt.1 11 = 0) (h13 : rt.1 13 = 0) (hk : k ≤ 13) (hj : j ≤ 6) (h14 : rt.1 14 = nI k) (h15 : rt.1 15 = nI j) (h12 : rt.1 12 = nI d) (hd : 0 < d) (hd2 : d < 12) (h22 : rt.1 22 = nI h) (hh : h < 2) : f_M_action rt = (aN k j d h, rt) := by
  have e := act_addr (rt := rt) (hv := nI h) h11 h13 (by rw [h12]; exact kj_dec.2.2 d hd2 hd) (by rw [h15]; exact kj_dec.2.1 j (by omega)) (by rw [h14]; exact (kj_dec.1 k (by omega)).1) h22 (by
    have : h = 0 ∨ h = 1 := by omega
    rcases this with rfl | rfl
    · exact Or.inl rfl
    · exact Or.inr rfl)
  rw [e, h12, h14, h15]
  rfl
theorem nx_A {u : MS} {k j d h : Nat} (h11 : u.1 11 = 0) (h13 : u.1 13 = 0) (hk : k ≤ 13) (hj : j ≤ 6) (h14 : u.1 14 = nI k) (h15 : u.1 15 = nI j) (h12 : u.1 12 + 1 = nI d) (hd : 0 < d) (hd2 : d < 12) (h22 : u.1 22 = nI h) (hh : h < 2) : f_M_action (tV u 12 (u.1 12 + 1)) = (aN k j d h, tV u 12 (u.1 12 + 1)) :=
  cur_A (rt := tV u 12 (u.1 12 + 1)) h11 h13 hk hj h14 h15 h12 hd hd2 h22 hh
def accN (q : Fin 16) : Fin 35 := if q = 1 then 10 else if q = 2 then 11 else 9
theorem acc_dec : ∀ q : Fin 16, (if swK q = 2 then (10 : Fin 35) else if swK q = 3 then 11 else 9) = accN q := by decide +kernel
theorem acc_C (u : CS) (a : Int32) : f_C_accessOperandAt u a = sS (sV u 11 a) (accN u.2.2.1) := by
  rw [← acc_dec]
  have e : f_C_accessOperandAt u a = (if swK u.2.2.1 = 2 then sS (sV u 11 a) 10 else if swK u.2.2.1 = 3 then sS (sV u 11 a) 11 else sS (sV u 11 a) 9) := rfl
  rw [e]
  split
  · rfl
  · split <;> rfl
theorem acc_or : ∀ q : Fin 16, q.val ≤ 2 → ((accN q = 9 ∧ q = 0) ∨ (accN q = 10 ∧ q = 1) ∨ (accN q = 11 ∧ q = 2)) := by decide +kernel
theorem nz9 : ∀ k, k < 14 → ∀ j, j < 7 → 1 ≤ j → (kdN k j).val ≤ 2 → ¬ aN k j (njN j + 1) 0 = 0 := by decide +kernel
theorem nz9h : ∀ k, k < 14 → ∀ j, j < 7 → (j = 4 ∨ j = 6) → (kdN k j).val ≤ 2 → ¬ aN k j (njN j + 2) 1 = 0 := by decide +kernel
theorem kd_0 : ∀ k, k < 14 → ∀ j, j < 7 → kdN k j = 0 → k < 10 ∧ k ≠ 1 := by decide +kernel
theorem kd_1 : ∀ k, k < 14 → ∀ j, j < 7 → kdN k j = 1 → k = 1 ∧ 1 ≤ j := by decide +kernel
theorem kd_2 : ∀ k, k < 14 → ∀ j, j < 7 → kdN k j = 2 → 10 ≤ k ∧ (1 ≤ j ∧ j ≤ 4) := by decide +kernel
/-- the operand's address is known now: the next step reads or writes it -/
theorem Sit_acc {st : CS} {rt : MS} {k j d : Nat} {s0 : CS} {a : Int32} (e : st = sS (sV s0 11 a) (accN s0.2.2.1)) (h11 : rt.1 11 = 0) (h13 : rt.1 13 = 0) (hk : k ≤ 13) (hj : j ≤ 6) (h14 : rt.1 14 = nI k) (h15 : rt.1 15 = nI j) (h7 : s0.1 7 = nI k) (h8 : s0.1 8 = nI j) (h12 : rt.1 12 = nI d) (hkd : s0.2.2.1 = kdN k j) (hv : (kdN k j).val ≤ 2) (hj1 : 1 ≤ j) (ha : a = opd rt) (hw : isW (opd rt)) (hdd : (d = njN j + 1 ∧ rt.1 22 = 0) ∨ (d = njN j + 2 ∧ rt.1 22 = 1 ∧ (j = 4 ∨ j = 6))) : Sit st rt := by
  subst e
  refine Sit_A h11 h13 hk hj h14 h15 h7 h8 h12 hkd hv ?_
  refine Or.inr (Or.inr (Or.inr (Or.inr (Or.inr (Or.inr (Or.inr (Or.inr (Or.inl ⟨?_, hj1, ha, hw, hdd⟩))))))))
  have := acc_or (kdN k j) hv
  rcases this with ⟨q1, q2⟩ | ⟨q1, q2⟩ | ⟨q1, q2⟩
  · exact Or.inl ⟨by show accN s0.2.2.1 = 9; rw [hkd]; exact q1, q2⟩
  · exact Or.inr (Or.inl ⟨by show accN s0.2.2.1 = 10; rw [hkd]; exact q1, q2⟩)
  · exact Or.inr (Or.inr ⟨by show accN s0.2.2.1 = 11; rw [hkd]; exact q1, q2⟩)
def hvV (rt : MS) : Int32 := if rt.1 14 = 1 then 1 else if rt.1 14 < 10 then (if opd rt >>> ((8 : Int32) &&& 31) = rt.1 17 then 0 else 1) else if 13 < rt.1 14 then (if opd rt >>> ((8 : Int32) &&& 31) = rt.1 17 then 0 else 1) else 1
theorem M_hf21 (rt : MS) : f_M_isHalf_21 rt = (hvV rt, rt) := by
  unfold f_M_isHalf_21 hvV
  rw [M_isC]
  by_cases q1 : rt.1 14 = 1
  · rw [if_pos q1, if_pos q1]; rfl
  · rw [if_neg q1, if_neg q1]
    by_cases q2 : rt.1 14 < 10
    · rw [if_pos q2, if_pos q2]
      show bP (f_M_operand rt) (fun (r8 : Int32) (st7 : MS) => if (r8 >>> ((8 : Int32) &&& 31)) = (st7.1 17) then (f_M_isHalf_55 st7 0) else (f_M_isHalf_50 st7)) = _
      rw [M_opd]
      show (if opd rt >>> ((8 : Int32) &&& 31) = rt.1 17 then _ else _) = _
      split <;> rfl
    · rw [if_neg q2, if_neg q2]
      by_cases q3 : 13 < rt.1 14
      · rw [if_pos q3, if_pos q3]
        show bP (f_M_operand rt) (fun (r8 : Int32) (st7 : MS) => if (r8 >>> ((8 : Int32) &&& 31)) = (st7.1 17) then (f_M_isHalf_55 st7 0) else (f_M_isHalf_50 st7)) = _
        rw [M_opd]
        show (if opd rt >>> ((8 : Int32) &&& 31) = rt.1 17 then _ else _) = _
        split <;> rfl
      · rw [if_neg q3, if_neg q3]; rfl
theorem M_hf46 {rt : MS} (h : rt.1 15 = 4 ∨ rt.1 15 = 6) : f_M_isHalf rt = (hvV rt, rt) := by
  unfold f_M_isHalf
  by_cases q : rt.1 15 = 4
  · rw [if_pos q]; exact M_hf21 rt
  · rw [if_neg q]
    rcases h with h | h
    · exact absurd h q
    · rw [if_pos h]; exact M_hf21 rt
theorem M_hf0 {rt : MS} (h4 : ¬ rt.1 15 = 4) (h6 : ¬ rt.1 15 = 6) : f_M_isHalf rt = (0, rt) := by
  unfold f_M_isHalf
  rw [if_neg h4, if_neg h6]
  rfl
theorem hp_3 (u : MS) (b : Int32) : f_M_happen u 3 b = tV (f_M_isHalf (f_M_next (tV u 17 b))).2 22 (f_M_isHalf (f_M_next (tV u 17 b))).1 := rfl
theorem hp_10 (u : MS) (b : Int32) : f_M_happen u 10 b = tV (f_M_isHalf (tV u 17 b)).2 22 (f_M_isHalf (tV u 17 b)).1 := rfl
theorem hl_dec : (∀ k, k < 10 → nI k < 10 ∧ (¬ k = 1 → ¬ nI k = 1)) ∧ (∀ k, k < 14 → 10 ≤ k → ¬ nI k = 1 ∧ ¬ nI k < 10 ∧ ¬ 13 < nI k) := by decide +kernel
/-- an address, its page and its half -/
theorem half_dec {y b : Int32} (hy : isW y) (hb : isB b) : ((y &&& 255) ||| (b <<< ((8 : Int32) &&& 31)) = 256 * b + (y &&& 255)) ∧ isW (256 * b + (y &&& 255)) ∧ (y = 256 * b + (y &&& 255) ↔ y >>> ((8 : Int32) &&& 31) = b) := by
  obtain ⟨w1, w2⟩ := word_dec (isB_and y) hb
  have e : (y &&& 255) + 256 * b = 256 * b + (y &&& 255) := Int32.add_comm _ _
  rw [w1, e]
  refine ⟨rfl, e ▸ w2, ?_⟩
  obtain ⟨c, hc, rfl⟩ := hy
  obtain ⟨k, hk, rfl⟩ := hb
  rw [pk_andN (by omega) 8 (by decide), show (256 : Int32) = nI 256 from rfl, pk_mul, nI_add, pk_shrN (by omega) _ 8 (by decide), nI_eq (by omega) (by omega), nI_eq (by omega) (by omega)]
  omega
theorem add255 {z x : Int32} (hz : isB z) (hx : isB x) : ((((z + x) &&& 255) + 1) &&& 255) = (((z + x) + 1) &&& 255) := by
  obtain ⟨n, hn, rfl⟩ := hz
  obtain ⟨m, hm, rfl⟩ := hx
  rw [nI_add, pk_andN (by omega) 8 (by decide), nI_1, nI_1, pk_andN (by omega) 8 (by decide), pk_andN (by omega) 8 (by decide)]
  congr 1
  omega
theorem C_idx (u : CS) (b y : Int32) : f_C_accessIndexed u b y = (if u.2.2.1 = 0 then (if (((u.1 13 + 256 * b) + y) &&& 65535) = 256 * b + ((((u.1 13 + 256 * b) + y) &&& 65535) &&& 255) then f_C_accessOperandAt u (((u.1 13 + 256 * b) + y) &&& 65535) else sS (sV (sV u 12 (((u.1 13 + 256 * b) + y) &&& 65535)) 11 (256 * b + ((((u.1 13 + 256 * b) + y) &&& 65535) &&& 255))) 8) else sS (sV (sV u 12 (((u.1 13 + 256 * b) + y) &&& 65535)) 11 (256 * b + ((((u.1 13 + 256 * b) + y) &&& 65535) &&& 255))) 8) := rfl

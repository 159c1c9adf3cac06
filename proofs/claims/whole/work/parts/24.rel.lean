/-! the relation between class and reference; one cycle, in general -/
def opd (rt : MS) : Int32 := if rt.1 15 = 0 then rt.1 4 else if rt.1 15 = 1 then rt.1 16 else if rt.1 15 = 2 then (rt.1 16 + rt.1 1) &&& 255 else if rt.1 15 = 3 then rt.1 16 ||| (rt.1 17 <<< ((8 : Int32) &&& 31)) else if rt.1 15 = 4 then ((rt.1 16 ||| (rt.1 17 <<< ((8 : Int32) &&& 31))) + rt.1 1) &&& 65535 else if rt.1 15 = 5 then rt.1 18 ||| (rt.1 17 <<< ((8 : Int32) &&& 31)) else ((rt.1 18 ||| (rt.1 17 <<< ((8 : Int32) &&& 31))) + rt.1 2) &&& 65535
theorem M_opd (rt : MS) : f_M_operand rt = (opd rt, rt) := by
  unfold f_M_operand opd
  repeat' split
  all_goals rfl
def hlf (rt : MS) : Int32 := (opd rt &&& 255) ||| (rt.1 17 <<< ((8 : Int32) &&& 31))
theorem M_half (rt : MS) : f_M_half rt = (hlf rt, rt) := by
  unfold f_M_half hlf
  rw [M_opd]
  rfl
def tgtM (rt : MS) : Int32 := if rt.1 16 ≤ 127 then (rt.1 4 + rt.1 16) &&& 65535 else (rt.1 4 + (rt.1 16 - 256)) &&& 65535
theorem M_tgt (rt : MS) : f_M_target rt = (tgtM rt, rt) := by
  unfold f_M_target tgtM
  split <;> rfl
def kdN (k j : Nat) : Fin 16 :=
  if j = 7 then (if k ≤ 15 then 6 else if k = 16 ∨ k = 18 then 7 else if k = 17 ∨ k = 19 then 8 else if k = 20 then 9 else if k = 21 then 10 else if k = 22 then 11 else 12)
  else if k = 1 then (if j = 0 then 12 else 1) else if k ≤ 9 then 0 else if k ≤ 13 then (if 1 ≤ j ∧ j ≤ 4 then 2 else 12)
  else if j = 0 ∧ 16 ≤ k ∧ k ≤ 23 then 3 else if j = 3 ∧ k = 24 then 4 else if j = 3 ∧ k = 25 then 5 else 12
def njN (j : Nat) : Nat := if j = 0 then 0 else if j = 1 then 1 else if j = 5 then 4 else if j = 6 then 3 else 2
def Rd (st : CS) (rt : MS) : Prop := st.2.2.2.1 = rt.2 ∧ (st.2.2.2.2 0 = rt.1 6 ∧ st.2.2.2.2 1 = rt.1 7 ∧ st.2.2.2.2 2 = rt.1 8 ∧ st.2.2.2.2 3 = rt.1 9) ∧ st.1 6 = rt.1 10 ∧ (∀ j, isB (rt.2 j)) ∧ SBm rt ∧ (rt.1 10 = 0 ∨ rt.1 10 = 1)
def Rc (st : CS) (rt : MS) : Prop := E6 st rt ∧ Rg st ∧ Rd st rt
def V6 (st : CS) (rt : MS) : Prop := st.1 13 = rt.1 16 ∧ isB (rt.1 16) ∧ st.1 11 = rt.1 19 + 1 ∧ isW (rt.1 19 + 1)
def Hz (st : CS) (rt : MS) : Prop := st.1 13 = rt.1 16 ∧ isB (rt.1 16)
/-- where an instruction with operand stands -/
def InA (st : CS) (rt : MS) (k j d : Nat) : Prop :=
  (st.2.1 = 1 ∧ j = 0 ∧ d = 1 ∧ rt.1 22 = 0 ∧ kdN k j = 0) ∨
  (st.2.1 = 2 ∧ (j = 1 ∨ j = 2 ∨ j = 5 ∨ j = 6) ∧ d = 1 ∧ rt.1 22 = 0) ∨
  (st.2.1 = 3 ∧ (j = 2 ∨ j = 5) ∧ d = 2 ∧ rt.1 22 = 0 ∧ st.1 11 = rt.1 16 ∧ isB (rt.1 16)) ∨
  (st.2.1 = 4 ∧ rt.1 22 = 0 ∧ isB (rt.1 16) ∧ ((j = 5 ∧ d = 3 ∧ st.1 11 = (rt.1 16 + rt.1 1) &&& 255) ∨ (j = 6 ∧ d = 2 ∧ st.1 11 = rt.1 16))) ∨
  (st.2.1 = 5 ∧ rt.1 22 = 0 ∧ isB (rt.1 16) ∧ isB (rt.1 18) ∧ st.1 13 = rt.1 18 ∧ ((j = 5 ∧ d = 4 ∧ st.1 11 = ((rt.1 16 + rt.1 1) + 1) &&& 255) ∨ (j = 6 ∧ d = 3 ∧ st.1 11 = (rt.1 16 + 1) &&& 255))) ∨
  (st.2.1 = 6 ∧ (j = 3 ∨ j = 4) ∧ d = 1 ∧ rt.1 22 = 0) ∨
  (st.2.1 = 7 ∧ (j = 3 ∨ j = 4) ∧ d = 2 ∧ rt.1 22 = 0 ∧ Hz st rt) ∨
  (st.2.1 = 8 ∧ ((j = 4 ∧ d = 3) ∨ (j = 6 ∧ d = 4)) ∧ rt.1 22 = 1 ∧ st.1 12 = opd rt ∧ isW (opd rt) ∧ st.1 11 = hlf rt ∧ isW (hlf rt)) ∨
  (((st.2.1 = 9 ∧ kdN k j = 0) ∨ (st.2.1 = 10 ∧ kdN k j = 1) ∨ (st.2.1 = 11 ∧ kdN k j = 2)) ∧ 1 ≤ j ∧ st.1 11 = opd rt ∧ isW (opd rt) ∧ ((d = njN j + 1 ∧ rt.1 22 = 0) ∨ (d = njN j + 2 ∧ rt.1 22 = 1 ∧ (j = 4 ∨ j = 6)))) ∨
  (st.2.1 = 12 ∧ kdN k j = 2 ∧ st.1 11 = opd rt ∧ isW (opd rt) ∧ st.1 13 = rt.1 18 ∧ isB (rt.1 18) ∧ ((d = njN j + 2 ∧ rt.1 22 = 0) ∨ (d = njN j + 3 ∧ rt.1 22 = 1 ∧ j = 4))) ∨
  (st.2.1 = 13 ∧ kdN k j = 2 ∧ st.1 11 = opd rt ∧ isW (opd rt) ∧ st.1 13 = rt.1 18 ∧ isB (rt.1 18) ∧ rt.1 20 = chg (nI k) (rt.1 18) ∧ ((d = njN j + 3 ∧ rt.1 22 = 0) ∨ (d = njN j + 4 ∧ rt.1 22 = 1 ∧ j = 4)))
/-- where a branch stands -/
def InB (st : CS) (rt : MS) (d : Nat) : Prop :=
  (st.2.1 = 14 ∧ d = 1) ∨
  (st.2.1 = 15 ∧ d = 2 ∧ rt.1 21 = 1 ∧ isB (rt.1 16) ∧ st.1 12 = tgtM rt) ∨
  (st.2.1 = 16 ∧ d = 3 ∧ rt.1 21 = 1 ∧ isB (rt.1 16) ∧ st.1 12 = tgtM rt ∧ ¬ (tgtM rt >>> ((8 : Int32) &&& 31)) = (rt.1 4 >>> ((8 : Int32) &&& 31)) ∧ st.1 11 = (rt.1 4 &&& 65280) + (tgtM rt &&& 255))
/-- where the others stand, by kind and cycles done -/
def InP (st : CS) (rt : MS) (d : Nat) : Prop :=
  (st.2.2.1 = 4 ∧ ((st.2.1 = 6 ∧ d = 1) ∨ (st.2.1 = 7 ∧ d = 2 ∧ Hz st rt))) ∨
  (st.2.2.1 = 5 ∧ ((st.2.1 = 6 ∧ d = 1) ∨ (st.2.1 = 19 ∧ d = 2 ∧ Hz st rt) ∨ (st.2.1 = 21 ∧ d = 3 ∧ Hz st rt) ∨ (st.2.1 = 22 ∧ d = 4 ∧ Hz st rt) ∨ (st.2.1 = 7 ∧ d = 5 ∧ Hz st rt))) ∨
  (st.2.2.1 = 6 ∧ st.2.1 = 18 ∧ d = 1) ∨
  (st.2.2.1 = 7 ∧ ((st.2.1 = 18 ∧ d = 1) ∨ (st.2.1 = 20 ∧ d = 2))) ∨
  (st.2.2.1 = 8 ∧ ((st.2.1 = 18 ∧ d = 1) ∨ (st.2.1 = 19 ∧ d = 2) ∨ (st.2.1 = 24 ∧ d = 3))) ∨
  (st.2.2.1 = 9 ∧ ((st.2.1 = 18 ∧ d = 1) ∨ (st.2.1 = 19 ∧ d = 2) ∨ (st.2.1 = 25 ∧ d = 3) ∨ (st.2.1 = 26 ∧ d = 4 ∧ Hz st rt) ∨ (st.2.1 = 27 ∧ d = 5))) ∨
  (st.2.2.1 = 10 ∧ ((st.2.1 = 18 ∧ d = 1) ∨ (st.2.1 = 19 ∧ d = 2) ∨ (st.2.1 = 24 ∧ d = 3) ∨ (st.2.1 = 25 ∧ d = 4) ∨ (st.2.1 = 26 ∧ d = 5 ∧ Hz st rt))) ∨
  (st.2.2.1 = 11 ∧ ((st.2.1 = 17 ∧ d = 1) ∨ (st.2.1 = 21 ∧ d = 2) ∨ (st.2.1 = 22 ∧ d = 3) ∨ (st.2.1 = 23 ∧ d = 4) ∨ (st.2.1 = 29 ∧ d = 5) ∨ (st.2.1 = 30 ∧ d = 6 ∧ V6 st rt)))
def InsR (st : CS) (rt : MS) : Prop := rt.1 11 = 0 ∧ rt.1 13 = 0 ∧ ∃ k j d : Nat, k < 32 ∧ j < 8 ∧ rt.1 14 = nI k ∧ rt.1 15 = nI j ∧ st.1 7 = nI k ∧ st.1 8 = nI j ∧ rt.1 12 = nI d ∧ st.2.2.1 = kdN k j ∧
  ((k ≤ 13 ∧ j ≤ 6 ∧ (kdN k j).val ≤ 2 ∧ InA st rt k j d) ∨ (kdN k j = 3 ∧ InB st rt d) ∨ (4 ≤ (kdN k j).val ∧ InP st rt d))
def IntR (st : CS) (rt : MS) : Prop := rt.1 11 = 1 ∧ rt.1 13 = 0 ∧ st.2.2.1 = 13 ∧
  ((st.2.1 = 28 ∧ rt.1 12 = 0) ∨ (st.2.1 = 28 ∧ rt.1 12 = 1) ∨ (st.2.1 = 21 ∧ rt.1 12 = 2) ∨ (st.2.1 = 22 ∧ rt.1 12 = 3) ∨ (st.2.1 = 23 ∧ rt.1 12 = 4) ∨ (st.2.1 = 29 ∧ rt.1 12 = 5) ∨ (st.2.1 = 30 ∧ rt.1 12 = 6 ∧ V6 st rt))
def ResR (st : CS) (rt : MS) : Prop := rt.1 11 = 2 ∧ rt.1 13 = 0 ∧ st.2.2.1 = 14 ∧
  ((st.2.1 = 31 ∧ rt.1 12 = 0) ∨ (st.2.1 = 31 ∧ rt.1 12 = 1) ∨ (st.2.1 = 32 ∧ rt.1 12 = 2) ∨ (st.2.1 = 32 ∧ rt.1 12 = 3) ∨ (st.2.1 = 32 ∧ rt.1 12 = 4) ∨ (st.2.1 = 33 ∧ rt.1 12 = 5) ∨ (st.2.1 = 30 ∧ rt.1 12 = 6 ∧ V6 st rt))
def Sit (st : CS) (rt : MS) : Prop :=
  (st.2.1 = 0 ∧ rt.1 11 = 0 ∧ rt.1 12 = 0 ∧ rt.1 13 = 0) ∨ (st.2.1 = 34 ∧ rt.1 11 = 0 ∧ rt.1 12 = 1 ∧ rt.1 13 = 1 ∧ ¬ rt.1 14 = 99) ∨ IntR st rt ∨ ResR st rt ∨ InsR st rt
def RR (st : CS) (rt : MS) : Prop := Rc st rt ∧ st.1 9 = rt.1 12 ∧ Sit st rt
def Sim (st : CS) (rt : MS) : Prop := ∃ (a : Int32) (st' : CS) (rt' : MS), f_C_runCycle st = (a, st') ∧ f_M_clock rt = (a, rt') ∧ RR st' rt' ∧ st'.1 10 - st.1 10 = rt'.1 26 - rt.1 26
theorem Rc_reads {st : CS} {rt : MS} {a b : Int32} (h : Rc st rt) : Rc st (tV (tV rt 23 a) 24 b) := h
theorem Sit_reads {st : CS} {rt : MS} {a b : Int32} (h : Sit st rt) : Sit st (tV (tV rt 23 a) 24 b) := h
def clkT (act : Int32) (u : MS) : Int32 × MS := if u.1 24 = 0 then f_M_clock_37 u act (uM u (u.1 23)) else f_M_clock_37 u act (u.1 25)
theorem clk_T (rt : MS) : f_M_clock rt = clkT (f_M_action rt).1 (f_M_plan (f_M_action rt).2 (f_M_action rt).1) := rfl
theorem clk_read {rt : MS} {act ad : Int32} (ha : f_M_action rt = (act, rt)) (hp : f_M_plan rt act = tV (tV rt 23 ad) 24 0) :
    f_M_clock rt = if rt.1 8 = 0 then (512 * ad + 0 + uM rt ad, tV (tV rt 23 ad) 24 0) else f_M_clock_101 (tV (tV rt 23 ad) 24 0) act (uM rt ad) (512 * ad + 0 + uM rt ad) := by
  rw [clk_T, ha]
  dsimp only
  rw [hp]
  rfl
theorem clk_write {rt : MS} {act ad v : Int32} (ha : f_M_action rt = (act, rt)) (hp : f_M_plan rt act = tV (tV (tV rt 23 ad) 24 1) 25 v) :
    f_M_clock rt = f_M_clock_101 (tM (tV (tV (tV rt 23 ad) 24 1) 25 v) ad v) act v (512 * ad + 256 + v) := by
  rw [clk_T, ha]
  dsimp only
  rw [hp]
  rfl
theorem fin_go {u h : MS} {act b seen a : Int32} (hh : f_M_happen u act b = h) (hn : ¬ act = 32) (h99 : ¬ h.1 14 = 99 ∨ ¬ h.1 11 = 0) (ha : f_M_action (tV h 12 (h.1 12 + 1)) = (a, tV h 12 (h.1 12 + 1))) (hz : ¬ a = 0) :
    f_M_clock_101 u act b seen = (seen, tV h 12 (h.1 12 + 1)) := by
  unfold f_M_clock_101
  rw [hh]
  show (if act = 32 then f_M_clock_124 h seen 1 else f_M_clock_124 h seen (h.1 12 + 1)) = _
  rw [if_neg hn]
  have e : f_M_clock_143 (tV h 12 (h.1 12 + 1)) seen = (seen, tV h 12 (h.1 12 + 1)) := by
    unfold f_M_clock_143
    rw [ha]
    show (if a = 0 then _ else _) = _
    rw [if_neg hz]
    rfl
  show (if h.1 14 = 99 then (if h.1 11 = 0 then f_M_clock_150 (tV h 12 (h.1 12 + 1)) seen else f_M_clock_143 (tV h 12 (h.1 12 + 1)) seen) else f_M_clock_143 (tV h 12 (h.1 12 + 1)) seen) = _
  rcases h99 with q | q
  · rw [if_neg q]; exact e
  · by_cases q2 : h.1 14 = 99
    · rw [if_pos q2, if_neg q]; exact e
    · rw [if_neg q2]; exact e
theorem fin_end {u h : MS} {act b seen : Int32} (hh : f_M_happen u act b = h) (hn : ¬ act = 32) (h99 : (h.1 14 = 99 ∧ h.1 11 = 0) ∨ f_M_action (tV h 12 (h.1 12 + 1)) = (0, tV h 12 (h.1 12 + 1))) :
    f_M_clock_101 u act b seen = f_M_clock_150 (tV h 12 (h.1 12 + 1)) seen := by
  unfold f_M_clock_101
  rw [hh]
  show (if act = 32 then f_M_clock_124 h seen 1 else f_M_clock_124 h seen (h.1 12 + 1)) = _
  rw [if_neg hn]
  show (if h.1 14 = 99 then (if h.1 11 = 0 then f_M_clock_150 (tV h 12 (h.1 12 + 1)) seen else f_M_clock_143 (tV h 12 (h.1 12 + 1)) seen) else f_M_clock_143 (tV h 12 (h.1 12 + 1)) seen) = _
  rcases h99 with ⟨q1, q2⟩ | ha
  · rw [if_pos q1, if_pos q2]
  · have e : f_M_clock_143 (tV h 12 (h.1 12 + 1)) seen = f_M_clock_150 (tV h 12 (h.1 12 + 1)) seen := by
      unfold f_M_clock_143
      rw [ha]
      rfl
    by_cases q1 : h.1 14 = 99
    · rw [if_pos q1]
      by_cases q2 : h.1 11 = 0
      · rw [if_pos q2]
      · rw [if_neg q2]; exact e
    · rw [if_neg q1]; exact e
theorem run_read {st : CS} {ad : Int32} (ha : f_C_addressOfStep st = (ad, st)) (hw : wrS st.2.1 = 0) :
    f_C_runCycle st = if rP st 2 = 0 then (512 * ad + rM st ad, st) else (512 * ad + rM st ad, f_C_afterRead (sV st 9 (st.1 9 + 1)) (rM st ad)) := by
  unfold f_C_runCycle
  rw [ha]
  show (if wrS st.2.1 = 0 then _ else _) = _
  rw [if_pos hw]
  rfl
theorem run_write {st : CS} {ad v : Int32} (ha : f_C_addressOfStep st = (ad, st)) (hw : ¬ wrS st.2.1 = 0) (hv : f_C_byteToWrite st = (v, st)) :
    f_C_runCycle st = (512 * ad + 256 + v, f_C_afterWrite (sV (sM st ad v) 9 (st.1 9 + 1))) := by
  unfold f_C_runCycle
  rw [ha]
  show (if wrS st.2.1 = 0 then _ else _) = _
  rw [if_neg hw]
  show bP (f_C_byteToWrite st) _ = _
  rw [hv]
  rfl
theorem sim_read {st : CS} {rt : MS} {ad act : Int32} (hR : RR st rt) (hca : f_C_addressOfStep st = (ad, st)) (hw : wrS st.2.1 = 0) (hact : f_M_action rt = (act, rt)) (hpl : f_M_plan rt act = tV (tV rt 23 ad) 24 0)
    (hgo : ∀ b seen : Int32, isB b → b = uM rt ad → ∃ rt' : MS, f_M_clock_101 (tV (tV rt 23 ad) 24 0) act b seen = (seen, rt') ∧ RR (f_C_afterRead (sV st 9 (st.1 9 + 1)) b) rt' ∧ (f_C_afterRead (sV st 9 (st.1 9 + 1)) b).1 10 - st.1 10 = rt'.1 26 - rt.1 26) : Sim st rt := by
  obtain ⟨hc, hd, hs⟩ := hR
  have hmem : rM st ad = uM rt ad := by unfold rM uM; rw [hc.2.2.1]
  have hrdy : rP st 2 = rt.1 8 := hc.2.2.2.1.2.2.1
  have hB : isB (uM rt ad) := hc.2.2.2.2.2.1 _
  unfold Sim
  rw [run_read hca hw, clk_read hact hpl, hrdy, hmem, Int32.add_zero]
  by_cases h : rt.1 8 = 0
  · rw [if_pos h, if_pos h]
    exact ⟨_, _, _, rfl, rfl, ⟨Rc_reads hc, hd, Sit_reads hs⟩, by rw [Int32.sub_self]; exact (Int32.sub_self _).symm⟩
  · rw [if_neg h, if_neg h]
    obtain ⟨rt', h1, h2, h3⟩ := hgo (uM rt ad) (512 * ad + uM rt ad) hB rfl
    exact ⟨_, _, rt', rfl, h1, h2, h3⟩
theorem sim_write {st : CS} {rt : MS} {ad act v : Int32} (hR : RR st rt) (hca : f_C_addressOfStep st = (ad, st)) (hw : ¬ wrS st.2.1 = 0) (hv : f_C_byteToWrite st = (v, st)) (hact : f_M_action rt = (act, rt)) (hpl : f_M_plan rt act = tV (tV (tV rt 23 ad) 24 1) 25 v)
    (hgo : ∀ seen : Int32, ∃ rt' : MS, f_M_clock_101 (tM (tV (tV (tV rt 23 ad) 24 1) 25 v) ad v) act v seen = (seen, rt') ∧ RR (f_C_afterWrite (sV (sM st ad v) 9 (st.1 9 + 1))) rt' ∧ (f_C_afterWrite (sV (sM st ad v) 9 (st.1 9 + 1))).1 10 - st.1 10 = rt'.1 26 - rt.1 26) : Sim st rt := by
  unfold Sim
  rw [run_write hca hw hv, clk_write hact hpl]
  obtain ⟨rt', h1, h2, h3⟩ := hgo (512 * ad + 256 + v)
  exact ⟨_, _, rt', rfl, h1, h2, h3⟩

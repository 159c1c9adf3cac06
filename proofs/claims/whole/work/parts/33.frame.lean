/-! the reference's clock leaves the mark of a throw alone -/
theorem tv27 {k : Nat} (h : k ≠ 27) (st : MS) (x : Int32) : (tV st k x).1 27 = st.1 27 := by
  show (if 27 = k then x else st.1 27) = st.1 27
  rw [if_neg (fun e => h e.symm)]
theorem fr_ite {c : Prop} [Decidable c] {a b : MS} {z : Int32} (ha : a.1 27 = z) (hb : b.1 27 = z) : (if c then a else b).1 27 = z := by
  split
  · exact ha
  · exact hb
theorem fr_bS {α : Type} {x : α} {f : α → MS} {z : Int32} (h : (f x).1 27 = z) : (bS x f).1 27 = z := h
theorem fr_bP {α : Type} {x : α × MS} {f : α → MS → MS} {z : Int32} (h : (f x.1 x.2).1 27 = z) : (bP x f).1 27 = z := h
theorem tm27 (st : MS) (i x : Int32) : (tM st i x).1 27 = st.1 27 := rfl
set_option maxHeartbeats 8000000 in
set_option maxRecDepth 100000 in
theorem fr_digit (st : MS) (v0 : Int64) (v2 : Int32) : (f_M_digit st v0 v2).2.1 27 = st.1 27 := by
  unfold f_M_digit
  try simp only [bS, bP]
  repeat' split
  all_goals first
    | rfl
    | simp (disch := decide) only [tv27, tm27]
set_option maxHeartbeats 8000000 in
set_option maxRecDepth 100000 in
theorem fr_lengthOf (st : MS) (v0 : Int64) : (f_M_lengthOf st v0).2.1 27 = st.1 27 := by
  unfold f_M_lengthOf
  try simp only [bS, bP]
  repeat' split
  all_goals first
    | rfl
    | simp (disch := decide) only [tv27, tm27]
set_option maxHeartbeats 8000000 in
set_option maxRecDepth 100000 in
theorem fr_target_24 (st : MS) (s0 : Int32) : (f_M_target_24 st s0).2.1 27 = st.1 27 := by
  unfold f_M_target_24
  try simp only [bS, bP]
  repeat' split
  all_goals first
    | rfl
    | simp (disch := decide) only [tv27, tm27]
set_option maxHeartbeats 8000000 in
set_option maxRecDepth 100000 in
theorem fr_target (st : MS)  : (f_M_target st ).2.1 27 = st.1 27 := by
  unfold f_M_target
  try simp only [bS, bP]
  repeat' split
  all_goals first
    | rfl
    | simp (disch := decide) only [tv27, tm27, fr_target_24]
set_option maxHeartbeats 8000000 in
set_option maxRecDepth 100000 in
theorem fr_plainRow_163 (st : MS) (s0 : Int64) : (f_M_plainRow_163 st s0).2.1 27 = st.1 27 := by
  unfold f_M_plainRow_163
  try simp only [bS, bP]
  repeat' split
  all_goals first
    | rfl
    | simp (disch := decide) only [tv27, tm27]
set_option maxHeartbeats 8000000 in
set_option maxRecDepth 100000 in
theorem fr_plainRow_162 (st : MS) (s0 : Int64) (s1 : Int64) : (f_M_plainRow_162 st s0 s1).2.1 27 = st.1 27 := by
  unfold f_M_plainRow_162
  try simp only [bS, bP]
  repeat' split
  all_goals first
    | rfl
    | simp (disch := decide) only [tv27, tm27, fr_plainRow_163]
set_option maxHeartbeats 8000000 in
set_option maxRecDepth 100000 in
theorem fr_plainRow_161 (st : MS) (s0 : Int64) : (f_M_plainRow_161 st s0).2.1 27 = st.1 27 := by
  unfold f_M_plainRow_161
  try simp only [bS, bP]
  repeat' split
  all_goals first
    | rfl
    | simp (disch := decide) only [tv27, tm27, fr_plainRow_162]
set_option maxHeartbeats 8000000 in
set_option maxRecDepth 100000 in
theorem fr_plainRow (st : MS)  : (f_M_plainRow st ).2.1 27 = st.1 27 := by
  unfold f_M_plainRow
  try simp only [bS, bP]
  repeat' split
  all_goals first
    | rfl
    | simp (disch := decide) only [tv27, tm27, fr_target, fr_plainRow_163, fr_plainRow_162, fr_plainRow_161]
set_option maxHeartbeats 8000000 in
set_option maxRecDepth 100000 in
theorem fr_addressRow_54 (st : MS)  : (f_M_addressRow_54 st ).2.1 27 = st.1 27 := by
  unfold f_M_addressRow_54
  try simp only [bS, bP]
  repeat' split
  all_goals first
    | rfl
    | simp (disch := decide) only [tv27, tm27]
set_option maxHeartbeats 8000000 in
set_option maxRecDepth 100000 in
theorem fr_addressRow (st : MS)  : (f_M_addressRow st ).2.1 27 = st.1 27 := by
  unfold f_M_addressRow
  try simp only [bS, bP]
  repeat' split
  all_goals first
    | rfl
    | simp (disch := decide) only [tv27, tm27, fr_addressRow_54]
set_option maxHeartbeats 8000000 in
set_option maxRecDepth 100000 in
theorem fr_isChange_23 (st : MS) (s0 : Int32) : (f_M_isChange_23 st s0).2.1 27 = st.1 27 := by
  unfold f_M_isChange_23
  try simp only [bS, bP]
  repeat' split
  all_goals first
    | rfl
    | simp (disch := decide) only [tv27, tm27]
set_option maxHeartbeats 8000000 in
set_option maxRecDepth 100000 in
theorem fr_isChange_22 (st : MS)  : (f_M_isChange_22 st ).2.1 27 = st.1 27 := by
  unfold f_M_isChange_22
  try simp only [bS, bP]
  repeat' split
  all_goals first
    | rfl
    | simp (disch := decide) only [tv27, tm27, fr_isChange_23]
set_option maxHeartbeats 8000000 in
set_option maxRecDepth 100000 in
theorem fr_isChange (st : MS)  : (f_M_isChange st ).2.1 27 = st.1 27 := by
  unfold f_M_isChange
  try simp only [bS, bP]
  repeat' split
  all_goals first
    | rfl
    | simp (disch := decide) only [tv27, tm27, fr_isChange_23, fr_isChange_22]
set_option maxHeartbeats 8000000 in
set_option maxRecDepth 100000 in
theorem fr_access_67 (st : MS) (s0 : Int32) : (f_M_access_67 st s0).2.1 27 = st.1 27 := by
  unfold f_M_access_67
  try simp only [bS, bP]
  repeat' split
  all_goals first
    | rfl
    | simp (disch := decide) only [tv27, tm27]
set_option maxHeartbeats 8000000 in
set_option maxRecDepth 100000 in
theorem fr_access_56 (st : MS) (s0 : Int32) : (f_M_access_56 st s0).2.1 27 = st.1 27 := by
  unfold f_M_access_56
  try simp only [bS, bP]
  repeat' split
  all_goals first
    | rfl
    | simp (disch := decide) only [tv27, tm27]
set_option maxHeartbeats 8000000 in
set_option maxRecDepth 100000 in
theorem fr_access_18 (st : MS) (s0 : Int32) : (f_M_access_18 st s0).2.1 27 = st.1 27 := by
  unfold f_M_access_18
  try simp only [bS, bP]
  repeat' split
  all_goals first
    | rfl
    | simp (disch := decide) only [tv27, tm27]
set_option maxHeartbeats 8000000 in
set_option maxRecDepth 100000 in
theorem fr_access (st : MS) (v1 : Int32) : (f_M_access st v1).2.1 27 = st.1 27 := by
  unfold f_M_access
  try simp only [bS, bP]
  repeat' split
  all_goals first
    | rfl
    | simp (disch := decide) only [tv27, tm27, fr_isChange, fr_access_67, fr_access_56, fr_access_18]
set_option maxHeartbeats 8000000 in
set_option maxRecDepth 100000 in
theorem fr_action_168 (st : MS) (s0 : Int32) : (f_M_action_168 st s0).2.1 27 = st.1 27 := by
  unfold f_M_action_168
  try simp only [bS, bP]
  repeat' split
  all_goals first
    | rfl
    | simp (disch := decide) only [tv27, tm27]
set_option maxHeartbeats 8000000 in
set_option maxRecDepth 100000 in
theorem fr_action_153 (st : MS) (v3 : Int32) (v4 : Int32) : (f_M_action_153 st v3 v4).2.1 27 = st.1 27 := by
  unfold f_M_action_153
  try simp only [bS, bP]
  repeat' split
  all_goals first
    | rfl
    | simp (disch := decide) only [tv27, tm27, fr_access, fr_action_168]
set_option maxHeartbeats 8000000 in
set_option maxRecDepth 100000 in
theorem fr_action_130 (st : MS) (v3 : Int32) (s0 : Int32) : (f_M_action_130 st v3 s0).2.1 27 = st.1 27 := by
  unfold f_M_action_130
  try simp only [bS, bP]
  repeat' split
  all_goals first
    | rfl
    | simp (disch := decide) only [tv27, tm27, fr_action_168, fr_action_153]
set_option maxHeartbeats 8000000 in
set_option maxRecDepth 100000 in
theorem fr_action_75 (st : MS)  : (f_M_action_75 st ).2.1 27 = st.1 27 := by
  unfold f_M_action_75
  try simp only [bS, bP]
  repeat' split
  all_goals first
    | rfl
    | simp (disch := decide) only [tv27, tm27, fr_digit, fr_plainRow]
set_option maxHeartbeats 8000000 in
set_option maxRecDepth 100000 in
theorem fr_action (st : MS)  : (f_M_action st ).2.1 27 = st.1 27 := by
  unfold f_M_action
  try simp only [bS, bP]
  repeat' split
  all_goals first
    | rfl
    | simp (disch := decide) only [tv27, tm27, fr_digit, fr_lengthOf, fr_addressRow, fr_action_130, fr_action_75]
set_option maxHeartbeats 8000000 in
set_option maxRecDepth 100000 in
theorem fr_reads (st : MS) (v1 : Int32) : (f_M_reads st v1).1 27 = st.1 27 := by
  unfold f_M_reads
  try simp only [bS, bP]
  repeat' split
  all_goals first
    | rfl
    | simp (disch := decide) only [tv27, tm27]
set_option maxHeartbeats 8000000 in
set_option maxRecDepth 100000 in
theorem fr_operand (st : MS)  : (f_M_operand st ).2.1 27 = st.1 27 := by
  unfold f_M_operand
  try simp only [bS, bP]
  repeat' split
  all_goals first
    | rfl
    | simp (disch := decide) only [tv27, tm27]
set_option maxHeartbeats 8000000 in
set_option maxRecDepth 100000 in
theorem fr_half (st : MS)  : (f_M_half st ).2.1 27 = st.1 27 := by
  unfold f_M_half
  try simp only [bS, bP]
  repeat' split
  all_goals first
    | rfl
    | simp (disch := decide) only [tv27, tm27, fr_operand]
set_option maxHeartbeats 8000000 in
set_option maxRecDepth 100000 in
theorem fr_push (st : MS) (v1 : Int32) : (f_M_push st v1).1 27 = st.1 27 := by
  unfold f_M_push
  try simp only [bS, bP]
  repeat' split
  all_goals first
    | rfl
    | simp (disch := decide) only [tv27, tm27]
set_option maxHeartbeats 8000000 in
set_option maxRecDepth 100000 in
theorem fr_planWrite_162 (st : MS)  : (f_M_planWrite_162 st ).1 27 = st.1 27 := by
  unfold f_M_planWrite_162
  try simp only [bS, bP]
  repeat' split
  all_goals first
    | rfl
    | simp (disch := decide) only [tv27, tm27]
set_option maxHeartbeats 8000000 in
set_option maxRecDepth 100000 in
theorem fr_planWrite_159 (st : MS) (s0 : Int32) : (f_M_planWrite_159 st s0).1 27 = st.1 27 := by
  unfold f_M_planWrite_159
  try simp only [bS, bP]
  repeat' split
  all_goals first
    | rfl
    | simp (disch := decide) only [tv27, tm27, fr_planWrite_162]
set_option maxHeartbeats 8000000 in
set_option maxRecDepth 100000 in
theorem fr_planWrite_83 (st : MS) (s0 : Int32) (s1 : Int32) : (f_M_planWrite_83 st s0 s1).1 27 = st.1 27 := by
  unfold f_M_planWrite_83
  try simp only [bS, bP]
  repeat' split
  all_goals first
    | rfl
    | simp (disch := decide) only [tv27, tm27, fr_push, fr_planWrite_162]
set_option maxHeartbeats 8000000 in
set_option maxRecDepth 100000 in
theorem fr_planWrite (st : MS) (v1 : Int32) : (f_M_planWrite st v1).1 27 = st.1 27 := by
  unfold f_M_planWrite
  try simp only [bS, bP]
  repeat' split
  all_goals first
    | rfl
    | simp (disch := decide) only [tv27, tm27, fr_operand, fr_push, fr_planWrite_162, fr_planWrite_159, fr_planWrite_83]
set_option maxHeartbeats 8000000 in
set_option maxRecDepth 100000 in
theorem fr_plan_386 (st : MS)  : (f_M_plan_386 st ).1 27 = st.1 27 := by
  unfold f_M_plan_386
  try simp only [bS, bP]
  repeat' split
  all_goals first
    | rfl
    | simp (disch := decide) only [tv27, tm27]
set_option maxHeartbeats 8000000 in
set_option maxRecDepth 100000 in
theorem fr_plan_381 (st : MS) (v1 : Int32) : (f_M_plan_381 st v1).1 27 = st.1 27 := by
  unfold f_M_plan_381
  try simp only [bS, bP]
  repeat' split
  all_goals first
    | rfl
    | simp (disch := decide) only [tv27, tm27, fr_planWrite, fr_plan_386]
set_option maxHeartbeats 8000000 in
set_option maxRecDepth 100000 in
theorem fr_plan_330 (st : MS) (s0 : Int32) : (f_M_plan_330 st s0).1 27 = st.1 27 := by
  unfold f_M_plan_330
  try simp only [bS, bP]
  repeat' split
  all_goals first
    | rfl
    | simp (disch := decide) only [tv27, tm27, fr_reads, fr_plan_386]
set_option maxHeartbeats 8000000 in
set_option maxRecDepth 100000 in
theorem fr_plan_281 (st : MS)  : (f_M_plan_281 st ).1 27 = st.1 27 := by
  unfold f_M_plan_281
  try simp only [bS, bP]
  repeat' split
  all_goals first
    | rfl
    | simp (disch := decide) only [tv27, tm27, fr_reads, fr_plan_386]
set_option maxHeartbeats 8000000 in
set_option maxRecDepth 100000 in
theorem fr_plan_270 (st : MS)  : (f_M_plan_270 st ).1 27 = st.1 27 := by
  unfold f_M_plan_270
  try simp only [bS, bP]
  repeat' split
  all_goals first
    | rfl
    | simp (disch := decide) only [tv27, tm27, fr_reads, fr_operand, fr_plan_386]
set_option maxHeartbeats 8000000 in
set_option maxRecDepth 100000 in
theorem fr_plan_264 (st : MS) (s0 : Int32) : (f_M_plan_264 st s0).1 27 = st.1 27 := by
  unfold f_M_plan_264
  try simp only [bS, bP]
  repeat' split
  all_goals first
    | rfl
    | simp (disch := decide) only [tv27, tm27, fr_reads, fr_plan_386]
set_option maxHeartbeats 8000000 in
set_option maxRecDepth 100000 in
theorem fr_plan_221 (st : MS) (s0 : Int32) : (f_M_plan_221 st s0).1 27 = st.1 27 := by
  unfold f_M_plan_221
  try simp only [bS, bP]
  repeat' split
  all_goals first
    | rfl
    | simp (disch := decide) only [tv27, tm27, fr_reads, fr_plan_386]
set_option maxHeartbeats 8000000 in
set_option maxRecDepth 100000 in
theorem fr_plan_166 (st : MS)  : (f_M_plan_166 st ).1 27 = st.1 27 := by
  unfold f_M_plan_166
  try simp only [bS, bP]
  repeat' split
  all_goals first
    | rfl
    | simp (disch := decide) only [tv27, tm27, fr_reads, fr_plan_386]
set_option maxHeartbeats 8000000 in
set_option maxRecDepth 100000 in
theorem fr_plan_144 (st : MS)  : (f_M_plan_144 st ).1 27 = st.1 27 := by
  unfold f_M_plan_144
  try simp only [bS, bP]
  repeat' split
  all_goals first
    | rfl
    | simp (disch := decide) only [tv27, tm27, fr_reads, fr_plan_386]
set_option maxHeartbeats 8000000 in
set_option maxRecDepth 100000 in
theorem fr_plan (st : MS) (v1 : Int32) : (f_M_plan st v1).1 27 = st.1 27 := by
  unfold f_M_plan
  repeat' (first | with_reducible refine fr_ite ?_ ?_ | with_reducible refine fr_bS ?_ | with_reducible refine fr_bP ?_)
  all_goals first
    | simp (disch := decide) only [tv27, tm27, fr_target, fr_reads, fr_half, fr_plan_386, fr_plan_381, fr_plan_330, fr_plan_281, fr_plan_270, fr_plan_264, fr_plan_221, fr_plan_166, fr_plan_144]
    | rfl
set_option maxHeartbeats 8000000 in
set_option maxRecDepth 100000 in
theorem fr_next (st : MS)  : (f_M_next st ).1 27 = st.1 27 := by
  unfold f_M_next
  try simp only [bS, bP]
  repeat' split
  all_goals first
    | rfl
    | simp (disch := decide) only [tv27, tm27]
set_option maxHeartbeats 8000000 in
set_option maxRecDepth 100000 in
theorem fr_isJam_143 (st : MS) (s0 : Int32) : (f_M_isJam_143 st s0).2.1 27 = st.1 27 := by
  unfold f_M_isJam_143
  try simp only [bS, bP]
  repeat' split
  all_goals first
    | rfl
    | simp (disch := decide) only [tv27, tm27]
set_option maxHeartbeats 8000000 in
set_option maxRecDepth 100000 in
theorem fr_isJam_142 (st : MS)  : (f_M_isJam_142 st ).2.1 27 = st.1 27 := by
  unfold f_M_isJam_142
  try simp only [bS, bP]
  repeat' split
  all_goals first
    | rfl
    | simp (disch := decide) only [tv27, tm27, fr_isJam_143]
set_option maxHeartbeats 8000000 in
set_option maxRecDepth 100000 in
theorem fr_isJam_138 (st : MS)  : (f_M_isJam_138 st ).2.1 27 = st.1 27 := by
  unfold f_M_isJam_138
  try simp only [bS, bP]
  repeat' split
  all_goals first
    | rfl
    | simp (disch := decide) only [tv27, tm27, fr_isJam_143]
set_option maxHeartbeats 8000000 in
set_option maxRecDepth 100000 in
theorem fr_isJam_130 (st : MS)  : (f_M_isJam_130 st ).2.1 27 = st.1 27 := by
  unfold f_M_isJam_130
  try simp only [bS, bP]
  repeat' split
  all_goals first
    | rfl
    | simp (disch := decide) only [tv27, tm27, fr_isJam_142, fr_isJam_138]
set_option maxHeartbeats 8000000 in
set_option maxRecDepth 100000 in
theorem fr_isJam_112 (st : MS)  : (f_M_isJam_112 st ).2.1 27 = st.1 27 := by
  unfold f_M_isJam_112
  try simp only [bS, bP]
  repeat' split
  all_goals first
    | rfl
    | simp (disch := decide) only [tv27, tm27, fr_isJam_138, fr_isJam_130]
set_option maxHeartbeats 8000000 in
set_option maxRecDepth 100000 in
theorem fr_isJam_86 (st : MS) (s0 : Int32) : (f_M_isJam_86 st s0).2.1 27 = st.1 27 := by
  unfold f_M_isJam_86
  try simp only [bS, bP]
  repeat' split
  all_goals first
    | rfl
    | simp (disch := decide) only [tv27, tm27]
set_option maxHeartbeats 8000000 in
set_option maxRecDepth 100000 in
theorem fr_isJam_85 (st : MS)  : (f_M_isJam_85 st ).2.1 27 = st.1 27 := by
  unfold f_M_isJam_85
  try simp only [bS, bP]
  repeat' split
  all_goals first
    | rfl
    | simp (disch := decide) only [tv27, tm27, fr_isJam_86]
set_option maxHeartbeats 8000000 in
set_option maxRecDepth 100000 in
theorem fr_isJam_81 (st : MS)  : (f_M_isJam_81 st ).2.1 27 = st.1 27 := by
  unfold f_M_isJam_81
  try simp only [bS, bP]
  repeat' split
  all_goals first
    | rfl
    | simp (disch := decide) only [tv27, tm27, fr_isJam_86]
set_option maxHeartbeats 8000000 in
set_option maxRecDepth 100000 in
theorem fr_isJam_53 (st : MS) (s0 : Int32) : (f_M_isJam_53 st s0).2.1 27 = st.1 27 := by
  unfold f_M_isJam_53
  try simp only [bS, bP]
  repeat' split
  all_goals first
    | rfl
    | simp (disch := decide) only [tv27, tm27, fr_isChange, fr_isJam_85, fr_isJam_81]
set_option maxHeartbeats 8000000 in
set_option maxRecDepth 100000 in
theorem fr_isJam_52 (st : MS)  : (f_M_isJam_52 st ).2.1 27 = st.1 27 := by
  unfold f_M_isJam_52
  try simp only [bS, bP]
  repeat' split
  all_goals first
    | rfl
    | simp (disch := decide) only [tv27, tm27, fr_isJam_53]
set_option maxHeartbeats 8000000 in
set_option maxRecDepth 100000 in
theorem fr_isJam_23 (st : MS) (s0 : Int32) : (f_M_isJam_23 st s0).2.1 27 = st.1 27 := by
  unfold f_M_isJam_23
  try simp only [bS, bP]
  repeat' split
  all_goals first
    | rfl
    | simp (disch := decide) only [tv27, tm27]
set_option maxHeartbeats 8000000 in
set_option maxRecDepth 100000 in
theorem fr_isJam (st : MS)  : (f_M_isJam st ).2.1 27 = st.1 27 := by
  unfold f_M_isJam
  try simp only [bS, bP]
  repeat' split
  all_goals first
    | rfl
    | simp (disch := decide) only [tv27, tm27, fr_isJam_142, fr_isJam_112, fr_isJam_53, fr_isJam_52, fr_isJam_23]
set_option maxHeartbeats 8000000 in
set_option maxRecDepth 100000 in
theorem fr_is_14 (st : MS) (s0 : Int32) : (f_M_is_14 st s0).2.1 27 = st.1 27 := by
  unfold f_M_is_14
  try simp only [bS, bP]
  repeat' split
  all_goals first
    | rfl
    | simp (disch := decide) only [tv27, tm27]
set_option maxHeartbeats 8000000 in
set_option maxRecDepth 100000 in
theorem fr_is (st : MS) (v1 : Int32) : (f_M_is st v1).2.1 27 = st.1 27 := by
  unfold f_M_is
  try simp only [bS, bP]
  repeat' split
  all_goals first
    | rfl
    | simp (disch := decide) only [tv27, tm27, fr_is_14]
set_option maxHeartbeats 8000000 in
set_option maxRecDepth 100000 in
theorem fr_isTaken_66 (st : MS) (s0 : Int32) : (f_M_isTaken_66 st s0).2.1 27 = st.1 27 := by
  unfold f_M_isTaken_66
  try simp only [bS, bP]
  repeat' split
  all_goals first
    | rfl
    | simp (disch := decide) only [tv27, tm27]
set_option maxHeartbeats 8000000 in
set_option maxRecDepth 100000 in
theorem fr_isTaken_58 (st : MS) (s0 : Int32) (s1 : Int32) : (f_M_isTaken_58 st s0 s1).2.1 27 = st.1 27 := by
  unfold f_M_isTaken_58
  try simp only [bS, bP]
  repeat' split
  all_goals first
    | rfl
    | simp (disch := decide) only [tv27, tm27, fr_isTaken_66]
set_option maxHeartbeats 8000000 in
set_option maxRecDepth 100000 in
theorem fr_isTaken_40 (st : MS) (v1 : Int32) (s0 : Int32) : (f_M_isTaken_40 st v1 s0).2.1 27 = st.1 27 := by
  unfold f_M_isTaken_40
  try simp only [bS, bP]
  repeat' split
  all_goals first
    | rfl
    | simp (disch := decide) only [tv27, tm27, fr_is, fr_isTaken_58]
set_option maxHeartbeats 8000000 in
set_option maxRecDepth 100000 in
theorem fr_isTaken (st : MS)  : (f_M_isTaken st ).2.1 27 = st.1 27 := by
  unfold f_M_isTaken
  try simp only [bS, bP]
  repeat' split
  all_goals first
    | rfl
    | simp (disch := decide) only [tv27, tm27, fr_isTaken_40]
set_option maxHeartbeats 8000000 in
set_option maxRecDepth 100000 in
theorem fr_isHalf_55 (st : MS) (s0 : Int32) : (f_M_isHalf_55 st s0).2.1 27 = st.1 27 := by
  unfold f_M_isHalf_55
  try simp only [bS, bP]
  repeat' split
  all_goals first
    | rfl
    | simp (disch := decide) only [tv27, tm27]
set_option maxHeartbeats 8000000 in
set_option maxRecDepth 100000 in
theorem fr_isHalf_50 (st : MS)  : (f_M_isHalf_50 st ).2.1 27 = st.1 27 := by
  unfold f_M_isHalf_50
  try simp only [bS, bP]
  repeat' split
  all_goals first
    | rfl
    | simp (disch := decide) only [tv27, tm27, fr_isHalf_55]
set_option maxHeartbeats 8000000 in
set_option maxRecDepth 100000 in
theorem fr_isHalf_21 (st : MS)  : (f_M_isHalf_21 st ).2.1 27 = st.1 27 := by
  unfold f_M_isHalf_21
  try simp only [bS, bP]
  repeat' split
  all_goals first
    | rfl
    | simp (disch := decide) only [tv27, tm27, fr_isChange, fr_operand, fr_isHalf_55, fr_isHalf_50]
set_option maxHeartbeats 8000000 in
set_option maxRecDepth 100000 in
theorem fr_isHalf (st : MS)  : (f_M_isHalf st ).2.1 27 = st.1 27 := by
  unfold f_M_isHalf
  try simp only [bS, bP]
  repeat' split
  all_goals first
    | rfl
    | simp (disch := decide) only [tv27, tm27, fr_isHalf_55, fr_isHalf_21]
set_option maxHeartbeats 8000000 in
set_option maxRecDepth 100000 in
theorem fr_put_22 (st : MS) (s0 : Int32) : (f_M_put_22 st s0).1 27 = st.1 27 := by
  unfold f_M_put_22
  try simp only [bS, bP]
  repeat' split
  all_goals first
    | rfl
    | simp (disch := decide) only [tv27, tm27]
set_option maxHeartbeats 8000000 in
set_option maxRecDepth 100000 in
theorem fr_put (st : MS) (v1 : Int32) (v2 : Int32) : (f_M_put st v1 v2).1 27 = st.1 27 := by
  unfold f_M_put
  try simp only [bS, bP]
  repeat' split
  all_goals first
    | rfl
    | simp (disch := decide) only [tv27, tm27, fr_put_22]
set_option maxHeartbeats 8000000 in
set_option maxRecDepth 100000 in
theorem fr_mark_29 (st : MS) (v1 : Int32) (s0 : Int32) (s1 : Int32) : (f_M_mark_29 st v1 s0 s1).2.1 27 = st.1 27 := by
  unfold f_M_mark_29
  try simp only [bS, bP]
  repeat' split
  all_goals first
    | rfl
    | simp (disch := decide) only [tv27, tm27, fr_put]
set_option maxHeartbeats 8000000 in
set_option maxRecDepth 100000 in
theorem fr_mark_15 (st : MS) (v1 : Int32) (s0 : Int32) (s1 : Int32) : (f_M_mark_15 st v1 s0 s1).2.1 27 = st.1 27 := by
  unfold f_M_mark_15
  try simp only [bS, bP]
  repeat' split
  all_goals first
    | rfl
    | simp (disch := decide) only [tv27, tm27, fr_put, fr_mark_29]
set_option maxHeartbeats 8000000 in
set_option maxRecDepth 100000 in
theorem fr_mark (st : MS) (v1 : Int32) : (f_M_mark st v1).2.1 27 = st.1 27 := by
  unfold f_M_mark
  try simp only [bS, bP]
  repeat' split
  all_goals first
    | rfl
    | simp (disch := decide) only [tv27, tm27, fr_mark_15]
set_option maxHeartbeats 8000000 in
set_option maxRecDepth 100000 in
theorem fr_addDecimal_184 (st : MS) (v3 : Int32) (v4 : Int32) (s0 : Int32) (s1 : Int32) : (f_M_addDecimal_184 st v3 v4 s0 s1).2.1 27 = st.1 27 := by
  unfold f_M_addDecimal_184
  try simp only [bS, bP]
  repeat' split
  all_goals first
    | rfl
    | simp (disch := decide) only [tv27, tm27, fr_put]
set_option maxHeartbeats 8000000 in
set_option maxRecDepth 100000 in
theorem fr_addDecimal_168 (st : MS) (v3 : Int32) (s0 : Int32) : (f_M_addDecimal_168 st v3 s0).2.1 27 = st.1 27 := by
  unfold f_M_addDecimal_168
  try simp only [bS, bP]
  repeat' split
  all_goals first
    | rfl
    | simp (disch := decide) only [tv27, tm27, fr_addDecimal_184]
set_option maxHeartbeats 8000000 in
set_option maxRecDepth 100000 in
theorem fr_addDecimal_148 (st : MS) (v3 : Int32) (v4 : Int32) (s0 : Int32) (s1 : Int32) : (f_M_addDecimal_148 st v3 v4 s0 s1).2.1 27 = st.1 27 := by
  unfold f_M_addDecimal_148
  try simp only [bS, bP]
  repeat' split
  all_goals first
    | rfl
    | simp (disch := decide) only [tv27, tm27, fr_put, fr_addDecimal_168]
set_option maxHeartbeats 8000000 in
set_option maxRecDepth 100000 in
theorem fr_addDecimal_147 (st : MS) (v3 : Int32) (v4 : Int32) (s0 : Int32) : (f_M_addDecimal_147 st v3 v4 s0).2.1 27 = st.1 27 := by
  unfold f_M_addDecimal_147
  try simp only [bS, bP]
  repeat' split
  all_goals first
    | rfl
    | simp (disch := decide) only [tv27, tm27, fr_addDecimal_148]
set_option maxHeartbeats 8000000 in
set_option maxRecDepth 100000 in
theorem fr_addDecimal_103 (st : MS) (v1 : Int32) (v3 : Int32) (v4 : Int32) (s0 : Int32) (s1 : Int32) : (f_M_addDecimal_103 st v1 v3 v4 s0 s1).2.1 27 = st.1 27 := by
  unfold f_M_addDecimal_103
  try simp only [bS, bP]
  repeat' split
  all_goals first
    | rfl
    | simp (disch := decide) only [tv27, tm27, fr_put, fr_addDecimal_148, fr_addDecimal_147]
set_option maxHeartbeats 8000000 in
set_option maxRecDepth 100000 in
theorem fr_addDecimal_83 (st : MS) (v1 : Int32) (v3 : Int32) (v4 : Int32) (s0 : Int32) (s1 : Int32) : (f_M_addDecimal_83 st v1 v3 v4 s0 s1).2.1 27 = st.1 27 := by
  unfold f_M_addDecimal_83
  try simp only [bS, bP]
  repeat' split
  all_goals first
    | rfl
    | simp (disch := decide) only [tv27, tm27, fr_put, fr_addDecimal_103]
set_option maxHeartbeats 8000000 in
set_option maxRecDepth 100000 in
theorem fr_addDecimal_58 (st : MS) (v1 : Int32) (v2 : Int32) (v3 : Int32) (s0 : Int32) (s1 : Int32) : (f_M_addDecimal_58 st v1 v2 v3 s0 s1).2.1 27 = st.1 27 := by
  unfold f_M_addDecimal_58
  try simp only [bS, bP]
  repeat' split
  all_goals first
    | rfl
    | simp (disch := decide) only [tv27, tm27, fr_addDecimal_83]
set_option maxHeartbeats 8000000 in
set_option maxRecDepth 100000 in
theorem fr_addDecimal_36 (st : MS) (v1 : Int32) (v2 : Int32) (s0 : Int32) : (f_M_addDecimal_36 st v1 v2 s0).2.1 27 = st.1 27 := by
  unfold f_M_addDecimal_36
  try simp only [bS, bP]
  repeat' split
  all_goals first
    | rfl
    | simp (disch := decide) only [tv27, tm27, fr_addDecimal_58]
set_option maxHeartbeats 8000000 in
set_option maxRecDepth 100000 in
theorem fr_addDecimal (st : MS) (v1 : Int32) : (f_M_addDecimal st v1).2.1 27 = st.1 27 := by
  unfold f_M_addDecimal
  try simp only [bS, bP]
  repeat' split
  all_goals first
    | rfl
    | simp (disch := decide) only [tv27, tm27, fr_addDecimal_36]
set_option maxHeartbeats 8000000 in
set_option maxRecDepth 100000 in
theorem fr_add_71 (st : MS) (v2 : Int32) (s0 : Int32) (s1 : Int32) : (f_M_add_71 st v2 s0 s1).2.1 27 = st.1 27 := by
  unfold f_M_add_71
  try simp only [bS, bP]
  repeat' split
  all_goals first
    | rfl
    | simp (disch := decide) only [tv27, tm27, fr_put, fr_mark]
set_option maxHeartbeats 8000000 in
set_option maxRecDepth 100000 in
theorem fr_add_70 (st : MS) (v2 : Int32) (s0 : Int32) : (f_M_add_70 st v2 s0).2.1 27 = st.1 27 := by
  unfold f_M_add_70
  try simp only [bS, bP]
  repeat' split
  all_goals first
    | rfl
    | simp (disch := decide) only [tv27, tm27, fr_add_71]
set_option maxHeartbeats 8000000 in
set_option maxRecDepth 100000 in
theorem fr_add_28 (st : MS) (v1 : Int32) (v2 : Int32) (s0 : Int32) (s1 : Int32) : (f_M_add_28 st v1 v2 s0 s1).2.1 27 = st.1 27 := by
  unfold f_M_add_28
  try simp only [bS, bP]
  repeat' split
  all_goals first
    | rfl
    | simp (disch := decide) only [tv27, tm27, fr_put, fr_add_71, fr_add_70]
set_option maxHeartbeats 8000000 in
set_option maxRecDepth 100000 in
theorem fr_add (st : MS) (v1 : Int32) : (f_M_add st v1).2.1 27 = st.1 27 := by
  unfold f_M_add
  try simp only [bS, bP]
  repeat' split
  all_goals first
    | rfl
    | simp (disch := decide) only [tv27, tm27, fr_add_28]
set_option maxHeartbeats 8000000 in
set_option maxRecDepth 100000 in
theorem fr_subtract_113 (st : MS) (s0 : Int32) : (f_M_subtract_113 st s0).2.1 27 = st.1 27 := by
  unfold f_M_subtract_113
  try simp only [bS, bP]
  repeat' split
  all_goals first
    | rfl
    | simp (disch := decide) only [tv27, tm27]
set_option maxHeartbeats 8000000 in
set_option maxRecDepth 100000 in
theorem fr_subtract_74 (st : MS) (v1 : Int32) (v3 : Int32) (s0 : Int32) : (f_M_subtract_74 st v1 v3 s0).2.1 27 = st.1 27 := by
  unfold f_M_subtract_74
  try simp only [bS, bP]
  repeat' split
  all_goals first
    | rfl
    | simp (disch := decide) only [tv27, tm27, fr_is, fr_add, fr_subtract_113]
set_option maxHeartbeats 8000000 in
set_option maxRecDepth 100000 in
theorem fr_subtract_58 (st : MS) (v1 : Int32) (v4 : Int32) (s0 : Int32) : (f_M_subtract_58 st v1 v4 s0).2.1 27 = st.1 27 := by
  unfold f_M_subtract_58
  try simp only [bS, bP]
  repeat' split
  all_goals first
    | rfl
    | simp (disch := decide) only [tv27, tm27, fr_subtract_74]
set_option maxHeartbeats 8000000 in
set_option maxRecDepth 100000 in
theorem fr_subtract_43 (st : MS) (v1 : Int32) (v3 : Int32) (s0 : Int32) (s1 : Int32) : (f_M_subtract_43 st v1 v3 s0 s1).2.1 27 = st.1 27 := by
  unfold f_M_subtract_43
  try simp only [bS, bP]
  repeat' split
  all_goals first
    | rfl
    | simp (disch := decide) only [tv27, tm27, fr_subtract_58]
set_option maxHeartbeats 8000000 in
set_option maxRecDepth 100000 in
theorem fr_subtract (st : MS) (v1 : Int32) : (f_M_subtract st v1).2.1 27 = st.1 27 := by
  unfold f_M_subtract
  try simp only [bS, bP]
  repeat' split
  all_goals first
    | rfl
    | simp (disch := decide) only [tv27, tm27, fr_subtract_43]
set_option maxHeartbeats 8000000 in
set_option maxRecDepth 100000 in
theorem fr_use_217 (st : MS)  : (f_M_use_217 st ).1 27 = st.1 27 := by
  unfold f_M_use_217
  try simp only [bS, bP]
  repeat' split
  all_goals first
    | rfl
    | simp (disch := decide) only [tv27, tm27]
set_option maxHeartbeats 8000000 in
set_option maxRecDepth 100000 in
theorem fr_use_208 (st : MS) (v1 : Int32) : (f_M_use_208 st v1).1 27 = st.1 27 := by
  unfold f_M_use_208
  try simp only [bS, bP]
  repeat' split
  all_goals first
    | rfl
    | simp (disch := decide) only [tv27, tm27, fr_mark, fr_use_217]
set_option maxHeartbeats 8000000 in
set_option maxRecDepth 100000 in
theorem fr_use_175 (st : MS) (v1 : Int32) (s0 : Int32) (s1 : Int32) : (f_M_use_175 st v1 s0 s1).1 27 = st.1 27 := by
  unfold f_M_use_175
  try simp only [bS, bP]
  repeat' split
  all_goals first
    | rfl
    | simp (disch := decide) only [tv27, tm27, fr_put, fr_mark, fr_use_217]
set_option maxHeartbeats 8000000 in
set_option maxRecDepth 100000 in
theorem fr_use_91 (st : MS) (s0 : Int32) : (f_M_use_91 st s0).1 27 = st.1 27 := by
  unfold f_M_use_91
  try simp only [bS, bP]
  repeat' split
  all_goals first
    | rfl
    | simp (disch := decide) only [tv27, tm27, fr_use_217]
set_option maxHeartbeats 8000000 in
set_option maxRecDepth 100000 in
theorem fr_use (st : MS) (v1 : Int32) : (f_M_use st v1).1 27 = st.1 27 := by
  unfold f_M_use
  try simp only [bS, bP]
  repeat' split
  all_goals first
    | rfl
    | simp (disch := decide) only [tv27, tm27, fr_is, fr_mark, fr_addDecimal, fr_add, fr_subtract, fr_use_217, fr_use_208, fr_use_175, fr_use_91]
set_option maxHeartbeats 8000000 in
set_option maxRecDepth 100000 in
theorem fr_changed_60 (st : MS) (s0 : Int32) : (f_M_changed_60 st s0).2.1 27 = st.1 27 := by
  unfold f_M_changed_60
  try simp only [bS, bP]
  repeat' split
  all_goals first
    | rfl
    | simp (disch := decide) only [tv27, tm27]
set_option maxHeartbeats 8000000 in
set_option maxRecDepth 100000 in
theorem fr_changed (st : MS) (v1 : Int32) : (f_M_changed st v1).2.1 27 = st.1 27 := by
  unfold f_M_changed
  try simp only [bS, bP]
  repeat' split
  all_goals first
    | rfl
    | simp (disch := decide) only [tv27, tm27, fr_changed_60]
set_option maxHeartbeats 8000000 in
set_option maxRecDepth 100000 in
theorem fr_plain_302 (st : MS)  : (f_M_plain_302 st ).1 27 = st.1 27 := by
  unfold f_M_plain_302
  try simp only [bS, bP]
  repeat' split
  all_goals first
    | rfl
    | simp (disch := decide) only [tv27, tm27]
set_option maxHeartbeats 8000000 in
set_option maxRecDepth 100000 in
theorem fr_plain_285 (st : MS) (s0 : Int32) (s1 : Int32) : (f_M_plain_285 st s0 s1).1 27 = st.1 27 := by
  unfold f_M_plain_285
  try simp only [bS, bP]
  repeat' split
  all_goals first
    | rfl
    | simp (disch := decide) only [tv27, tm27, fr_put, fr_plain_302]
set_option maxHeartbeats 8000000 in
set_option maxRecDepth 100000 in
theorem fr_plain_268 (st : MS)  : (f_M_plain_268 st ).1 27 = st.1 27 := by
  unfold f_M_plain_268
  try simp only [bS, bP]
  repeat' split
  all_goals first
    | rfl
    | simp (disch := decide) only [tv27, tm27, fr_plain_285]
set_option maxHeartbeats 8000000 in
set_option maxRecDepth 100000 in
theorem fr_plain_262 (st : MS) (s0 : Int32) (s1 : Int32) : (f_M_plain_262 st s0 s1).1 27 = st.1 27 := by
  unfold f_M_plain_262
  try simp only [bS, bP]
  repeat' split
  all_goals first
    | rfl
    | simp (disch := decide) only [tv27, tm27, fr_put, fr_plain_302]
set_option maxHeartbeats 8000000 in
set_option maxRecDepth 100000 in
theorem fr_plain_246 (st : MS)  : (f_M_plain_246 st ).1 27 = st.1 27 := by
  unfold f_M_plain_246
  try simp only [bS, bP]
  repeat' split
  all_goals first
    | rfl
    | simp (disch := decide) only [tv27, tm27, fr_plain_262]
set_option maxHeartbeats 8000000 in
set_option maxRecDepth 100000 in
theorem fr_plain_240 (st : MS) (s0 : Int32) (s1 : Int32) : (f_M_plain_240 st s0 s1).1 27 = st.1 27 := by
  unfold f_M_plain_240
  try simp only [bS, bP]
  repeat' split
  all_goals first
    | rfl
    | simp (disch := decide) only [tv27, tm27, fr_put, fr_plain_302]
set_option maxHeartbeats 8000000 in
set_option maxRecDepth 100000 in
theorem fr_plain_224 (st : MS)  : (f_M_plain_224 st ).1 27 = st.1 27 := by
  unfold f_M_plain_224
  try simp only [bS, bP]
  repeat' split
  all_goals first
    | rfl
    | simp (disch := decide) only [tv27, tm27, fr_plain_240]
set_option maxHeartbeats 8000000 in
set_option maxRecDepth 100000 in
theorem fr_plain (st : MS)  : (f_M_plain st ).1 27 = st.1 27 := by
  unfold f_M_plain
  repeat' (first | with_reducible refine fr_ite ?_ ?_ | with_reducible refine fr_bS ?_ | with_reducible refine fr_bP ?_)
  all_goals first
    | simp (disch := decide) only [tv27, tm27, fr_mark, fr_plain_302, fr_plain_268, fr_plain_246, fr_plain_224]
    | rfl
set_option maxHeartbeats 8000000 in
set_option maxRecDepth 100000 in
theorem fr_idle_71 (st : MS)  : (f_M_idle_71 st ).1 27 = st.1 27 := by
  unfold f_M_idle_71
  try simp only [bS, bP]
  repeat' split
  all_goals first
    | rfl
    | simp (disch := decide) only [tv27, tm27]
set_option maxHeartbeats 8000000 in
set_option maxRecDepth 100000 in
theorem fr_idle_33 (st : MS)  : (f_M_idle_33 st ).1 27 = st.1 27 := by
  unfold f_M_idle_33
  try simp only [bS, bP]
  repeat' split
  all_goals first
    | rfl
    | simp (disch := decide) only [tv27, tm27, fr_target, fr_idle_71]
set_option maxHeartbeats 8000000 in
set_option maxRecDepth 100000 in
theorem fr_idle (st : MS)  : (f_M_idle st ).1 27 = st.1 27 := by
  unfold f_M_idle
  try simp only [bS, bP]
  repeat' split
  all_goals first
    | rfl
    | simp (disch := decide) only [tv27, tm27, fr_plain, fr_idle_71, fr_idle_33]
set_option maxHeartbeats 8000000 in
set_option maxRecDepth 100000 in
theorem fr_happenStack_350 (st : MS)  : (f_M_happenStack_350 st ).1 27 = st.1 27 := by
  unfold f_M_happenStack_350
  try simp only [bS, bP]
  repeat' split
  all_goals first
    | rfl
    | simp (disch := decide) only [tv27, tm27]
set_option maxHeartbeats 8000000 in
set_option maxRecDepth 100000 in
theorem fr_happenStack_316 (st : MS) (v2 : Int32) (s0 : Int32) : (f_M_happenStack_316 st v2 s0).1 27 = st.1 27 := by
  unfold f_M_happenStack_316
  try simp only [bS, bP]
  repeat' split
  all_goals first
    | rfl
    | simp (disch := decide) only [tv27, tm27, fr_happenStack_350]
set_option maxHeartbeats 8000000 in
set_option maxRecDepth 100000 in
theorem fr_happenStack_291 (st : MS) (v2 : Int32) (s0 : Int32) : (f_M_happenStack_291 st v2 s0).1 27 = st.1 27 := by
  unfold f_M_happenStack_291
  try simp only [bS, bP]
  repeat' split
  all_goals first
    | rfl
    | simp (disch := decide) only [tv27, tm27, fr_happenStack_316]
set_option maxHeartbeats 8000000 in
set_option maxRecDepth 100000 in
theorem fr_happenStack_290 (st : MS) (v2 : Int32) : (f_M_happenStack_290 st v2).1 27 = st.1 27 := by
  unfold f_M_happenStack_290
  try simp only [bS, bP]
  repeat' split
  all_goals first
    | rfl
    | simp (disch := decide) only [tv27, tm27, fr_happenStack_291]
set_option maxHeartbeats 8000000 in
set_option maxRecDepth 100000 in
theorem fr_happenStack_83 (st : MS) (v1 : Int32) (v2 : Int32) (s0 : Int32) : (f_M_happenStack_83 st v1 v2 s0).1 27 = st.1 27 := by
  unfold f_M_happenStack_83
  repeat' (first | with_reducible refine fr_ite ?_ ?_ | with_reducible refine fr_bS ?_ | with_reducible refine fr_bP ?_)
  all_goals first
    | simp (disch := decide) only [tv27, tm27, fr_mark, fr_idle, fr_happenStack_350, fr_happenStack_291, fr_happenStack_290]
    | rfl
set_option maxHeartbeats 8000000 in
set_option maxRecDepth 100000 in
theorem fr_happenStack_48 (st : MS) (v1 : Int32) (v2 : Int32) : (f_M_happenStack_48 st v1 v2).1 27 = st.1 27 := by
  unfold f_M_happenStack_48
  try simp only [bS, bP]
  repeat' split
  all_goals first
    | rfl
    | simp (disch := decide) only [tv27, tm27, fr_happenStack_83]
set_option maxHeartbeats 8000000 in
set_option maxRecDepth 100000 in
theorem fr_happenStack_35 (st : MS) (v1 : Int32) (v2 : Int32) (v3 : Int32) (s0 : Int32) : (f_M_happenStack_35 st v1 v2 v3 s0).1 27 = st.1 27 := by
  unfold f_M_happenStack_35
  try simp only [bS, bP]
  repeat' split
  all_goals first
    | rfl
    | simp (disch := decide) only [tv27, tm27, fr_happenStack_83, fr_happenStack_48]
set_option maxHeartbeats 8000000 in
set_option maxRecDepth 100000 in
theorem fr_happenStack_34 (st : MS) (v1 : Int32) (v2 : Int32) (v3 : Int32) : (f_M_happenStack_34 st v1 v2 v3).1 27 = st.1 27 := by
  unfold f_M_happenStack_34
  try simp only [bS, bP]
  repeat' split
  all_goals first
    | rfl
    | simp (disch := decide) only [tv27, tm27, fr_happenStack_35]
set_option maxHeartbeats 8000000 in
set_option maxRecDepth 100000 in
theorem fr_happenStack_17 (st : MS) (v1 : Int32) (v2 : Int32) (s0 : Int32) : (f_M_happenStack_17 st v1 v2 s0).1 27 = st.1 27 := by
  unfold f_M_happenStack_17
  try simp only [bS, bP]
  repeat' split
  all_goals first
    | rfl
    | simp (disch := decide) only [tv27, tm27, fr_happenStack_35, fr_happenStack_34]
set_option maxHeartbeats 8000000 in
set_option maxRecDepth 100000 in
theorem fr_happenStack_16 (st : MS) (v1 : Int32) (v2 : Int32) : (f_M_happenStack_16 st v1 v2).1 27 = st.1 27 := by
  unfold f_M_happenStack_16
  try simp only [bS, bP]
  repeat' split
  all_goals first
    | rfl
    | simp (disch := decide) only [tv27, tm27, fr_happenStack_17]
set_option maxHeartbeats 8000000 in
set_option maxRecDepth 100000 in
theorem fr_happenStack (st : MS) (v1 : Int32) (v2 : Int32) : (f_M_happenStack st v1 v2).1 27 = st.1 27 := by
  unfold f_M_happenStack
  try simp only [bS, bP]
  repeat' split
  all_goals first
    | rfl
    | simp (disch := decide) only [tv27, tm27, fr_happenStack_17, fr_happenStack_16]
set_option maxHeartbeats 8000000 in
set_option maxRecDepth 100000 in
theorem fr_happen_400 (st : MS)  : (f_M_happen_400 st ).1 27 = st.1 27 := by
  unfold f_M_happen_400
  try simp only [bS, bP]
  repeat' split
  all_goals first
    | rfl
    | simp (disch := decide) only [tv27, tm27]
set_option maxHeartbeats 8000000 in
set_option maxRecDepth 100000 in
theorem fr_happen_394 (st : MS) (v1 : Int32) (v2 : Int32) : (f_M_happen_394 st v1 v2).1 27 = st.1 27 := by
  unfold f_M_happen_394
  try simp only [bS, bP]
  repeat' split
  all_goals first
    | rfl
    | simp (disch := decide) only [tv27, tm27, fr_happenStack, fr_happen_400]
set_option maxHeartbeats 8000000 in
set_option maxRecDepth 100000 in
theorem fr_happen_371 (st : MS) (v2 : Int32) : (f_M_happen_371 st v2).1 27 = st.1 27 := by
  unfold f_M_happen_371
  try simp only [bS, bP]
  repeat' split
  all_goals first
    | rfl
    | simp (disch := decide) only [tv27, tm27, fr_happen_400]
set_option maxHeartbeats 8000000 in
set_option maxRecDepth 100000 in
theorem fr_happen_345 (st : MS) (v2 : Int32) (s0 : Int32) (s1 : Int32) : (f_M_happen_345 st v2 s0 s1).1 27 = st.1 27 := by
  unfold f_M_happen_345
  try simp only [bS, bP]
  repeat' split
  all_goals first
    | rfl
    | simp (disch := decide) only [tv27, tm27, fr_put, fr_mark, fr_happen_400]
set_option maxHeartbeats 8000000 in
set_option maxRecDepth 100000 in
theorem fr_happen_257 (st : MS) (v2 : Int32) : (f_M_happen_257 st v2).1 27 = st.1 27 := by
  unfold f_M_happen_257
  try simp only [bS, bP]
  repeat' split
  all_goals first
    | rfl
    | simp (disch := decide) only [tv27, tm27, fr_use, fr_happen_400]
set_option maxHeartbeats 8000000 in
set_option maxRecDepth 100000 in
theorem fr_happen (st : MS) (v1 : Int32) (v2 : Int32) : (f_M_happen st v1 v2).1 27 = st.1 27 := by
  unfold f_M_happen
  repeat' (first | with_reducible refine fr_ite ?_ ?_ | with_reducible refine fr_bS ?_ | with_reducible refine fr_bP ?_)
  all_goals first
    | simp (disch := decide) only [tv27, tm27, fr_target, fr_next, fr_isJam, fr_is, fr_isTaken, fr_isHalf, fr_changed, fr_happen_400, fr_happen_394, fr_happen_371, fr_happen_345, fr_happen_257]
    | rfl
set_option maxHeartbeats 8000000 in
set_option maxRecDepth 100000 in
theorem fr_clock_201 (st : MS) (v3 : Int32) : (f_M_clock_201 st v3).2.1 27 = st.1 27 := by
  unfold f_M_clock_201
  try simp only [bS, bP]
  repeat' split
  all_goals first
    | rfl
    | simp (disch := decide) only [tv27, tm27]
set_option maxHeartbeats 8000000 in
set_option maxRecDepth 100000 in
theorem fr_clock_198 (st : MS) (v3 : Int32) (s0 : Int32) : (f_M_clock_198 st v3 s0).2.1 27 = st.1 27 := by
  unfold f_M_clock_198
  try simp only [bS, bP]
  repeat' split
  all_goals first
    | rfl
    | simp (disch := decide) only [tv27, tm27, fr_clock_201]
set_option maxHeartbeats 8000000 in
set_option maxRecDepth 100000 in
theorem fr_clock_197 (st : MS) (v3 : Int32) : (f_M_clock_197 st v3).2.1 27 = st.1 27 := by
  unfold f_M_clock_197
  try simp only [bS, bP]
  repeat' split
  all_goals first
    | rfl
    | simp (disch := decide) only [tv27, tm27, fr_clock_198]
set_option maxHeartbeats 8000000 in
set_option maxRecDepth 100000 in
theorem fr_clock_193 (st : MS) (v3 : Int32) : (f_M_clock_193 st v3).2.1 27 = st.1 27 := by
  unfold f_M_clock_193
  try simp only [bS, bP]
  repeat' split
  all_goals first
    | rfl
    | simp (disch := decide) only [tv27, tm27, fr_clock_198]
set_option maxHeartbeats 8000000 in
set_option maxRecDepth 100000 in
theorem fr_clock_150 (st : MS) (v3 : Int32) : (f_M_clock_150 st v3).2.1 27 = st.1 27 := by
  unfold f_M_clock_150
  try simp only [bS, bP]
  repeat' split
  all_goals first
    | rfl
    | simp (disch := decide) only [tv27, tm27, fr_is, fr_clock_197, fr_clock_193]
set_option maxHeartbeats 8000000 in
set_option maxRecDepth 100000 in
theorem fr_clock_143 (st : MS) (v3 : Int32) : (f_M_clock_143 st v3).2.1 27 = st.1 27 := by
  unfold f_M_clock_143
  try simp only [bS, bP]
  repeat' split
  all_goals first
    | rfl
    | simp (disch := decide) only [tv27, tm27, fr_action, fr_clock_201, fr_clock_150]
set_option maxHeartbeats 8000000 in
set_option maxRecDepth 100000 in
theorem fr_clock_124 (st : MS) (v3 : Int32) (s0 : Int32) : (f_M_clock_124 st v3 s0).2.1 27 = st.1 27 := by
  unfold f_M_clock_124
  try simp only [bS, bP]
  repeat' split
  all_goals first
    | rfl
    | simp (disch := decide) only [tv27, tm27, fr_clock_150, fr_clock_143]
set_option maxHeartbeats 8000000 in
set_option maxRecDepth 100000 in
theorem fr_clock_101 (st : MS) (v1 : Int32) (v2 : Int32) (v3 : Int32) : (f_M_clock_101 st v1 v2 v3).2.1 27 = st.1 27 := by
  unfold f_M_clock_101
  try simp only [bS, bP]
  repeat' split
  all_goals first
    | rfl
    | simp (disch := decide) only [tv27, tm27, fr_happen, fr_clock_124]
set_option maxHeartbeats 8000000 in
set_option maxRecDepth 100000 in
theorem fr_clock_80 (st : MS) (v1 : Int32) (v2 : Int32) (v3 : Int32) : (f_M_clock_80 st v1 v2 v3).2.1 27 = st.1 27 := by
  unfold f_M_clock_80
  try simp only [bS, bP]
  repeat' split
  all_goals first
    | rfl
    | simp (disch := decide) only [tv27, tm27, fr_clock_101]
set_option maxHeartbeats 8000000 in
set_option maxRecDepth 100000 in
theorem fr_clock_60 (st : MS) (v1 : Int32) (v2 : Int32) (s0 : Int32) (s1 : Int32) : (f_M_clock_60 st v1 v2 s0 s1).2.1 27 = st.1 27 := by
  unfold f_M_clock_60
  try simp only [bS, bP]
  repeat' split
  all_goals first
    | rfl
    | simp (disch := decide) only [tv27, tm27, fr_clock_80]
set_option maxHeartbeats 8000000 in
set_option maxRecDepth 100000 in
theorem fr_clock_37 (st : MS) (v1 : Int32) (s0 : Int32) : (f_M_clock_37 st v1 s0).2.1 27 = st.1 27 := by
  unfold f_M_clock_37
  try simp only [bS, bP]
  repeat' split
  all_goals first
    | rfl
    | simp (disch := decide) only [tv27, tm27, fr_clock_60]
set_option maxHeartbeats 8000000 in
set_option maxRecDepth 100000 in
theorem fr_clock (st : MS)  : (f_M_clock st ).2.1 27 = st.1 27 := by
  unfold f_M_clock
  try simp only [bS, bP]
  repeat' split
  all_goals first
    | rfl
    | simp (disch := decide) only [tv27, tm27, fr_action, fr_plan, fr_clock_37]

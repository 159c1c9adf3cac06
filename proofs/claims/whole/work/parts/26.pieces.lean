/-! the pieces of a cycle, step by step and action by action -/
theorem rd_0 {u : CS} {b : Int32} (h : u.2.1 = 0) : f_C_afterRead u b = f_C_afterFetch u b := by
  unfold f_C_afterRead
  rw [h]
  rfl
theorem rd_1 {u : CS} {b : Int32} (h : u.2.1 = 1) : f_C_afterRead u b = f_C_end (f_R_operate (f_R_nextPc u) ((f_R_nextPc u).1 7) b) := by
  unfold f_C_afterRead
  rw [h]
  rfl
theorem rd_2 {u : CS} {b : Int32} (h : u.2.1 = 2) : f_C_afterRead u b = f_C_afterZeroByte u b := by
  unfold f_C_afterRead
  rw [h]
  rfl
theorem rd_3 {u : CS} {b : Int32} (h : u.2.1 = 3) : f_C_afterRead u b = f_C_afterZeroIdle u := by
  unfold f_C_afterRead
  rw [h]
  rfl
theorem rd_4 {u : CS} {b : Int32} (h : u.2.1 = 4) : f_C_afterRead u b = f_C_afterPointerLow u b := by
  unfold f_C_afterRead
  rw [h]
  rfl
theorem rd_5 {u : CS} {b : Int32} (h : u.2.1 = 5) : f_C_afterRead u b = f_C_afterPointerPage u b := by
  unfold f_C_afterRead
  rw [h]
  rfl
theorem rd_6 {u : CS} {b : Int32} (h : u.2.1 = 6) : f_C_afterRead u b = f_C_afterFarLow u b := by
  unfold f_C_afterRead
  rw [h]
  rfl
theorem rd_7 {u : CS} {b : Int32} (h : u.2.1 = 7) : f_C_afterRead u b = f_C_afterFarPage u b := by
  unfold f_C_afterRead
  rw [h]
  rfl
theorem rd_8 {u : CS} {b : Int32} (h : u.2.1 = 8) : f_C_afterRead u b = f_C_accessOperandAt u (u.1 12) := by
  unfold f_C_afterRead
  rw [h]
  rfl
theorem rd_9 {u : CS} {b : Int32} (h : u.2.1 = 9) : f_C_afterRead u b = f_C_end (f_R_operate u (u.1 7) b) := by
  unfold f_C_afterRead
  rw [h]
  rfl
theorem rd_11 {u : CS} {b : Int32} (h : u.2.1 = 11) : f_C_afterRead u b = f_C_afterChangeRead u b := by
  unfold f_C_afterRead
  rw [h]
  rfl
theorem rd_14 {u : CS} {b : Int32} (h : u.2.1 = 14) : f_C_afterRead u b = f_C_afterBranchDistance u b := by
  unfold f_C_afterRead
  rw [h]
  rfl
theorem rd_15 {u : CS} {b : Int32} (h : u.2.1 = 15) : f_C_afterRead u b = f_C_afterBranchIdle u := by
  unfold f_C_afterRead
  rw [h]
  rfl
theorem rd_16 {u : CS} {b : Int32} (h : u.2.1 = 16) : f_C_afterRead u b = f_C_goTo u (u.1 12) := by
  unfold f_C_afterRead
  rw [h]
  rfl
theorem rd_17 {u : CS} {b : Int32} (h : u.2.1 = 17) : f_C_afterRead u b = f_C_afterBreakNext u := by
  unfold f_C_afterRead
  rw [h]
  rfl
theorem rd_18 {u : CS} {b : Int32} (h : u.2.1 = 18) : f_C_afterRead u b = f_C_afterPcIdle u := by
  unfold f_C_afterRead
  rw [h]
  rfl
theorem rd_34 {u : CS} {b : Int32} (h : u.2.1 = 34) : f_C_afterRead u b = sV u 9 1 := by
  unfold f_C_afterRead
  rw [h]
  rfl
theorem rd_19 {u : CS} {b : Int32} (h : u.2.1 = 19) : f_C_afterRead u b = sS (f_C_stepAfterStackIdle u).2 (f_C_stepAfterStackIdle u).1 := by
  have e : f_C_afterRead u b = f_C_afterStackOrVectorRead u b := by
    unfold f_C_afterRead
    rw [h]
    rfl
  rw [e]
  unfold f_C_afterStackOrVectorRead
  rw [h]
  rfl
theorem rd_24 {u : CS} {b : Int32} (h : u.2.1 = 24) : f_C_afterRead u b = f_C_afterPullByte u b := by
  have e : f_C_afterRead u b = f_C_afterStackOrVectorRead u b := by
    unfold f_C_afterRead
    rw [h]
    rfl
  rw [e]
  unfold f_C_afterStackOrVectorRead
  rw [h]
  rfl
theorem rd_25 {u : CS} {b : Int32} (h : u.2.1 = 25) : f_C_afterRead u b = f_C_afterPullLow u b := by
  have e : f_C_afterRead u b = f_C_afterStackOrVectorRead u b := by
    unfold f_C_afterRead
    rw [h]
    rfl
  rw [e]
  unfold f_C_afterStackOrVectorRead
  rw [h]
  rfl
theorem rd_26 {u : CS} {b : Int32} (h : u.2.1 = 26) : f_C_afterRead u b = f_C_afterPullPage u b := by
  have e : f_C_afterRead u b = f_C_afterStackOrVectorRead u b := by
    unfold f_C_afterRead
    rw [h]
    rfl
  rw [e]
  unfold f_C_afterStackOrVectorRead
  rw [h]
  rfl
theorem rd_27 {u : CS} {b : Int32} (h : u.2.1 = 27) : f_C_afterRead u b = f_C_goTo u (u.1 4 + 1) := by
  have e : f_C_afterRead u b = f_C_afterStackOrVectorRead u b := by
    unfold f_C_afterRead
    rw [h]
    rfl
  rw [e]
  unfold f_C_afterStackOrVectorRead
  rw [h]
  rfl
theorem rd_28 {u : CS} {b : Int32} (h : u.2.1 = 28) : f_C_afterRead u b = if 2 ≤ u.1 9 then sS u 21 else sS u 28 := by
  have e : f_C_afterRead u b = f_C_afterStackOrVectorRead u b := by
    unfold f_C_afterRead
    rw [h]
    rfl
  rw [e]
  unfold f_C_afterStackOrVectorRead
  rw [h]
  rfl
theorem rd_29 {u : CS} {b : Int32} (h : u.2.1 = 29) : f_C_afterRead u b = f_C_afterVectorLow u b := by
  have e : f_C_afterRead u b = f_C_afterStackOrVectorRead u b := by
    unfold f_C_afterRead
    rw [h]
    rfl
  rw [e]
  unfold f_C_afterStackOrVectorRead
  rw [h]
  rfl
theorem rd_30 {u : CS} {b : Int32} (h : u.2.1 = 30) : f_C_afterRead u b = f_C_goTo u (u.1 13 + 256 * b) := by
  have e : f_C_afterRead u b = f_C_afterStackOrVectorRead u b := by
    unfold f_C_afterRead
    rw [h]
    rfl
  rw [e]
  unfold f_C_afterStackOrVectorRead
  rw [h]
  rfl
theorem rd_31 {u : CS} {b : Int32} (h : u.2.1 = 31) : f_C_afterRead u b = if 2 ≤ u.1 9 then sS u 32 else sS u 31 := by
  have e : f_C_afterRead u b = f_C_afterStackOrVectorRead u b := by
    unfold f_C_afterRead
    rw [h]
    rfl
  rw [e]
  unfold f_C_afterStackOrVectorRead
  rw [h]
  rfl
theorem rd_32 {u : CS} {b : Int32} (h : u.2.1 = 32) : f_C_afterRead u b = f_C_afterResetStack u := by
  have e : f_C_afterRead u b = f_C_afterStackOrVectorRead u b := by
    unfold f_C_afterRead
    rw [h]
    rfl
  rw [e]
  unfold f_C_afterStackOrVectorRead
  rw [h]
  rfl
theorem rd_33 {u : CS} {b : Int32} (h : u.2.1 = 33) : f_C_afterRead u b = f_C_afterResetLow u b := by
  have e : f_C_afterRead u b = f_C_afterStackOrVectorRead u b := by
    unfold f_C_afterRead
    rw [h]
    rfl
  rw [e]
  unfold f_C_afterStackOrVectorRead
  rw [h]
  rfl
theorem wr_10 {u : CS} (h : u.2.1 = 10) : f_C_afterWrite u = f_C_end u := by
  unfold f_C_afterWrite
  rw [h]
  rfl
theorem wr_12 {u : CS} (h : u.2.1 = 12) : f_C_afterWrite u = sS u 13 := by
  unfold f_C_afterWrite
  rw [h]
  rfl
theorem wr_13 {u : CS} (h : u.2.1 = 13) : f_C_afterWrite u = f_C_end (f_R_flagsOfChange u (u.1 7) (u.1 13)) := by
  unfold f_C_afterWrite
  rw [h]
  rfl
theorem wr_20 {u : CS} (h : u.2.1 = 20) : f_C_afterWrite u = f_C_end (f_R_moveStack u (-1)) := by
  unfold f_C_afterWrite
  rw [h]
  rfl
theorem wr_21 {u : CS} (h : u.2.1 = 21) : f_C_afterWrite u = sS (f_R_moveStack u (-1)) 22 := by
  unfold f_C_afterWrite
  rw [h]
  rfl
theorem wr_22 {u : CS} (h : u.2.1 = 22) : f_C_afterWrite u = if (f_R_moveStack u (-1)).2.2.1 = 5 then sS (f_R_moveStack u (-1)) 7 else sS (f_R_moveStack u (-1)) 23 := by
  unfold f_C_afterWrite
  rw [h]
  rfl
theorem wr_23 {u : CS} (h : u.2.1 = 23) : f_C_afterWrite u = sS (f_R_put (f_R_moveStack u (-1)) 4 1) 29 := by
  unfold f_C_afterWrite
  rw [h]
  rfl
theorem bw_10 {u : CS} (h : u.2.1 = 10) : f_C_byteToWrite u = (u.1 0, u) := by
  unfold f_C_byteToWrite
  rw [h]
  rfl
theorem bw_12 {u : CS} (h : u.2.1 = 12) : f_C_byteToWrite u = (u.1 13, u) := by
  unfold f_C_byteToWrite
  rw [h]
  rfl
theorem bw_13 {u : CS} (h : u.2.1 = 13) : f_C_byteToWrite u = ((f_R_changed u (u.1 7) (u.1 13)).1, (f_R_changed u (u.1 7) (u.1 13)).2) := by
  unfold f_C_byteToWrite
  rw [h]
  rfl
theorem bw_20 {u : CS} (h : u.2.1 = 20) : f_C_byteToWrite u = if u.1 7 = 16 then (u.1 0, u) else (u.1 5 + 32, u) := by
  unfold f_C_byteToWrite
  rw [h]
  rfl
theorem bw_21 {u : CS} (h : u.2.1 = 21) : f_C_byteToWrite u = (u.1 4 >>> ((8 : Int32) &&& 31), u) := by
  unfold f_C_byteToWrite
  rw [h]
  rfl
theorem bw_22 {u : CS} (h : u.2.1 = 22) : f_C_byteToWrite u = (u.1 4 &&& 255, u) := by
  unfold f_C_byteToWrite
  rw [h]
  rfl
theorem bw_23 {u : CS} (h : u.2.1 = 23) : f_C_byteToWrite u = if u.2.2.1 = 11 then (u.1 5 + 32 + 16, u) else (u.1 5 + 32, u) := by
  unfold f_C_byteToWrite
  rw [h]
  rfl
theorem ad_0 {u : CS} (h : u.2.1 = 0) : f_C_addressOfStep u = (u.1 4, u) := by
  unfold f_C_addressOfStep
  rw [h]
  rfl
theorem ad_1 {u : CS} (h : u.2.1 = 1) : f_C_addressOfStep u = (u.1 4, u) := by
  unfold f_C_addressOfStep
  rw [h]
  rfl
theorem ad_2 {u : CS} (h : u.2.1 = 2) : f_C_addressOfStep u = (u.1 4, u) := by
  unfold f_C_addressOfStep
  rw [h]
  rfl
theorem ad_3 {u : CS} (h : u.2.1 = 3) : f_C_addressOfStep u = (u.1 11, u) := by
  unfold f_C_addressOfStep
  rw [h]
  rfl
theorem ad_4 {u : CS} (h : u.2.1 = 4) : f_C_addressOfStep u = (u.1 11, u) := by
  unfold f_C_addressOfStep
  rw [h]
  rfl
theorem ad_5 {u : CS} (h : u.2.1 = 5) : f_C_addressOfStep u = (u.1 11, u) := by
  unfold f_C_addressOfStep
  rw [h]
  rfl
theorem ad_6 {u : CS} (h : u.2.1 = 6) : f_C_addressOfStep u = (u.1 4, u) := by
  unfold f_C_addressOfStep
  rw [h]
  rfl
theorem ad_7 {u : CS} (h : u.2.1 = 7) : f_C_addressOfStep u = (u.1 4, u) := by
  unfold f_C_addressOfStep
  rw [h]
  rfl
theorem ad_8 {u : CS} (h : u.2.1 = 8) : f_C_addressOfStep u = (u.1 11, u) := by
  unfold f_C_addressOfStep
  rw [h]
  rfl
theorem ad_9 {u : CS} (h : u.2.1 = 9) : f_C_addressOfStep u = (u.1 11, u) := by
  unfold f_C_addressOfStep
  rw [h]
  rfl
theorem ad_10 {u : CS} (h : u.2.1 = 10) : f_C_addressOfStep u = (u.1 11, u) := by
  unfold f_C_addressOfStep
  rw [h]
  rfl
theorem ad_11 {u : CS} (h : u.2.1 = 11) : f_C_addressOfStep u = (u.1 11, u) := by
  unfold f_C_addressOfStep
  rw [h]
  rfl
theorem ad_12 {u : CS} (h : u.2.1 = 12) : f_C_addressOfStep u = (u.1 11, u) := by
  unfold f_C_addressOfStep
  rw [h]
  rfl
theorem ad_13 {u : CS} (h : u.2.1 = 13) : f_C_addressOfStep u = (u.1 11, u) := by
  unfold f_C_addressOfStep
  rw [h]
  rfl
theorem ad_14 {u : CS} (h : u.2.1 = 14) : f_C_addressOfStep u = (u.1 4, u) := by
  unfold f_C_addressOfStep
  rw [h]
  rfl
theorem ad_15 {u : CS} (h : u.2.1 = 15) : f_C_addressOfStep u = (u.1 4, u) := by
  unfold f_C_addressOfStep
  rw [h]
  rfl
theorem ad_16 {u : CS} (h : u.2.1 = 16) : f_C_addressOfStep u = (u.1 11, u) := by
  unfold f_C_addressOfStep
  rw [h]
  rfl
theorem ad_17 {u : CS} (h : u.2.1 = 17) : f_C_addressOfStep u = (u.1 4, u) := by
  unfold f_C_addressOfStep
  rw [h]
  rfl
theorem ad_18 {u : CS} (h : u.2.1 = 18) : f_C_addressOfStep u = (u.1 4, u) := by
  unfold f_C_addressOfStep
  rw [h]
  rfl
theorem ad_19 {u : CS} (h : u.2.1 = 19) : f_C_addressOfStep u = (256 + u.1 3, u) := by
  unfold f_C_addressOfStep
  rw [h]
  rfl
theorem ad_20 {u : CS} (h : u.2.1 = 20) : f_C_addressOfStep u = (256 + u.1 3, u) := by
  unfold f_C_addressOfStep
  rw [h]
  rfl
theorem ad_21 {u : CS} (h : u.2.1 = 21) : f_C_addressOfStep u = (256 + u.1 3, u) := by
  unfold f_C_addressOfStep
  rw [h]
  rfl
theorem ad_22 {u : CS} (h : u.2.1 = 22) : f_C_addressOfStep u = (256 + u.1 3, u) := by
  unfold f_C_addressOfStep
  rw [h]
  rfl
theorem ad_23 {u : CS} (h : u.2.1 = 23) : f_C_addressOfStep u = (256 + u.1 3, u) := by
  unfold f_C_addressOfStep
  rw [h]
  rfl
theorem ad_24 {u : CS} (h : u.2.1 = 24) : f_C_addressOfStep u = (256 + ((u.1 3 + 1) &&& 255), u) := by
  unfold f_C_addressOfStep
  rw [h]
  rfl
theorem ad_25 {u : CS} (h : u.2.1 = 25) : f_C_addressOfStep u = (256 + ((u.1 3 + 1) &&& 255), u) := by
  unfold f_C_addressOfStep
  rw [h]
  rfl
theorem ad_26 {u : CS} (h : u.2.1 = 26) : f_C_addressOfStep u = (256 + ((u.1 3 + 1) &&& 255), u) := by
  unfold f_C_addressOfStep
  rw [h]
  rfl
theorem ad_27 {u : CS} (h : u.2.1 = 27) : f_C_addressOfStep u = (u.1 4, u) := by
  unfold f_C_addressOfStep
  rw [h]
  rfl
theorem ad_28 {u : CS} (h : u.2.1 = 28) : f_C_addressOfStep u = (u.1 4, u) := by
  unfold f_C_addressOfStep
  rw [h]
  rfl
theorem ad_30 {u : CS} (h : u.2.1 = 30) : f_C_addressOfStep u = (u.1 11, u) := by
  unfold f_C_addressOfStep
  rw [h]
  rfl
theorem ad_31 {u : CS} (h : u.2.1 = 31) : f_C_addressOfStep u = (u.1 4, u) := by
  unfold f_C_addressOfStep
  rw [h]
  rfl
theorem ad_32 {u : CS} (h : u.2.1 = 32) : f_C_addressOfStep u = (256 + u.1 3, u) := by
  unfold f_C_addressOfStep
  rw [h]
  rfl
theorem ad_33 {u : CS} (h : u.2.1 = 33) : f_C_addressOfStep u = (65532, u) := by
  unfold f_C_addressOfStep
  rw [h]
  rfl
theorem ad_34 {u : CS} (h : u.2.1 = 34) : f_C_addressOfStep u = (65535, u) := by
  unfold f_C_addressOfStep
  rw [h]
  rfl
theorem ad_29 {u : CS} (h : u.2.1 = 29) : f_C_addressOfStep u = ((if u.1 6 = 0 then 65534 else 65530), u) := by
  unfold f_C_addressOfStep
  rw [h]
  show (if u.1 6 = 0 then _ else _) = _
  split <;> rfl
theorem pl_1 (rt : MS) : f_M_plan rt 1 = tV (tV rt 23 (rt.1 4 &&& 65535)) 24 0 := rfl
theorem pl_2 (rt : MS) : f_M_plan rt 2 = tV (tV rt 23 (rt.1 4 &&& 65535)) 24 0 := rfl
theorem pl_3 (rt : MS) : f_M_plan rt 3 = tV (tV rt 23 (rt.1 4 &&& 65535)) 24 0 := rfl
theorem pl_4 (rt : MS) : f_M_plan rt 4 = tV (tV rt 23 (rt.1 4 &&& 65535)) 24 0 := rfl
theorem pl_5 (rt : MS) : f_M_plan rt 5 = tV (tV rt 23 (rt.1 4 &&& 65535)) 24 0 := rfl
theorem pl_6 (rt : MS) : f_M_plan rt 6 = tV (tV rt 23 (rt.1 16 &&& 65535)) 24 0 := rfl
theorem pl_7 (rt : MS) : f_M_plan rt 7 = tV (tV rt 23 ((256 + rt.1 3) &&& 65535)) 24 0 := rfl
theorem pl_21 (rt : MS) : f_M_plan rt 21 = tV (tV rt 23 ((256 + ((rt.1 3 + 1) &&& 255)) &&& 65535)) 24 0 := rfl
theorem pl_22 (rt : MS) : f_M_plan rt 22 = tV (tV rt 23 ((256 + ((rt.1 3 + 1) &&& 255)) &&& 65535)) 24 0 := rfl
theorem pl_23 (rt : MS) : f_M_plan rt 23 = tV (tV rt 23 ((256 + ((rt.1 3 + 1) &&& 255)) &&& 65535)) 24 0 := rfl
theorem pl_24 (rt : MS) : f_M_plan rt 24 = tV (tV rt 23 ((256 + ((rt.1 3 + 1) &&& 255)) &&& 65535)) 24 0 := rfl
theorem pl_25 (rt : MS) : f_M_plan rt 25 = tV (tV rt 23 (rt.1 4 &&& 65535)) 24 0 := rfl
theorem pl_26 (rt : MS) : f_M_plan rt 26 = tV (tV rt 23 (rt.1 4 &&& 65535)) 24 0 := rfl
theorem pl_27 (rt : MS) : f_M_plan rt 27 = tV (tV rt 23 (rt.1 4 &&& 65535)) 24 0 := rfl
theorem pl_29 (rt : MS) : f_M_plan rt 29 = tV (tV rt 23 ((rt.1 19 + 1) &&& 65535)) 24 0 := rfl
theorem pl_30 (rt : MS) : f_M_plan rt 30 = tV (tV rt 23 ((256 + rt.1 3) &&& 65535)) 24 0 := rfl
theorem pl_32 (rt : MS) : f_M_plan rt 32 = tV (tV rt 23 (65535 &&& 65535)) 24 0 := rfl
theorem pl_8 (rt : MS) : f_M_plan rt 8 = tV (tV rt 23 (hlf rt &&& 65535)) 24 0 := by
  have e : f_M_plan rt 8 = tV (tV (f_M_half rt).2 23 ((f_M_half rt).1 &&& 65535)) 24 0 := rfl
  rw [e, M_half]
theorem pl_11 (rt : MS) : f_M_plan rt 11 = tV (tV rt 23 (opd rt &&& 65535)) 24 0 := by
  have e : f_M_plan rt 11 = tV (tV (f_M_operand rt).2 23 ((f_M_operand rt).1 &&& 65535)) 24 0 := rfl
  rw [e, M_opd]
theorem pl_13 (rt : MS) : f_M_plan rt 13 = tV (tV rt 23 (opd rt &&& 65535)) 24 0 := by
  have e : f_M_plan rt 13 = tV (tV (f_M_operand rt).2 23 ((f_M_operand rt).1 &&& 65535)) 24 0 := rfl
  rw [e, M_opd]
theorem pl_9 (rt : MS) : f_M_plan rt 9 = if rt.1 15 = 5 then tV (tV rt 23 (((rt.1 16 + rt.1 1) &&& 255) &&& 65535)) 24 0 else tV (tV rt 23 (rt.1 16 &&& 65535)) 24 0 := rfl
theorem pl_10 (rt : MS) : f_M_plan rt 10 = if rt.1 15 = 5 then tV (tV rt 23 ((((rt.1 16 + rt.1 1) + 1) &&& 255) &&& 65535)) 24 0 else tV (tV rt 23 (((rt.1 16 + 1) &&& 255) &&& 65535)) 24 0 := rfl
theorem pl_28 (rt : MS) : f_M_plan rt 28 = if rt.1 11 = 2 then tV (tV rt 23 (65532 &&& 65535)) 24 0 else if rt.1 10 = 0 then tV (tV rt 23 (65534 &&& 65535)) 24 0 else tV (tV rt 23 (65530 &&& 65535)) 24 0 := rfl
theorem pl_31 (rt : MS) : f_M_plan rt 31 = tV (tV rt 23 (((rt.1 4 &&& 65280) ||| (tgtM rt &&& 255)) &&& 65535)) 24 0 := by
  have e : f_M_plan rt 31 = tV (tV (f_M_target rt).2 23 (((rt.1 4 &&& 65280) ||| ((f_M_target rt).1 &&& 255)) &&& 65535)) 24 0 := rfl
  rw [e, M_tgt]
theorem pl_16 (rt : MS) : f_M_plan rt 16 = tV (tV (tV rt 23 (256 + rt.1 3)) 24 1) 25 ((rt.1 4 >>> ((8 : Int32) &&& 31)) &&& 255) := rfl
theorem pl_17 (rt : MS) : f_M_plan rt 17 = tV (tV (tV rt 23 (256 + rt.1 3)) 24 1) 25 (rt.1 4 &&& 255) := rfl
theorem pl_19 (rt : MS) : f_M_plan rt 19 = tV (tV (tV rt 23 (256 + rt.1 3)) 24 1) 25 (rt.1 0 &&& 255) := rfl
theorem pl_20 (rt : MS) : f_M_plan rt 20 = tV (tV (tV rt 23 (256 + rt.1 3)) 24 1) 25 ((rt.1 5 ||| 32) &&& 255) := rfl
theorem pl_18 (rt : MS) : f_M_plan rt 18 = if rt.1 11 = 1 then tV (tV (tV rt 23 (256 + rt.1 3)) 24 1) 25 (((rt.1 5 ||| 32) ||| 0) &&& 255) else tV (tV (tV rt 23 (256 + rt.1 3)) 24 1) 25 (((rt.1 5 ||| 32) ||| 16) &&& 255) := rfl
theorem pl_12 (rt : MS) : f_M_plan rt 12 = tV (tV (tV rt 23 (opd rt)) 24 1) 25 (rt.1 0) := by
  have e : f_M_plan rt 12 = tV (tV (tV (f_M_operand rt).2 23 (f_M_operand rt).1) 24 1) 25 ((tV (tV (f_M_operand rt).2 23 (f_M_operand rt).1) 24 1).1 0) := rfl
  rw [e, M_opd]
  rfl
theorem pl_14 (rt : MS) : f_M_plan rt 14 = tV (tV (tV rt 23 (opd rt)) 24 1) 25 (rt.1 18) := by
  have e : f_M_plan rt 14 = tV (tV (tV (f_M_operand rt).2 23 (f_M_operand rt).1) 24 1) 25 ((tV (tV (f_M_operand rt).2 23 (f_M_operand rt).1) 24 1).1 18) := rfl
  rw [e, M_opd]
  rfl
theorem pl_15 (rt : MS) : f_M_plan rt 15 = tV (tV (tV rt 23 (opd rt)) 24 1) 25 (rt.1 20) := by
  have e : f_M_plan rt 15 = tV (tV (tV (f_M_operand rt).2 23 (f_M_operand rt).1) 24 1) 25 ((tV (tV (f_M_operand rt).2 23 (f_M_operand rt).1) 24 1).1 20) := rfl
  rw [e, M_opd]
  rfl
theorem hp_4 (u : MS) (b : Int32) : f_M_happen u 4 b = f_M_next u := rfl
theorem hp_6 (u : MS) (b : Int32) : f_M_happen u 6 b = tV u 3 (u.1 3) := rfl
theorem hp_7 (u : MS) (b : Int32) : f_M_happen u 7 b = tV u 3 (u.1 3) := rfl
theorem hp_8 (u : MS) (b : Int32) : f_M_happen u 8 b = tV u 3 (u.1 3) := rfl
theorem hp_9 (u : MS) (b : Int32) : f_M_happen u 9 b = tV u 18 b := rfl
theorem hp_12 (u : MS) (b : Int32) : f_M_happen u 12 b = tV u 3 (u.1 3) := rfl
theorem hp_13 (u : MS) (b : Int32) : f_M_happen u 13 b = tV u 18 b := rfl
theorem hp_16 (u : MS) (b : Int32) : f_M_happen u 16 b = tV u 3 ((u.1 3 - 1) &&& 255) := rfl
theorem hp_17 (u : MS) (b : Int32) : f_M_happen u 17 b = tV u 3 ((u.1 3 - 1) &&& 255) := rfl
theorem hp_18 (u : MS) (b : Int32) : f_M_happen u 18 b = tV (tV u 3 ((u.1 3 - 1) &&& 255)) 5 (u.1 5 ||| 4) := rfl
theorem hp_19 (u : MS) (b : Int32) : f_M_happen u 19 b = tV u 3 ((u.1 3 - 1) &&& 255) := rfl
theorem hp_20 (u : MS) (b : Int32) : f_M_happen u 20 b = tV u 3 ((u.1 3 - 1) &&& 255) := rfl
theorem hp_22 (u : MS) (b : Int32) : f_M_happen u 22 b = tV (tV u 3 ((u.1 3 + 1) &&& 255)) 5 (b &&& 207) := rfl
theorem hp_23 (u : MS) (b : Int32) : f_M_happen u 23 b = tV (tV u 3 ((u.1 3 + 1) &&& 255)) 16 b := rfl
theorem hp_24 (u : MS) (b : Int32) : f_M_happen u 24 b = tV (tV u 3 ((u.1 3 + 1) &&& 255)) 4 (u.1 16 ||| (b <<< ((8 : Int32) &&& 31))) := rfl
theorem hp_25 (u : MS) (b : Int32) : f_M_happen u 25 b = f_M_next u := rfl
theorem hp_26 (u : MS) (b : Int32) : f_M_happen u 26 b = tV u 4 (u.1 16 ||| (b <<< ((8 : Int32) &&& 31))) := rfl
theorem hp_27 (u : MS) (b : Int32) : f_M_happen u 27 b = tV u 4 (u.1 16 ||| (b <<< ((8 : Int32) &&& 31))) := rfl
theorem hp_29 (u : MS) (b : Int32) : f_M_happen u 29 b = tV (tV u 3 (u.1 3)) 4 (u.1 16 ||| (b <<< ((8 : Int32) &&& 31))) := rfl
theorem hp_30 (u : MS) (b : Int32) : f_M_happen u 30 b = tV u 3 ((u.1 3 - 1) &&& 255) := rfl
theorem hp_32 (u : MS) (b : Int32) : f_M_happen u 32 b = tV u 3 (u.1 3) := rfl
theorem hp_5 (u : MS) (b : Int32) : f_M_happen u 5 b = f_M_idle (tV u 3 (u.1 3)) := rfl
theorem hp_21 (u : MS) (b : Int32) : f_M_happen u 21 b = tV (tV (tV u 3 ((u.1 3 + 1) &&& 255)) 5 (mkF (u.1 5) b)) 0 b := by
  have e : f_M_happen u 21 b = tV (f_M_mark (tV u 3 ((u.1 3 + 1) &&& 255)) b).2 0 (f_M_mark (tV u 3 ((u.1 3 + 1) &&& 255)) b).1 := rfl
  rw [e, M_mark]
  rfl
theorem hp_14 (u : MS) (b : Int32) : f_M_happen u 14 b = tV u 20 (chg (u.1 14) b) := by
  have e : f_M_happen u 14 b = tV (f_M_changed u b).2 20 (f_M_changed u b).1 := rfl
  rw [e, M_chg]
theorem hp_31 (u : MS) (b : Int32) : f_M_happen u 31 b = tV u 4 (tgtM u) := by
  have e : f_M_happen u 31 b = tV (f_M_target u).2 4 (f_M_target u).1 := rfl
  rw [e, M_tgt]
theorem hp_11 (u : MS) (b : Int32) : f_M_happen u 11 b = if u.1 15 = 0 then f_M_use (f_M_next u) b else f_M_use u b := rfl
theorem hp_28 {u : MS} (b : Int32) (h1 : u.1 10 = 0 ∨ u.1 10 = 1) (h2 : ¬ u.1 10 = 0 → u.1 11 = 2 ∨ u.1 23 = 65530) (h3 : u.1 11 = 2 → ¬ u.1 23 = 65530) : f_M_happen u 28 b = tV (tV (tV (tV (tV u 3 (u.1 3)) 19 (u.1 23)) 10 (if u.1 11 = 2 then u.1 10 else 0)) 5 (if u.1 11 = 2 then u.1 5 ||| 4 else u.1 5)) 16 b := by
  have e : f_M_happen u 28 b = (if u.1 10 = 0 then f_M_happenStack_291 (tV (tV u 3 (u.1 3)) 19 (u.1 23)) b 0 else (if u.1 23 = 65530 then f_M_happenStack_291 (tV (tV u 3 (u.1 3)) 19 (u.1 23)) b 0 else f_M_happenStack_291 (tV (tV u 3 (u.1 3)) 19 (u.1 23)) b 1)) := rfl
  have k : ∀ (w : MS) (x : Int32), f_M_happenStack_291 w b x = (if w.1 11 = 2 then tV (tV (tV w 10 x) 5 (w.1 5 ||| 4)) 16 b else tV (tV (tV w 10 x) 5 (w.1 5)) 16 b) := fun w x => rfl
  rw [e, k, k]
  show (if u.1 10 = 0 then (if u.1 11 = 2 then _ else _) else (if u.1 23 = 65530 then (if u.1 11 = 2 then _ else _) else (if u.1 11 = 2 then _ else _))) = _
  by_cases q2 : u.1 11 = 2
  · simp only [if_pos q2]
    by_cases q1 : u.1 10 = 0
    · rw [if_pos q1, q1]; rfl
    · rw [if_neg q1, if_neg (h3 q2)]
      rcases h1 with q | q
      · exact absurd q q1
      · rw [q]; rfl
  · simp only [if_neg q2]
    by_cases q1 : u.1 10 = 0
    · rw [if_pos q1]; rfl
    · rw [if_neg q1]
      rcases h2 q1 with q | q
      · exact absurd q q2
      · rw [if_pos q]; rfl

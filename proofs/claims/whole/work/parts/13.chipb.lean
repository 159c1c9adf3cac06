/-! contracts of methods (printed by my own program: pure pictures and walks) -/
def f_C_afterFetch_43 (st : CS) (s0 : Fin 16) : CS := bS (sK st s0) (fun st9 => bP (f_C_secondStep st9 ) (fun r11 st10 => bS (sS st10 r11) (fun st12 => st12)))
def f_C_afterFetch (st : CS) (v1 : Int32) : CS := bS (f_R_nextPc st ) (fun st1 => bS (sV st1 7 (v1 >>> ((3 : Int32) &&& 31))) (fun st2 => bS (sV st2 8 (v1 &&& 7)) (fun st3 => if (st3.1 8) = 7 then (bP (f_C_kindWithoutOperand st3 ) (fun r8 st7 => f_C_afterFetch_43 st7 r8)) else (bP (f_C_kindWithOperand st3 ) (fun r6 st5 => f_C_afterFetch_43 st5 r6)))))
abbrev rm_C_afterFetch : Room := { frames := 2, cells := 0, slots := 0, locals := 40 }
set_option maxHeartbeats 4000000 in
set_option maxRecDepth 100000 in
theorem k_C_afterFetch (l : Launch) (g : CG) (rt : MS) (o : Nat → Int64) (st : CS) (v1 : Int32) : KV l g y_C_afterFetch (Cond.code y_C_afterFetch c_C_afterFetch 2 none :: ALL) rm_C_afterFetch [.ref (g.chip), .int v1] (wC g rt o) st (f_C_afterFetch st v1) := by
  refine KV.ofW (by decide) (Nat.le_of_ble_eq_true rfl) ?_
  intro p e s m args below meth c A Q ls Rv X he RET hC hl
  obtain ⟨hx, hb⟩ := FX_xb X
  have hl : lv_has ls 2 [(0, .ref (g.chip)), (1, .int v1)] := hl
  have B43 : ∀ (H : Heap) (locs : List Loc) (ls : Array Slot) (st : CS) (s0 : Fin 16), HC g A s (wC g rt o st) H locs → lv_has ls 2 [(0, .ref (g.chip))] → f_C_afterFetch_43 st s0 = Rv → W p l e rm_C_afterFetch s m args below meth c H locs 0 0 Q (F0 m 43 ls [.ref (g.adK (s0).val), .ref (g.chip)]) := by
    intro H locs ls st s0  hC hl he
    unfold f_C_afterFetch_43 at he
    refine PC_kind (pc := 43) X hC d_C_afterFetch_43 (fun st9 H locs est9 hC => ?_)
    replace he := bS_go he est9
    refine lv_aload_n (pc := 46) hx hb d_C_afterFetch_46 rfl (lv_at hl 0 rfl) ?_
    refine lv_aload_n (pc := 47) hx hb d_C_afterFetch_47 rfl (lv_at hl 0 rfl) ?_
    refine callEO (q0 := 0) (pc := 48) (As := []) (rest := [.ref (g.chip)]) X (k_C_secondStep l g rt o st9 ) hC (NC_C_secondStep_284 X rfl rfl ⟨by decide, by decide⟩) rfl rfl rfl hl.1 (Nat.le_of_ble_eq_true rfl) rfl d_C_afterFetch_48 ⟨Nat.zero_le _, Nat.zero_le _⟩ (fun r11 st10 H locs est10 hC => ?_)
    replace he := bP_go he est10
    refine PC_step (pc := 51) X hC d_C_afterFetch_51 (fun st12 H locs est12 hC => ?_)
    replace he := bS_go he est12
    exact RET (pc := 54) d_C_afterFetch_54 hC he
  unfold f_C_afterFetch at he
  refine lv_aload_n (pc := 0) hx hb d_C_afterFetch_0 rfl (lv_at hl 0 rfl) ?_
  refine GC_registers (pc := 1) X hC d_C_afterFetch_1 ?_
  refine callVN (q0 := 3) (pc := 4) (As := []) (rest := []) X (k_R_nextPc l g rt o st ) hC (NC_R_nextPc_185 X rfl rfl ⟨by decide, by decide⟩) rfl rfl rfl hl.1 (Nat.le_of_ble_eq_true rfl) rfl d_C_afterFetch_4 ⟨Nat.zero_le _, Nat.zero_le _⟩ (fun st1 H locs est1 hC => ?_)
  replace he := bS_go he est1
  refine lv_aload_n (pc := 7) hx hb d_C_afterFetch_7 rfl (lv_at hl 0 rfl) ?_
  refine lv_iload_n (pc := 8) hx hb d_C_afterFetch_8 rfl (lv_at hl 1 rfl) ?_
  refine lv_iconst (pc := 9) (v := 3) hx hb d_C_afterFetch_9 (by decide) ?_
  refine lv_ishr (pc := 10) hx hb d_C_afterFetch_10 ?_
  refine PC_operation (pc := 11) X hC d_C_afterFetch_11 (fun st2 H locs est2 hC => ?_)
  replace he := bS_go he est2
  refine lv_aload_n (pc := 14) hx hb d_C_afterFetch_14 rfl (lv_at hl 0 rfl) ?_
  refine lv_iload_n (pc := 15) hx hb d_C_afterFetch_15 rfl (lv_at hl 1 rfl) ?_
  refine lv_bipush (pc := 16) (v := 7) hx hb d_C_afterFetch_16 (by decide) ?_
  refine lv_iand (pc := 18) hx hb d_C_afterFetch_18 ?_
  refine PC_mode (pc := 19) X hC d_C_afterFetch_19 (fun st3 H locs est3 hC => ?_)
  replace he := bS_go he est3
  refine lv_aload_n (pc := 22) hx hb d_C_afterFetch_22 rfl (lv_at hl 0 rfl) ?_
  refine lv_aload_n (pc := 23) hx hb d_C_afterFetch_23 rfl (lv_at hl 0 rfl) ?_
  refine GC_mode (pc := 24) X hC d_C_afterFetch_24 ?_
  refine lv_bipush (pc := 27) (v := 7) hx hb d_C_afterFetch_27 (by decide) ?_
  refine lv_icmp_ne (pc := 29) (tgt := 39) hx hb d_C_afterFetch_29 (by decide) (fun h4 => ?_) (fun h4 => ?_)
  · replace he := if_no he h4
    refine lv_aload_n (pc := 39) hx hb d_C_afterFetch_39 rfl (lv_at hl 0 rfl) ?_
    refine callEO (q0 := 0) (pc := 40) (As := []) (rest := [.ref (g.chip)]) X (k_C_kindWithOperand l g rt o st3 ) hC (NC_C_kindWithOperand_281 X rfl rfl ⟨by decide, by decide⟩) rfl rfl rfl hl.1 (Nat.le_of_ble_eq_true rfl) rfl d_C_afterFetch_40 ⟨Nat.zero_le _, Nat.zero_le _⟩ (fun r6 st5 H locs est5 hC => ?_)
    replace he := bP_go he est5
    exact B43 _ _ _ st5 r6  hC (lv_sub hl [0] rfl) he
  replace he := if_go he h4
  refine lv_aload_n (pc := 32) hx hb d_C_afterFetch_32 rfl (lv_at hl 0 rfl) ?_
  refine callEO (q0 := 0) (pc := 33) (As := []) (rest := [.ref (g.chip)]) X (k_C_kindWithoutOperand l g rt o st3 ) hC (NC_C_kindWithoutOperand_277 X rfl rfl ⟨by decide, by decide⟩) rfl rfl rfl hl.1 (Nat.le_of_ble_eq_true rfl) rfl d_C_afterFetch_33 ⟨Nat.zero_le _, Nat.zero_le _⟩ (fun r8 st7 H locs est7 hC => ?_)
  replace he := bP_go he est7
  refine lv_goto (pc := 36) (tgt := 43) hx hb d_C_afterFetch_36 (by decide) ?_
  exact B43 _ _ _ st7 r8  hC (lv_sub hl [0] rfl) he
def f_C_accessOperandAt_59 (st : CS) (s0 : Fin 35) : CS := bS (sS st s0) (fun st4 => st4)
def f_C_accessOperandAt (st : CS) (v1 : Int32) : CS := bS (sV st 11 v1) (fun st1 => if (swK (st1.2.2.1)) = 2 then (f_C_accessOperandAt_59 st1 (10 : Fin 35)) else (if (swK (st1.2.2.1)) = 3 then (f_C_accessOperandAt_59 st1 (11 : Fin 35)) else (f_C_accessOperandAt_59 st1 (9 : Fin 35))))
abbrev rm_C_accessOperandAt : Room := { frames := 1, cells := 0, slots := 0, locals := 20 }
set_option maxHeartbeats 4000000 in
set_option maxRecDepth 100000 in
theorem k_C_accessOperandAt (l : Launch) (g : CG) (rt : MS) (o : Nat → Int64) (st : CS) (v1 : Int32) : KV l g y_C_accessOperandAt (Cond.code y_C_accessOperandAt c_C_accessOperandAt 2 none :: ALL) rm_C_accessOperandAt [.ref (g.chip), .int v1] (wC g rt o) st (f_C_accessOperandAt st v1) := by
  refine KV.ofW (by decide) (Nat.le_of_ble_eq_true rfl) ?_
  intro p e s m args below meth c A Q ls Rv X he RET hC hl
  obtain ⟨hx, hb⟩ := FX_xb X
  have hl : lv_has ls 2 [(0, .ref (g.chip)), (1, .int v1)] := hl
  have B59 : ∀ (H : Heap) (locs : List Loc) (ls : Array Slot) (st : CS) (s0 : Fin 35), HC g A s (wC g rt o st) H locs → lv_has ls 2 [] → f_C_accessOperandAt_59 st s0 = Rv → W p l e rm_C_accessOperandAt s m args below meth c H locs 0 0 Q (F0 m 59 ls [.ref (g.adS (s0).val), .ref (g.chip)]) := by
    intro H locs ls st s0  hC hl he
    unfold f_C_accessOperandAt_59 at he
    refine PC_step (pc := 59) X hC d_C_accessOperandAt_59 (fun st4 H locs est4 hC => ?_)
    replace he := bS_go he est4
    exact RET (pc := 62) d_C_accessOperandAt_62 hC he
  unfold f_C_accessOperandAt at he
  refine lv_aload_n (pc := 0) hx hb d_C_accessOperandAt_0 rfl (lv_at hl 0 rfl) ?_
  refine lv_iload_n (pc := 1) hx hb d_C_accessOperandAt_1 rfl (lv_at hl 1 rfl) ?_
  refine PC_aim (pc := 2) X hC d_C_accessOperandAt_2 (fun st1 H locs est1 hC => ?_)
  replace he := bS_go he est1
  refine lv_aload_n (pc := 5) hx hb d_C_accessOperandAt_5 rfl (lv_at hl 0 rfl) ?_
  refine SC_mapK (pc := 6) X hC d_C_accessOperandAt_6 ?_
  refine lv_aload_n (pc := 9) hx hb d_C_accessOperandAt_9 rfl (lv_at hl 0 rfl) ?_
  refine GC_kind (pc := 10) X hC d_C_accessOperandAt_10 ?_
  refine OC_knd (pc := 13) (k := st1.2.2.1) (rest := [.ref (g.mapK), .ref (g.chip)]) X hC hl.1 (Nat.le_of_ble_eq_true rfl) ⟨by decide, by decide⟩ ⟨Nat.zero_le _, Nat.zero_le _⟩ d_C_accessOperandAt_13 ?_
  refine AmapK (pc := 16) (k := st1.2.2.1) X hC d_C_accessOperandAt_16 ?_
  by_cases h2 : (swK (st1.2.2.1)) = 2
  · replace he := if_go he h2
    refine lv_lookup (pc := 17) (tgt := 44) (off := 27) hx hb d_C_accessOperandAt_17 (by decide) (by rw [h2]; try rfl) (by decide) ?_
    refine SC_stp_STORE (pc := 44) X hC d_C_accessOperandAt_44 ?_
    refine lv_goto (pc := 47) (tgt := 59) hx hb d_C_accessOperandAt_47 (by decide) ?_
    exact B59 _ _ _ st1 (10 : Fin 35)  hC (lv_sub hl [] rfl) he
  replace he := if_no he h2
  by_cases h3 : (swK (st1.2.2.1)) = 3
  · replace he := if_go he h3
    refine lv_lookup (pc := 17) (tgt := 50) (off := 33) hx hb d_C_accessOperandAt_17 (by decide) (by rw [h3]; try rfl) (by decide) ?_
    refine SC_stp_CHANGE_READ (pc := 50) X hC d_C_accessOperandAt_50 ?_
    refine lv_goto (pc := 53) (tgt := 59) hx hb d_C_accessOperandAt_53 (by decide) ?_
    exact B59 _ _ _ st1 (11 : Fin 35)  hC (lv_sub hl [] rfl) he
  replace he := if_no he h3
  refine lv_lookup (pc := 17) (tgt := 56) (off := 39) hx hb d_C_accessOperandAt_17 (by decide) (by show Op.lookupswitch.offset [(2, 27), (3, 33)] _ _ = _; rw [lv_osw h2 (by decide), lv_osw h3 (by decide)]; try rfl) (by decide) ?_
  refine SC_stp_OPERAND (pc := 56) X hC d_C_accessOperandAt_56 ?_
  exact B59 _ _ _ st1 (9 : Fin 35)  hC (lv_sub hl [] rfl) he
def f_C_afterZeroByte_57 (st : CS)  : CS := st
def f_C_afterZeroByte_54 (st : CS) (s0 : Fin 35) : CS := bS (sS st s0) (fun st7 => f_C_afterZeroByte_57 st7 )
def f_C_afterZeroByte_45 (st : CS)  : CS := f_C_afterZeroByte_54 st (3 : Fin 35)
def f_C_afterZeroByte (st : CS) (v1 : Int32) : CS := bS (f_R_nextPc st ) (fun st1 => if (st1.1 8) = 1 then (bS (f_C_accessOperandAt st1 v1) (fun st6 => f_C_afterZeroByte_57 st6 )) else (bS (sV st1 11 v1) (fun st3 => if (st3.1 8) = 2 then (f_C_afterZeroByte_45 st3 ) else (if (st3.1 8) = 5 then (f_C_afterZeroByte_45 st3 ) else (f_C_afterZeroByte_54 st3 (4 : Fin 35))))))
abbrev rm_C_afterZeroByte : Room := { frames := 2, cells := 0, slots := 0, locals := 41 }
set_option maxHeartbeats 4000000 in
set_option maxRecDepth 100000 in
theorem k_C_afterZeroByte (l : Launch) (g : CG) (rt : MS) (o : Nat → Int64) (st : CS) (v1 : Int32) : KV l g y_C_afterZeroByte (Cond.code y_C_afterZeroByte c_C_afterZeroByte 2 none :: ALL) rm_C_afterZeroByte [.ref (g.chip), .int v1] (wC g rt o) st (f_C_afterZeroByte st v1) := by
  refine KV.ofW (by decide) (Nat.le_of_ble_eq_true rfl) ?_
  intro p e s m args below meth c A Q ls Rv X he RET hC hl
  obtain ⟨hx, hb⟩ := FX_xb X
  have hl : lv_has ls 2 [(0, .ref (g.chip)), (1, .int v1)] := hl
  have B57 : ∀ (H : Heap) (locs : List Loc) (ls : Array Slot) (st : CS) , HC g A s (wC g rt o st) H locs → lv_has ls 2 [] → f_C_afterZeroByte_57 st  = Rv → W p l e rm_C_afterZeroByte s m args below meth c H locs 0 0 Q (F0 m 57 ls []) := by
    intro H locs ls st   hC hl he
    unfold f_C_afterZeroByte_57 at he
    exact RET (pc := 57) d_C_afterZeroByte_57 hC he
  have B54 : ∀ (H : Heap) (locs : List Loc) (ls : Array Slot) (st : CS) (s0 : Fin 35), HC g A s (wC g rt o st) H locs → lv_has ls 2 [] → f_C_afterZeroByte_54 st s0 = Rv → W p l e rm_C_afterZeroByte s m args below meth c H locs 0 0 Q (F0 m 54 ls [.ref (g.adS (s0).val), .ref (g.chip)]) := by
    intro H locs ls st s0  hC hl he
    unfold f_C_afterZeroByte_54 at he
    refine PC_step (pc := 54) X hC d_C_afterZeroByte_54 (fun st7 H locs est7 hC => ?_)
    replace he := bS_go he est7
    exact B57 _ _ _ st7   hC (lv_sub hl [] rfl) he
  have B45 : ∀ (H : Heap) (locs : List Loc) (ls : Array Slot) (st : CS) , HC g A s (wC g rt o st) H locs → lv_has ls 2 [] → f_C_afterZeroByte_45 st  = Rv → W p l e rm_C_afterZeroByte s m args below meth c H locs 0 0 Q (F0 m 45 ls [.ref (g.chip)]) := by
    intro H locs ls st   hC hl he
    unfold f_C_afterZeroByte_45 at he
    refine SC_stp_ZERO_IDLE (pc := 45) X hC d_C_afterZeroByte_45 ?_
    refine lv_goto (pc := 48) (tgt := 54) hx hb d_C_afterZeroByte_48 (by decide) ?_
    exact B54 _ _ _ st (3 : Fin 35)  hC (lv_sub hl [] rfl) he
  unfold f_C_afterZeroByte at he
  refine lv_aload_n (pc := 0) hx hb d_C_afterZeroByte_0 rfl (lv_at hl 0 rfl) ?_
  refine GC_registers (pc := 1) X hC d_C_afterZeroByte_1 ?_
  refine callVN (q0 := 3) (pc := 4) (As := []) (rest := []) X (k_R_nextPc l g rt o st ) hC (NC_R_nextPc_185 X rfl rfl ⟨by decide, by decide⟩) rfl rfl rfl hl.1 (Nat.le_of_ble_eq_true rfl) rfl d_C_afterZeroByte_4 ⟨Nat.zero_le _, Nat.zero_le _⟩ (fun st1 H locs est1 hC => ?_)
  replace he := bS_go he est1
  refine lv_aload_n (pc := 7) hx hb d_C_afterZeroByte_7 rfl (lv_at hl 0 rfl) ?_
  refine GC_mode (pc := 8) X hC d_C_afterZeroByte_8 ?_
  refine lv_iconst (pc := 11) (v := 1) hx hb d_C_afterZeroByte_11 (by decide) ?_
  refine lv_icmp_ne (pc := 12) (tgt := 23) hx hb d_C_afterZeroByte_12 (by decide) (fun h2 => ?_) (fun h2 => ?_)
  · replace he := if_no he h2
    refine lv_aload_n (pc := 23) hx hb d_C_afterZeroByte_23 rfl (lv_at hl 0 rfl) ?_
    refine lv_iload_n (pc := 24) hx hb d_C_afterZeroByte_24 rfl (lv_at hl 1 rfl) ?_
    refine PC_aim (pc := 25) X hC d_C_afterZeroByte_25 (fun st3 H locs est3 hC => ?_)
    replace he := bS_go he est3
    refine lv_aload_n (pc := 28) hx hb d_C_afterZeroByte_28 rfl (lv_at hl 0 rfl) ?_
    refine lv_aload_n (pc := 29) hx hb d_C_afterZeroByte_29 rfl (lv_at hl 0 rfl) ?_
    refine GC_mode (pc := 30) X hC d_C_afterZeroByte_30 ?_
    refine lv_iconst (pc := 33) (v := 2) hx hb d_C_afterZeroByte_33 (by decide) ?_
    refine lv_icmp_eq (pc := 34) (tgt := 45) hx hb d_C_afterZeroByte_34 (by decide) (fun h4 => ?_) (fun h4 => ?_)
    · replace he := if_go he h4
      exact B45 _ _ _ st3   hC (lv_sub hl [] rfl) he
    replace he := if_no he h4
    refine lv_aload_n (pc := 37) hx hb d_C_afterZeroByte_37 rfl (lv_at hl 0 rfl) ?_
    refine GC_mode (pc := 38) X hC d_C_afterZeroByte_38 ?_
    refine lv_iconst (pc := 41) (v := 5) hx hb d_C_afterZeroByte_41 (by decide) ?_
    refine lv_icmp_ne (pc := 42) (tgt := 51) hx hb d_C_afterZeroByte_42 (by decide) (fun h5 => ?_) (fun h5 => ?_)
    · replace he := if_no he h5
      refine SC_stp_POINTER_LOW (pc := 51) X hC d_C_afterZeroByte_51 ?_
      exact B54 _ _ _ st3 (4 : Fin 35)  hC (lv_sub hl [] rfl) he
    replace he := if_go he h5
    exact B45 _ _ _ st3   hC (lv_sub hl [] rfl) he
  replace he := if_go he h2
  refine lv_aload_n (pc := 15) hx hb d_C_afterZeroByte_15 rfl (lv_at hl 0 rfl) ?_
  refine lv_iload_n (pc := 16) hx hb d_C_afterZeroByte_16 rfl (lv_at hl 1 rfl) ?_
  refine callVO (q0 := 0) (pc := 17) (As := [.int v1]) (rest := []) X (k_C_accessOperandAt l g rt o st1 v1) hC (NC_C_accessOperandAt_212 X rfl rfl ⟨by decide, by decide⟩) rfl rfl rfl hl.1 (Nat.le_of_ble_eq_true rfl) rfl d_C_afterZeroByte_17 ⟨Nat.zero_le _, Nat.zero_le _⟩ (fun st6 H locs est6 hC => ?_)
  replace he := bS_go he est6
  refine lv_goto (pc := 20) (tgt := 57) hx hb d_C_afterZeroByte_20 (by decide) ?_
  exact B57 _ _ _ st6   hC (lv_sub hl [] rfl) he
def f_C_afterZeroIdle_45 (st : CS)  : CS := st
def f_C_afterZeroIdle (st : CS)  : CS := bS ((((st.1 11) + (st.1 1)) &&& 255) : Int32) (fun y1 => if (st.1 8) = 2 then (bS (f_C_accessOperandAt st y1) (fun st5 => f_C_afterZeroIdle_45 st5 )) else (bS (sV st 11 y1) (fun st3 => bS (sS st3 (4 : Fin 35)) (fun st4 => f_C_afterZeroIdle_45 st4 ))))
abbrev rm_C_afterZeroIdle : Room := { frames := 2, cells := 0, slots := 0, locals := 41 }
set_option maxHeartbeats 4000000 in
set_option maxRecDepth 100000 in
theorem k_C_afterZeroIdle (l : Launch) (g : CG) (rt : MS) (o : Nat → Int64) (st : CS)  : KV l g y_C_afterZeroIdle (Cond.code y_C_afterZeroIdle c_C_afterZeroIdle 2 none :: ALL) rm_C_afterZeroIdle [.ref (g.chip)] (wC g rt o) st (f_C_afterZeroIdle st ) := by
  refine KV.ofW (by decide) (Nat.le_of_ble_eq_true rfl) ?_
  intro p e s m args below meth c A Q ls Rv X he RET hC hl
  obtain ⟨hx, hb⟩ := FX_xb X
  have hl : lv_has ls 2 [(0, .ref (g.chip))] := hl
  have B45 : ∀ (H : Heap) (locs : List Loc) (ls : Array Slot) (st : CS) , HC g A s (wC g rt o st) H locs → lv_has ls 2 [] → f_C_afterZeroIdle_45 st  = Rv → W p l e rm_C_afterZeroIdle s m args below meth c H locs 0 0 Q (F0 m 45 ls []) := by
    intro H locs ls st   hC hl he
    unfold f_C_afterZeroIdle_45 at he
    exact RET (pc := 45) d_C_afterZeroIdle_45 hC he
  unfold f_C_afterZeroIdle at he
  refine lv_aload_n (pc := 0) hx hb d_C_afterZeroIdle_0 rfl (lv_at hl 0 rfl) ?_
  refine GC_aim (pc := 1) X hC d_C_afterZeroIdle_1 ?_
  refine lv_aload_n (pc := 4) hx hb d_C_afterZeroIdle_4 rfl (lv_at hl 0 rfl) ?_
  refine GC_registers (pc := 5) X hC d_C_afterZeroIdle_5 ?_
  refine GCR_x (pc := 8) X hC d_C_afterZeroIdle_8 ?_
  refine lv_iadd (pc := 11) hx hb d_C_afterZeroIdle_11 ?_
  refine lv_sipush (pc := 12) (v := 255) hx hb d_C_afterZeroIdle_12 (by decide) ?_
  refine lv_iand (pc := 15) hx hb d_C_afterZeroIdle_15 ?_
  refine lv_topi (fun y1 ey1 => ?_)
  replace he := bS_go he ey1.symm
  refine lv_istore_n (pc := 16) (nL := 2) (lv' := [(1, .int y1), (0, .ref (g.chip))]) hx hb d_C_afterZeroIdle_16 rfl hl (by decide) rfl (fun ls hl => ?_)
  refine lv_aload_n (pc := 17) hx hb d_C_afterZeroIdle_17 rfl (lv_at hl 1 rfl) ?_
  refine GC_mode (pc := 18) X hC d_C_afterZeroIdle_18 ?_
  refine lv_iconst (pc := 21) (v := 2) hx hb d_C_afterZeroIdle_21 (by decide) ?_
  refine lv_icmp_ne (pc := 22) (tgt := 33) hx hb d_C_afterZeroIdle_22 (by decide) (fun h2 => ?_) (fun h2 => ?_)
  · replace he := if_no he h2
    refine lv_aload_n (pc := 33) hx hb d_C_afterZeroIdle_33 rfl (lv_at hl 1 rfl) ?_
    refine lv_iload_n (pc := 34) hx hb d_C_afterZeroIdle_34 rfl (lv_at hl 0 rfl) ?_
    refine PC_aim (pc := 35) X hC d_C_afterZeroIdle_35 (fun st3 H locs est3 hC => ?_)
    replace he := bS_go he est3
    refine lv_aload_n (pc := 38) hx hb d_C_afterZeroIdle_38 rfl (lv_at hl 1 rfl) ?_
    refine SC_stp_POINTER_LOW (pc := 39) X hC d_C_afterZeroIdle_39 ?_
    refine PC_step (pc := 42) X hC d_C_afterZeroIdle_42 (fun st4 H locs est4 hC => ?_)
    replace he := bS_go he est4
    exact B45 _ _ _ st4   hC (lv_sub hl [] rfl) he
  replace he := if_go he h2
  refine lv_aload_n (pc := 25) hx hb d_C_afterZeroIdle_25 rfl (lv_at hl 1 rfl) ?_
  refine lv_iload_n (pc := 26) hx hb d_C_afterZeroIdle_26 rfl (lv_at hl 0 rfl) ?_
  refine callVO (q0 := 0) (pc := 27) (As := [.int y1]) (rest := []) X (k_C_accessOperandAt l g rt o st y1) hC (NC_C_accessOperandAt_212 X rfl rfl ⟨by decide, by decide⟩) rfl rfl rfl hl.1 (Nat.le_of_ble_eq_true rfl) rfl d_C_afterZeroIdle_27 ⟨Nat.zero_le _, Nat.zero_le _⟩ (fun st5 H locs est5 hC => ?_)
  replace he := bS_go he est5
  refine lv_goto (pc := 30) (tgt := 45) hx hb d_C_afterZeroIdle_30 (by decide) ?_
  exact B45 _ _ _ st5   hC (lv_sub hl [] rfl) he
def f_C_afterPointerLow (st : CS) (v1 : Int32) : CS := bS (sV st 13 v1) (fun st1 => bS (sV st1 11 (((st1.1 11) + 1) &&& 255)) (fun st2 => bS (sS st2 (5 : Fin 35)) (fun st3 => st3)))
abbrev rm_C_afterPointerLow : Room := { frames := 0, cells := 0, slots := 0, locals := 0 }
set_option maxHeartbeats 4000000 in
set_option maxRecDepth 100000 in
theorem k_C_afterPointerLow (l : Launch) (g : CG) (rt : MS) (o : Nat → Int64) (st : CS) (v1 : Int32) : KV l g y_C_afterPointerLow (Cond.code y_C_afterPointerLow c_C_afterPointerLow 2 none :: ALL) rm_C_afterPointerLow [.ref (g.chip), .int v1] (wC g rt o) st (f_C_afterPointerLow st v1) := by
  refine KV.ofW (by decide) (Nat.le_of_ble_eq_true rfl) ?_
  intro p e s m args below meth c A Q ls Rv X he RET hC hl
  obtain ⟨hx, hb⟩ := FX_xb X
  have hl : lv_has ls 2 [(0, .ref (g.chip)), (1, .int v1)] := hl
  unfold f_C_afterPointerLow at he
  refine lv_aload_n (pc := 0) hx hb d_C_afterPointerLow_0 rfl (lv_at hl 0 rfl) ?_
  refine lv_iload_n (pc := 1) hx hb d_C_afterPointerLow_1 rfl (lv_at hl 1 rfl) ?_
  refine PC_held (pc := 2) X hC d_C_afterPointerLow_2 (fun st1 H locs est1 hC => ?_)
  replace he := bS_go he est1
  refine lv_aload_n (pc := 5) hx hb d_C_afterPointerLow_5 rfl (lv_at hl 0 rfl) ?_
  refine lv_aload_n (pc := 6) hx hb d_C_afterPointerLow_6 rfl (lv_at hl 0 rfl) ?_
  refine GC_aim (pc := 7) X hC d_C_afterPointerLow_7 ?_
  refine lv_iconst (pc := 10) (v := 1) hx hb d_C_afterPointerLow_10 (by decide) ?_
  refine lv_iadd (pc := 11) hx hb d_C_afterPointerLow_11 ?_
  refine lv_sipush (pc := 12) (v := 255) hx hb d_C_afterPointerLow_12 (by decide) ?_
  refine lv_iand (pc := 15) hx hb d_C_afterPointerLow_15 ?_
  refine PC_aim (pc := 16) X hC d_C_afterPointerLow_16 (fun st2 H locs est2 hC => ?_)
  replace he := bS_go he est2
  refine lv_aload_n (pc := 19) hx hb d_C_afterPointerLow_19 rfl (lv_at hl 0 rfl) ?_
  refine SC_stp_POINTER_PAGE (pc := 20) X hC d_C_afterPointerLow_20 ?_
  refine PC_step (pc := 23) X hC d_C_afterPointerLow_23 (fun st3 H locs est3 hC => ?_)
  replace he := bS_go he est3
  exact RET (pc := 26) d_C_afterPointerLow_26 hC he
def f_C_accessIndexed_71 (st : CS)  : CS := st
def f_C_accessIndexed_53 (st : CS) (v3 : Int32) (v4 : Int32) : CS := bS (sV st 12 v3) (fun st6 => bS (sV st6 11 v4) (fun st7 => bS (sS st7 (8 : Fin 35)) (fun st8 => f_C_accessIndexed_71 st8 )))
def f_C_accessIndexed (st : CS) (v1 : Int32) (v2 : Int32) : CS := bS (((((st.1 13) + (256 * v1)) + v2) &&& 65535) : Int32) (fun y1 => bS (((256 * v1) + (y1 &&& 255)) : Int32) (fun y2 => if st.2.2.1 = (0 : Fin 16) then (if y1 = y2 then (bS (f_C_accessOperandAt st y1) (fun st5 => f_C_accessIndexed_71 st5 )) else (f_C_accessIndexed_53 st y1 y2)) else (f_C_accessIndexed_53 st y1 y2)))
abbrev rm_C_accessIndexed : Room := { frames := 2, cells := 0, slots := 0, locals := 41 }
set_option maxHeartbeats 4000000 in
set_option maxRecDepth 100000 in
theorem k_C_accessIndexed (l : Launch) (g : CG) (rt : MS) (o : Nat → Int64) (st : CS) (v1 : Int32) (v2 : Int32) : KV l g y_C_accessIndexed (Cond.code y_C_accessIndexed c_C_accessIndexed 5 none :: ALL) rm_C_accessIndexed [.ref (g.chip), .int v1, .int v2] (wC g rt o) st (f_C_accessIndexed st v1 v2) := by
  refine KV.ofW (by decide) (Nat.le_of_ble_eq_true rfl) ?_
  intro p e s m args below meth c A Q ls Rv X he RET hC hl
  obtain ⟨hx, hb⟩ := FX_xb X
  have hl : lv_has ls 5 [(0, .ref (g.chip)), (1, .int v1), (2, .int v2)] := hl
  have B71 : ∀ (H : Heap) (locs : List Loc) (ls : Array Slot) (st : CS) , HC g A s (wC g rt o st) H locs → lv_has ls 5 [] → f_C_accessIndexed_71 st  = Rv → W p l e rm_C_accessIndexed s m args below meth c H locs 0 0 Q (F0 m 71 ls []) := by
    intro H locs ls st   hC hl he
    unfold f_C_accessIndexed_71 at he
    exact RET (pc := 71) d_C_accessIndexed_71 hC he
  have B53 : ∀ (H : Heap) (locs : List Loc) (ls : Array Slot) (st : CS) (v3 : Int32) (v4 : Int32), HC g A s (wC g rt o st) H locs → lv_has ls 5 [(0, .ref (g.chip)), (3, .int v3), (4, .int v4)] → f_C_accessIndexed_53 st v3 v4 = Rv → W p l e rm_C_accessIndexed s m args below meth c H locs 0 0 Q (F0 m 53 ls []) := by
    intro H locs ls st v3 v4  hC hl he
    unfold f_C_accessIndexed_53 at he
    refine lv_aload_n (pc := 53) hx hb d_C_accessIndexed_53 rfl (lv_at hl 0 rfl) ?_
    refine lv_iload_n (pc := 54) hx hb d_C_accessIndexed_54 rfl (lv_at hl 1 rfl) ?_
    refine PC_target (pc := 55) X hC d_C_accessIndexed_55 (fun st6 H locs est6 hC => ?_)
    replace he := bS_go he est6
    refine lv_aload_n (pc := 58) hx hb d_C_accessIndexed_58 rfl (lv_at hl 0 rfl) ?_
    refine lv_iload (pc := 59) hx hb d_C_accessIndexed_59 (lv_at hl 2 rfl) ?_
    refine PC_aim (pc := 61) X hC d_C_accessIndexed_61 (fun st7 H locs est7 hC => ?_)
    replace he := bS_go he est7
    refine lv_aload_n (pc := 64) hx hb d_C_accessIndexed_64 rfl (lv_at hl 0 rfl) ?_
    refine SC_stp_HALF_IDLE (pc := 65) X hC d_C_accessIndexed_65 ?_
    refine PC_step (pc := 68) X hC d_C_accessIndexed_68 (fun st8 H locs est8 hC => ?_)
    replace he := bS_go he est8
    exact B71 _ _ _ st8   hC (lv_sub hl [] rfl) he
  unfold f_C_accessIndexed at he
  refine lv_aload_n (pc := 0) hx hb d_C_accessIndexed_0 rfl (lv_at hl 0 rfl) ?_
  refine GC_held (pc := 1) X hC d_C_accessIndexed_1 ?_
  refine lv_sipush (pc := 4) (v := 256) hx hb d_C_accessIndexed_4 (by decide) ?_
  refine lv_iload_n (pc := 7) hx hb d_C_accessIndexed_7 rfl (lv_at hl 1 rfl) ?_
  refine lv_imul (pc := 8) hx hb d_C_accessIndexed_8 ?_
  refine lv_iadd (pc := 9) hx hb d_C_accessIndexed_9 ?_
  refine lv_iload_n (pc := 10) hx hb d_C_accessIndexed_10 rfl (lv_at hl 2 rfl) ?_
  refine lv_iadd (pc := 11) hx hb d_C_accessIndexed_11 ?_
  refine LC_101 (pc := 12) X d_C_accessIndexed_12 ?_
  refine lv_iand (pc := 14) hx hb d_C_accessIndexed_14 ?_
  refine lv_topi (fun y1 ey1 => ?_)
  replace he := bS_go he ey1.symm
  refine lv_istore_n (pc := 15) (nL := 5) (lv' := [(3, .int y1), (0, .ref (g.chip)), (1, .int v1), (2, .int v2)]) hx hb d_C_accessIndexed_15 rfl hl (by decide) rfl (fun ls hl => ?_)
  refine lv_sipush (pc := 16) (v := 256) hx hb d_C_accessIndexed_16 (by decide) ?_
  refine lv_iload_n (pc := 19) hx hb d_C_accessIndexed_19 rfl (lv_at hl 2 rfl) ?_
  refine lv_imul (pc := 20) hx hb d_C_accessIndexed_20 ?_
  refine lv_iload_n (pc := 21) hx hb d_C_accessIndexed_21 rfl (lv_at hl 0 rfl) ?_
  refine lv_sipush (pc := 22) (v := 255) hx hb d_C_accessIndexed_22 (by decide) ?_
  refine lv_iand (pc := 25) hx hb d_C_accessIndexed_25 ?_
  refine lv_iadd (pc := 26) hx hb d_C_accessIndexed_26 ?_
  refine lv_topi (fun y2 ey2 => ?_)
  replace he := bS_go he ey2.symm
  refine lv_istore (pc := 27) (nL := 5) (lv' := [(4, .int y2), (3, .int y1), (0, .ref (g.chip)), (1, .int v1), (2, .int v2)]) hx hb d_C_accessIndexed_27 hl (by decide) rfl (fun ls hl => ?_)
  refine lv_aload_n (pc := 29) hx hb d_C_accessIndexed_29 rfl (lv_at hl 2 rfl) ?_
  refine GC_kind (pc := 30) X hC d_C_accessIndexed_30 ?_
  refine SC_knd_READ (pc := 33) X hC d_C_accessIndexed_33 ?_
  refine acK_ne (pc := 36) (tgt := 53) (i := st.2.2.1) (j := (0 : Fin 16)) X d_C_accessIndexed_36 (by decide) (fun h3 => ?_) (fun h3 => ?_)
  · replace he := if_no he h3
    exact B53 _ _ _ st y1 y2  hC (lv_sub hl [2, 1, 0] rfl) he
  replace he := if_go he h3
  refine lv_iload_n (pc := 39) hx hb d_C_accessIndexed_39 rfl (lv_at hl 1 rfl) ?_
  refine lv_iload (pc := 40) hx hb d_C_accessIndexed_40 (lv_at hl 0 rfl) ?_
  refine lv_icmp_ne (pc := 42) (tgt := 53) hx hb d_C_accessIndexed_42 (by decide) (fun h4 => ?_) (fun h4 => ?_)
  · replace he := if_no he h4
    exact B53 _ _ _ st y1 y2  hC (lv_sub hl [2, 1, 0] rfl) he
  replace he := if_go he h4
  refine lv_aload_n (pc := 45) hx hb d_C_accessIndexed_45 rfl (lv_at hl 2 rfl) ?_
  refine lv_iload_n (pc := 46) hx hb d_C_accessIndexed_46 rfl (lv_at hl 1 rfl) ?_
  refine callVO (q0 := 0) (pc := 47) (As := [.int y1]) (rest := []) X (k_C_accessOperandAt l g rt o st y1) hC (NC_C_accessOperandAt_212 X rfl rfl ⟨by decide, by decide⟩) rfl rfl rfl hl.1 (Nat.le_of_ble_eq_true rfl) rfl d_C_accessIndexed_47 ⟨Nat.zero_le _, Nat.zero_le _⟩ (fun st5 H locs est5 hC => ?_)
  replace he := bS_go he est5
  refine lv_goto (pc := 50) (tgt := 71) hx hb d_C_accessIndexed_50 (by decide) ?_
  exact B71 _ _ _ st5   hC (lv_sub hl [] rfl) he
def f_C_afterPointerPage_37 (st : CS)  : CS := st
def f_C_afterPointerPage (st : CS) (v1 : Int32) : CS := if (st.1 8) = 5 then (bS (f_C_accessOperandAt st ((st.1 13) + (256 * v1))) (fun st3 => f_C_afterPointerPage_37 st3 )) else (bS (f_C_accessIndexed st v1 (st.1 2)) (fun st2 => f_C_afterPointerPage_37 st2 ))
abbrev rm_C_afterPointerPage : Room := { frames := 3, cells := 0, slots := 0, locals := 65 }
set_option maxHeartbeats 4000000 in
set_option maxRecDepth 100000 in
theorem k_C_afterPointerPage (l : Launch) (g : CG) (rt : MS) (o : Nat → Int64) (st : CS) (v1 : Int32) : KV l g y_C_afterPointerPage (Cond.code y_C_afterPointerPage c_C_afterPointerPage 2 none :: ALL) rm_C_afterPointerPage [.ref (g.chip), .int v1] (wC g rt o) st (f_C_afterPointerPage st v1) := by
  refine KV.ofW (by decide) (Nat.le_of_ble_eq_true rfl) ?_
  intro p e s m args below meth c A Q ls Rv X he RET hC hl
  obtain ⟨hx, hb⟩ := FX_xb X
  have hl : lv_has ls 2 [(0, .ref (g.chip)), (1, .int v1)] := hl
  have B37 : ∀ (H : Heap) (locs : List Loc) (ls : Array Slot) (st : CS) , HC g A s (wC g rt o st) H locs → lv_has ls 2 [] → f_C_afterPointerPage_37 st  = Rv → W p l e rm_C_afterPointerPage s m args below meth c H locs 0 0 Q (F0 m 37 ls []) := by
    intro H locs ls st   hC hl he
    unfold f_C_afterPointerPage_37 at he
    exact RET (pc := 37) d_C_afterPointerPage_37 hC he
  unfold f_C_afterPointerPage at he
  refine lv_aload_n (pc := 0) hx hb d_C_afterPointerPage_0 rfl (lv_at hl 0 rfl) ?_
  refine GC_mode (pc := 1) X hC d_C_afterPointerPage_1 ?_
  refine lv_iconst (pc := 4) (v := 5) hx hb d_C_afterPointerPage_4 (by decide) ?_
  refine lv_icmp_ne (pc := 5) (tgt := 25) hx hb d_C_afterPointerPage_5 (by decide) (fun h1 => ?_) (fun h1 => ?_)
  · replace he := if_no he h1
    refine lv_aload_n (pc := 25) hx hb d_C_afterPointerPage_25 rfl (lv_at hl 0 rfl) ?_
    refine lv_iload_n (pc := 26) hx hb d_C_afterPointerPage_26 rfl (lv_at hl 1 rfl) ?_
    refine lv_aload_n (pc := 27) hx hb d_C_afterPointerPage_27 rfl (lv_at hl 0 rfl) ?_
    refine GC_registers (pc := 28) X hC d_C_afterPointerPage_28 ?_
    refine GCR_y (pc := 31) X hC d_C_afterPointerPage_31 ?_
    refine callVO (q0 := 0) (pc := 34) (As := [.int v1, .int (st.1 2)]) (rest := []) X (k_C_accessIndexed l g rt o st v1 (st.1 2)) hC (NC_C_accessIndexed_354 X rfl rfl ⟨by decide, by decide⟩) rfl rfl rfl hl.1 (Nat.le_of_ble_eq_true rfl) rfl d_C_afterPointerPage_34 ⟨Nat.zero_le _, Nat.zero_le _⟩ (fun st2 H locs est2 hC => ?_)
    replace he := bS_go he est2
    exact B37 _ _ _ st2   hC (lv_sub hl [] rfl) he
  replace he := if_go he h1
  refine lv_aload_n (pc := 8) hx hb d_C_afterPointerPage_8 rfl (lv_at hl 0 rfl) ?_
  refine lv_aload_n (pc := 9) hx hb d_C_afterPointerPage_9 rfl (lv_at hl 0 rfl) ?_
  refine GC_held (pc := 10) X hC d_C_afterPointerPage_10 ?_
  refine lv_sipush (pc := 13) (v := 256) hx hb d_C_afterPointerPage_13 (by decide) ?_
  refine lv_iload_n (pc := 16) hx hb d_C_afterPointerPage_16 rfl (lv_at hl 1 rfl) ?_
  refine lv_imul (pc := 17) hx hb d_C_afterPointerPage_17 ?_
  refine lv_iadd (pc := 18) hx hb d_C_afterPointerPage_18 ?_
  refine callVO (q0 := 0) (pc := 19) (As := [.int ((st.1 13) + (256 * v1))]) (rest := []) X (k_C_accessOperandAt l g rt o st ((st.1 13) + (256 * v1))) hC (NC_C_accessOperandAt_212 X rfl rfl ⟨by decide, by decide⟩) rfl rfl rfl hl.1 (Nat.le_of_ble_eq_true rfl) rfl d_C_afterPointerPage_19 ⟨Nat.zero_le _, Nat.zero_le _⟩ (fun st3 H locs est3 hC => ?_)
  replace he := bS_go he est3
  refine lv_goto (pc := 22) (tgt := 37) hx hb d_C_afterPointerPage_22 (by decide) ?_
  exact B37 _ _ _ st3   hC (lv_sub hl [] rfl) he
def f_C_afterFarLow_32 (st : CS) (s0 : Fin 35) : CS := bS (sS st s0) (fun st4 => st4)
def f_C_afterFarLow (st : CS) (v1 : Int32) : CS := bS (f_R_nextPc st ) (fun st1 => bS (sV st1 13 v1) (fun st2 => if st2.2.2.1 = (5 : Fin 16) then (f_C_afterFarLow_32 st2 (19 : Fin 35)) else (f_C_afterFarLow_32 st2 (7 : Fin 35))))
abbrev rm_C_afterFarLow : Room := { frames := 1, cells := 0, slots := 0, locals := 20 }
set_option maxHeartbeats 4000000 in
set_option maxRecDepth 100000 in
theorem k_C_afterFarLow (l : Launch) (g : CG) (rt : MS) (o : Nat → Int64) (st : CS) (v1 : Int32) : KV l g y_C_afterFarLow (Cond.code y_C_afterFarLow c_C_afterFarLow 2 none :: ALL) rm_C_afterFarLow [.ref (g.chip), .int v1] (wC g rt o) st (f_C_afterFarLow st v1) := by
  refine KV.ofW (by decide) (Nat.le_of_ble_eq_true rfl) ?_
  intro p e s m args below meth c A Q ls Rv X he RET hC hl
  obtain ⟨hx, hb⟩ := FX_xb X
  have hl : lv_has ls 2 [(0, .ref (g.chip)), (1, .int v1)] := hl
  have B32 : ∀ (H : Heap) (locs : List Loc) (ls : Array Slot) (st : CS) (s0 : Fin 35), HC g A s (wC g rt o st) H locs → lv_has ls 2 [] → f_C_afterFarLow_32 st s0 = Rv → W p l e rm_C_afterFarLow s m args below meth c H locs 0 0 Q (F0 m 32 ls [.ref (g.adS (s0).val), .ref (g.chip)]) := by
    intro H locs ls st s0  hC hl he
    unfold f_C_afterFarLow_32 at he
    refine PC_step (pc := 32) X hC d_C_afterFarLow_32 (fun st4 H locs est4 hC => ?_)
    replace he := bS_go he est4
    exact RET (pc := 35) d_C_afterFarLow_35 hC he
  unfold f_C_afterFarLow at he
  refine lv_aload_n (pc := 0) hx hb d_C_afterFarLow_0 rfl (lv_at hl 0 rfl) ?_
  refine GC_registers (pc := 1) X hC d_C_afterFarLow_1 ?_
  refine callVN (q0 := 3) (pc := 4) (As := []) (rest := []) X (k_R_nextPc l g rt o st ) hC (NC_R_nextPc_185 X rfl rfl ⟨by decide, by decide⟩) rfl rfl rfl hl.1 (Nat.le_of_ble_eq_true rfl) rfl d_C_afterFarLow_4 ⟨Nat.zero_le _, Nat.zero_le _⟩ (fun st1 H locs est1 hC => ?_)
  replace he := bS_go he est1
  refine lv_aload_n (pc := 7) hx hb d_C_afterFarLow_7 rfl (lv_at hl 0 rfl) ?_
  refine lv_iload_n (pc := 8) hx hb d_C_afterFarLow_8 rfl (lv_at hl 1 rfl) ?_
  refine PC_held (pc := 9) X hC d_C_afterFarLow_9 (fun st2 H locs est2 hC => ?_)
  replace he := bS_go he est2
  refine lv_aload_n (pc := 12) hx hb d_C_afterFarLow_12 rfl (lv_at hl 0 rfl) ?_
  refine lv_aload_n (pc := 13) hx hb d_C_afterFarLow_13 rfl (lv_at hl 0 rfl) ?_
  refine GC_kind (pc := 14) X hC d_C_afterFarLow_14 ?_
  refine SC_knd_CALL (pc := 17) X hC d_C_afterFarLow_17 ?_
  refine acK_ne (pc := 20) (tgt := 29) (i := st2.2.2.1) (j := (5 : Fin 16)) X d_C_afterFarLow_20 (by decide) (fun h3 => ?_) (fun h3 => ?_)
  · replace he := if_no he h3
    refine SC_stp_FAR_PAGE (pc := 29) X hC d_C_afterFarLow_29 ?_
    exact B32 _ _ _ st2 (7 : Fin 35)  hC (lv_sub hl [] rfl) he
  replace he := if_go he h3
  refine SC_stp_STACK_IDLE (pc := 23) X hC d_C_afterFarLow_23 ?_
  refine lv_goto (pc := 26) (tgt := 32) hx hb d_C_afterFarLow_26 (by decide) ?_
  exact B32 _ _ _ st2 (19 : Fin 35)  hC (lv_sub hl [] rfl) he
def f_C_goTo (st : CS) (v1 : Int32) : CS := bS (sV st 4 (v1 &&& 65535)) (fun st1 => bS (f_C_end st1 ) (fun st2 => st2))
abbrev rm_C_goTo : Room := { frames := 2, cells := 0, slots := 0, locals := 43 }
set_option maxHeartbeats 4000000 in
set_option maxRecDepth 100000 in
theorem k_C_goTo (l : Launch) (g : CG) (rt : MS) (o : Nat → Int64) (st : CS) (v1 : Int32) : KV l g y_C_goTo (Cond.code y_C_goTo c_C_goTo 2 none :: ALL) rm_C_goTo [.ref (g.chip), .int v1] (wC g rt o) st (f_C_goTo st v1) := by
  refine KV.ofW (by decide) (Nat.le_of_ble_eq_true rfl) ?_
  intro p e s m args below meth c A Q ls Rv X he RET hC hl
  obtain ⟨hx, hb⟩ := FX_xb X
  have hl : lv_has ls 2 [(0, .ref (g.chip)), (1, .int v1)] := hl
  unfold f_C_goTo at he
  refine lv_aload_n (pc := 0) hx hb d_C_goTo_0 rfl (lv_at hl 0 rfl) ?_
  refine GC_registers (pc := 1) X hC d_C_goTo_1 ?_
  refine lv_iload_n (pc := 4) hx hb d_C_goTo_4 rfl (lv_at hl 1 rfl) ?_
  refine LC_101 (pc := 5) X d_C_goTo_5 ?_
  refine lv_iand (pc := 7) hx hb d_C_goTo_7 ?_
  refine PCR_pc (pc := 8) X hC d_C_goTo_8 (fun st1 H locs est1 hC => ?_)
  replace he := bS_go he est1
  refine lv_aload_n (pc := 11) hx hb d_C_goTo_11 rfl (lv_at hl 0 rfl) ?_
  refine callVO (q0 := 0) (pc := 12) (As := []) (rest := []) X (k_C_end l g rt o st1 ) hC (NC_C_end_161 X rfl rfl ⟨by decide, by decide⟩) rfl rfl rfl hl.1 (Nat.le_of_ble_eq_true rfl) rfl d_C_goTo_12 ⟨Nat.zero_le _, Nat.zero_le _⟩ (fun st2 H locs est2 hC => ?_)
  replace he := bS_go he est2
  exact RET (pc := 15) d_C_goTo_15 hC he
def f_C_afterFarPage_79 (st : CS)  : CS := st
def f_C_afterFarPage_20 (st : CS) (v1 : Int32) : CS := bS (f_C_goTo st ((st.1 13) + (256 * v1))) (fun st7 => st7)
def f_C_afterFarPage (st : CS) (v1 : Int32) : CS := if st.2.2.1 = (4 : Fin 16) then (f_C_afterFarPage_20 st v1) else (if st.2.2.1 = (5 : Fin 16) then (f_C_afterFarPage_20 st v1) else (bS (f_R_nextPc st ) (fun st3 => if (st3.1 8) = 3 then (bS (f_C_accessOperandAt st3 ((st3.1 13) + (256 * v1))) (fun st6 => f_C_afterFarPage_79 st6 )) else (bS (f_C_accessIndexed st3 v1 (st3.1 1)) (fun st5 => f_C_afterFarPage_79 st5 )))))
abbrev rm_C_afterFarPage : Room := { frames := 3, cells := 0, slots := 0, locals := 65 }
set_option maxHeartbeats 4000000 in
set_option maxRecDepth 100000 in
theorem k_C_afterFarPage (l : Launch) (g : CG) (rt : MS) (o : Nat → Int64) (st : CS) (v1 : Int32) : KV l g y_C_afterFarPage (Cond.code y_C_afterFarPage c_C_afterFarPage 2 none :: ALL) rm_C_afterFarPage [.ref (g.chip), .int v1] (wC g rt o) st (f_C_afterFarPage st v1) := by
  refine KV.ofW (by decide) (Nat.le_of_ble_eq_true rfl) ?_
  intro p e s m args below meth c A Q ls Rv X he RET hC hl
  obtain ⟨hx, hb⟩ := FX_xb X
  have hl : lv_has ls 2 [(0, .ref (g.chip)), (1, .int v1)] := hl
  have B79 : ∀ (H : Heap) (locs : List Loc) (ls : Array Slot) (st : CS) , HC g A s (wC g rt o st) H locs → lv_has ls 2 [] → f_C_afterFarPage_79 st  = Rv → W p l e rm_C_afterFarPage s m args below meth c H locs 0 0 Q (F0 m 79 ls []) := by
    intro H locs ls st   hC hl he
    unfold f_C_afterFarPage_79 at he
    exact RET (pc := 79) d_C_afterFarPage_79 hC he
  have B20 : ∀ (H : Heap) (locs : List Loc) (ls : Array Slot) (st : CS) (v1 : Int32), HC g A s (wC g rt o st) H locs → lv_has ls 2 [(0, .ref (g.chip)), (1, .int v1)] → f_C_afterFarPage_20 st v1 = Rv → W p l e rm_C_afterFarPage s m args below meth c H locs 0 0 Q (F0 m 20 ls []) := by
    intro H locs ls st v1  hC hl he
    unfold f_C_afterFarPage_20 at he
    refine lv_aload_n (pc := 20) hx hb d_C_afterFarPage_20 rfl (lv_at hl 0 rfl) ?_
    refine lv_aload_n (pc := 21) hx hb d_C_afterFarPage_21 rfl (lv_at hl 0 rfl) ?_
    refine GC_held (pc := 22) X hC d_C_afterFarPage_22 ?_
    refine lv_sipush (pc := 25) (v := 256) hx hb d_C_afterFarPage_25 (by decide) ?_
    refine lv_iload_n (pc := 28) hx hb d_C_afterFarPage_28 rfl (lv_at hl 1 rfl) ?_
    refine lv_imul (pc := 29) hx hb d_C_afterFarPage_29 ?_
    refine lv_iadd (pc := 30) hx hb d_C_afterFarPage_30 ?_
    refine callVO (q0 := 0) (pc := 31) (As := [.int ((st.1 13) + (256 * v1))]) (rest := []) X (k_C_goTo l g rt o st ((st.1 13) + (256 * v1))) hC (NC_C_goTo_224 X rfl rfl ⟨by decide, by decide⟩) rfl rfl rfl hl.1 (Nat.le_of_ble_eq_true rfl) rfl d_C_afterFarPage_31 ⟨Nat.zero_le _, Nat.zero_le _⟩ (fun st7 H locs est7 hC => ?_)
    replace he := bS_go he est7
    exact RET (pc := 34) d_C_afterFarPage_34 hC he
  unfold f_C_afterFarPage at he
  refine lv_aload_n (pc := 0) hx hb d_C_afterFarPage_0 rfl (lv_at hl 0 rfl) ?_
  refine GC_kind (pc := 1) X hC d_C_afterFarPage_1 ?_
  refine SC_knd_JUMP (pc := 4) X hC d_C_afterFarPage_4 ?_
  refine acK_eq (pc := 7) (tgt := 20) (i := st.2.2.1) (j := (4 : Fin 16)) X d_C_afterFarPage_7 (by decide) (fun h1 => ?_) (fun h1 => ?_)
  · replace he := if_go he h1
    exact B20 _ _ _ st v1  hC (lv_sub hl [0, 1] rfl) he
  replace he := if_no he h1
  refine lv_aload_n (pc := 10) hx hb d_C_afterFarPage_10 rfl (lv_at hl 0 rfl) ?_
  refine GC_kind (pc := 11) X hC d_C_afterFarPage_11 ?_
  refine SC_knd_CALL (pc := 14) X hC d_C_afterFarPage_14 ?_
  refine acK_ne (pc := 17) (tgt := 35) (i := st.2.2.1) (j := (5 : Fin 16)) X d_C_afterFarPage_17 (by decide) (fun h2 => ?_) (fun h2 => ?_)
  · replace he := if_no he h2
    refine lv_aload_n (pc := 35) hx hb d_C_afterFarPage_35 rfl (lv_at hl 0 rfl) ?_
    refine GC_registers (pc := 36) X hC d_C_afterFarPage_36 ?_
    refine callVN (q0 := 3) (pc := 39) (As := []) (rest := []) X (k_R_nextPc l g rt o st ) hC (NC_R_nextPc_185 X rfl rfl ⟨by decide, by decide⟩) rfl rfl rfl hl.1 (Nat.le_of_ble_eq_true rfl) rfl d_C_afterFarPage_39 ⟨Nat.zero_le _, Nat.zero_le _⟩ (fun st3 H locs est3 hC => ?_)
    replace he := bS_go he est3
    refine lv_aload_n (pc := 42) hx hb d_C_afterFarPage_42 rfl (lv_at hl 0 rfl) ?_
    refine GC_mode (pc := 43) X hC d_C_afterFarPage_43 ?_
    refine lv_iconst (pc := 46) (v := 3) hx hb d_C_afterFarPage_46 (by decide) ?_
    refine lv_icmp_ne (pc := 47) (tgt := 67) hx hb d_C_afterFarPage_47 (by decide) (fun h4 => ?_) (fun h4 => ?_)
    · replace he := if_no he h4
      refine lv_aload_n (pc := 67) hx hb d_C_afterFarPage_67 rfl (lv_at hl 0 rfl) ?_
      refine lv_iload_n (pc := 68) hx hb d_C_afterFarPage_68 rfl (lv_at hl 1 rfl) ?_
      refine lv_aload_n (pc := 69) hx hb d_C_afterFarPage_69 rfl (lv_at hl 0 rfl) ?_
      refine GC_registers (pc := 70) X hC d_C_afterFarPage_70 ?_
      refine GCR_x (pc := 73) X hC d_C_afterFarPage_73 ?_
      refine callVO (q0 := 0) (pc := 76) (As := [.int v1, .int (st3.1 1)]) (rest := []) X (k_C_accessIndexed l g rt o st3 v1 (st3.1 1)) hC (NC_C_accessIndexed_354 X rfl rfl ⟨by decide, by decide⟩) rfl rfl rfl hl.1 (Nat.le_of_ble_eq_true rfl) rfl d_C_afterFarPage_76 ⟨Nat.zero_le _, Nat.zero_le _⟩ (fun st5 H locs est5 hC => ?_)
      replace he := bS_go he est5
      exact B79 _ _ _ st5   hC (lv_sub hl [] rfl) he
    replace he := if_go he h4
    refine lv_aload_n (pc := 50) hx hb d_C_afterFarPage_50 rfl (lv_at hl 0 rfl) ?_
    refine lv_aload_n (pc := 51) hx hb d_C_afterFarPage_51 rfl (lv_at hl 0 rfl) ?_
    refine GC_held (pc := 52) X hC d_C_afterFarPage_52 ?_
    refine lv_sipush (pc := 55) (v := 256) hx hb d_C_afterFarPage_55 (by decide) ?_
    refine lv_iload_n (pc := 58) hx hb d_C_afterFarPage_58 rfl (lv_at hl 1 rfl) ?_
    refine lv_imul (pc := 59) hx hb d_C_afterFarPage_59 ?_
    refine lv_iadd (pc := 60) hx hb d_C_afterFarPage_60 ?_
    refine callVO (q0 := 0) (pc := 61) (As := [.int ((st3.1 13) + (256 * v1))]) (rest := []) X (k_C_accessOperandAt l g rt o st3 ((st3.1 13) + (256 * v1))) hC (NC_C_accessOperandAt_212 X rfl rfl ⟨by decide, by decide⟩) rfl rfl rfl hl.1 (Nat.le_of_ble_eq_true rfl) rfl d_C_afterFarPage_61 ⟨Nat.zero_le _, Nat.zero_le _⟩ (fun st6 H locs est6 hC => ?_)
    replace he := bS_go he est6
    refine lv_goto (pc := 64) (tgt := 79) hx hb d_C_afterFarPage_64 (by decide) ?_
    exact B79 _ _ _ st6   hC (lv_sub hl [] rfl) he
  replace he := if_go he h2
  exact B20 _ _ _ st v1  hC (lv_sub hl [0, 1] rfl) he
def f_C_afterChangeRead (st : CS) (v1 : Int32) : CS := bS (sV st 13 v1) (fun st1 => bS (sS st1 (12 : Fin 35)) (fun st2 => st2))
abbrev rm_C_afterChangeRead : Room := { frames := 0, cells := 0, slots := 0, locals := 0 }
set_option maxHeartbeats 4000000 in
set_option maxRecDepth 100000 in
theorem k_C_afterChangeRead (l : Launch) (g : CG) (rt : MS) (o : Nat → Int64) (st : CS) (v1 : Int32) : KV l g y_C_afterChangeRead (Cond.code y_C_afterChangeRead c_C_afterChangeRead 2 none :: ALL) rm_C_afterChangeRead [.ref (g.chip), .int v1] (wC g rt o) st (f_C_afterChangeRead st v1) := by
  refine KV.ofW (by decide) (Nat.le_of_ble_eq_true rfl) ?_
  intro p e s m args below meth c A Q ls Rv X he RET hC hl
  obtain ⟨hx, hb⟩ := FX_xb X
  have hl : lv_has ls 2 [(0, .ref (g.chip)), (1, .int v1)] := hl
  unfold f_C_afterChangeRead at he
  refine lv_aload_n (pc := 0) hx hb d_C_afterChangeRead_0 rfl (lv_at hl 0 rfl) ?_
  refine lv_iload_n (pc := 1) hx hb d_C_afterChangeRead_1 rfl (lv_at hl 1 rfl) ?_
  refine PC_held (pc := 2) X hC d_C_afterChangeRead_2 (fun st1 H locs est1 hC => ?_)
  replace he := bS_go he est1
  refine lv_aload_n (pc := 5) hx hb d_C_afterChangeRead_5 rfl (lv_at hl 0 rfl) ?_
  refine SC_stp_CHANGE_SAME (pc := 6) X hC d_C_afterChangeRead_6 ?_
  refine PC_step (pc := 9) X hC d_C_afterChangeRead_9 (fun st2 H locs est2 hC => ?_)
  replace he := bS_go he est2
  exact RET (pc := 12) d_C_afterChangeRead_12 hC he
def f_C_afterBranchDistance_68 (st : CS)  : CS := st
def f_C_afterBranchDistance_37 (st : CS) (s0 : Int32) : CS := bS (sV st 12 (((st.1 4) + s0) &&& 65535)) (fun st7 => bS (sS st7 (15 : Fin 35)) (fun st8 => f_C_afterBranchDistance_68 st8 ))
def f_C_afterBranchDistance (st : CS) (v1 : Int32) : CS := bS (f_R_nextPc st ) (fun st1 => bP (f_R_takesBranch st1 (st1.1 7)) (fun r3 st2 => if r3 = 0 then (bS (f_C_end st2 ) (fun st5 => f_C_afterBranchDistance_68 st5 )) else (if 128 ≤ v1 then (f_C_afterBranchDistance_37 st2 (v1 - 256)) else (f_C_afterBranchDistance_37 st2 v1))))
abbrev rm_C_afterBranchDistance : Room := { frames := 2, cells := 0, slots := 0, locals := 43 }
set_option maxHeartbeats 4000000 in
set_option maxRecDepth 100000 in
theorem k_C_afterBranchDistance (l : Launch) (g : CG) (rt : MS) (o : Nat → Int64) (st : CS) (v1 : Int32) : KV l g y_C_afterBranchDistance (Cond.code y_C_afterBranchDistance c_C_afterBranchDistance 3 none :: ALL) rm_C_afterBranchDistance [.ref (g.chip), .int v1] (wC g rt o) st (f_C_afterBranchDistance st v1) := by
  refine KV.ofW (by decide) (Nat.le_of_ble_eq_true rfl) ?_
  intro p e s m args below meth c A Q ls Rv X he RET hC hl
  obtain ⟨hx, hb⟩ := FX_xb X
  have hl : lv_has ls 3 [(0, .ref (g.chip)), (1, .int v1)] := hl
  have B68 : ∀ (H : Heap) (locs : List Loc) (ls : Array Slot) (st : CS) , HC g A s (wC g rt o st) H locs → lv_has ls 3 [] → f_C_afterBranchDistance_68 st  = Rv → W p l e rm_C_afterBranchDistance s m args below meth c H locs 0 0 Q (F0 m 68 ls []) := by
    intro H locs ls st   hC hl he
    unfold f_C_afterBranchDistance_68 at he
    exact RET (pc := 68) d_C_afterBranchDistance_68 hC he
  have B37 : ∀ (H : Heap) (locs : List Loc) (ls : Array Slot) (st : CS) (s0 : Int32), HC g A s (wC g rt o st) H locs → lv_has ls 3 [(0, .ref (g.chip))] → f_C_afterBranchDistance_37 st s0 = Rv → W p l e rm_C_afterBranchDistance s m args below meth c H locs 0 0 Q (F0 m 37 ls [.int s0]) := by
    intro H locs ls st s0  hC hl he
    unfold f_C_afterBranchDistance_37 at he
    refine lv_istore_n (pc := 37) (nL := 3) (lv' := [(2, .int s0), (0, .ref (g.chip))]) hx hb d_C_afterBranchDistance_37 rfl hl (by decide) rfl (fun ls hl => ?_)
    refine lv_aload_n (pc := 38) hx hb d_C_afterBranchDistance_38 rfl (lv_at hl 1 rfl) ?_
    refine lv_aload_n (pc := 39) hx hb d_C_afterBranchDistance_39 rfl (lv_at hl 1 rfl) ?_
    refine GC_registers (pc := 40) X hC d_C_afterBranchDistance_40 ?_
    refine GCR_pc (pc := 43) X hC d_C_afterBranchDistance_43 ?_
    refine lv_iload_n (pc := 46) hx hb d_C_afterBranchDistance_46 rfl (lv_at hl 0 rfl) ?_
    refine lv_iadd (pc := 47) hx hb d_C_afterBranchDistance_47 ?_
    refine LC_101 (pc := 48) X d_C_afterBranchDistance_48 ?_
    refine lv_iand (pc := 50) hx hb d_C_afterBranchDistance_50 ?_
    refine PC_target (pc := 51) X hC d_C_afterBranchDistance_51 (fun st7 H locs est7 hC => ?_)
    replace he := bS_go he est7
    refine lv_aload_n (pc := 54) hx hb d_C_afterBranchDistance_54 rfl (lv_at hl 1 rfl) ?_
    refine SC_stp_BRANCH_IDLE (pc := 55) X hC d_C_afterBranchDistance_55 ?_
    refine PC_step (pc := 58) X hC d_C_afterBranchDistance_58 (fun st8 H locs est8 hC => ?_)
    replace he := bS_go he est8
    refine lv_goto (pc := 61) (tgt := 68) hx hb d_C_afterBranchDistance_61 (by decide) ?_
    exact B68 _ _ _ st8   hC (lv_sub hl [] rfl) he
  unfold f_C_afterBranchDistance at he
  refine lv_aload_n (pc := 0) hx hb d_C_afterBranchDistance_0 rfl (lv_at hl 0 rfl) ?_
  refine GC_registers (pc := 1) X hC d_C_afterBranchDistance_1 ?_
  refine callVN (q0 := 3) (pc := 4) (As := []) (rest := []) X (k_R_nextPc l g rt o st ) hC (NC_R_nextPc_185 X rfl rfl ⟨by decide, by decide⟩) rfl rfl rfl hl.1 (Nat.le_of_ble_eq_true rfl) rfl d_C_afterBranchDistance_4 ⟨Nat.zero_le _, Nat.zero_le _⟩ (fun st1 H locs est1 hC => ?_)
  replace he := bS_go he est1
  refine lv_aload_n (pc := 7) hx hb d_C_afterBranchDistance_7 rfl (lv_at hl 0 rfl) ?_
  refine GC_registers (pc := 8) X hC d_C_afterBranchDistance_8 ?_
  refine lv_aload_n (pc := 11) hx hb d_C_afterBranchDistance_11 rfl (lv_at hl 0 rfl) ?_
  refine GC_operation (pc := 12) X hC d_C_afterBranchDistance_12 ?_
  refine callZN (q0 := 3) (pc := 15) (As := [.int (st1.1 7)]) (rest := []) X (k_R_takesBranch l g rt o st1 (st1.1 7)) hC (NC_R_takesBranch_374 X rfl rfl ⟨by decide, by decide⟩) rfl rfl rfl hl.1 (Nat.le_of_ble_eq_true rfl) rfl d_C_afterBranchDistance_15 ⟨Nat.zero_le _, Nat.zero_le _⟩ (fun r3 st2 H locs est2 br3 hC => ?_)
  replace he := bP_go he est2
  refine lv_if_eq (pc := 18) (tgt := 64) hx hb d_C_afterBranchDistance_18 (by decide) (fun h4 => ?_) (fun h4 => ?_)
  · replace he := if_go he h4
    refine lv_aload_n (pc := 64) hx hb d_C_afterBranchDistance_64 rfl (lv_at hl 0 rfl) ?_
    refine callVO (q0 := 0) (pc := 65) (As := []) (rest := []) X (k_C_end l g rt o st2 ) hC (NC_C_end_161 X rfl rfl ⟨by decide, by decide⟩) rfl rfl rfl hl.1 (Nat.le_of_ble_eq_true rfl) rfl d_C_afterBranchDistance_65 ⟨Nat.zero_le _, Nat.zero_le _⟩ (fun st5 H locs est5 hC => ?_)
    replace he := bS_go he est5
    exact B68 _ _ _ st5   hC (lv_sub hl [] rfl) he
  replace he := if_no he h4
  refine lv_iload_n (pc := 21) hx hb d_C_afterBranchDistance_21 rfl (lv_at hl 1 rfl) ?_
  refine lv_sipush (pc := 22) (v := 128) hx hb d_C_afterBranchDistance_22 (by decide) ?_
  refine lv_icmp_ge (pc := 25) (tgt := 32) hx hb d_C_afterBranchDistance_25 (by decide) (fun h6 => ?_) (fun h6 => ?_)
  · replace he := if_go he h6
    refine lv_iload_n (pc := 32) hx hb d_C_afterBranchDistance_32 rfl (lv_at hl 1 rfl) ?_
    refine lv_sipush (pc := 33) (v := 256) hx hb d_C_afterBranchDistance_33 (by decide) ?_
    refine lv_isub (pc := 36) hx hb d_C_afterBranchDistance_36 ?_
    exact B37 _ _ _ st2 (v1 - 256)  hC (lv_sub hl [0] rfl) he
  replace he := if_no he h6
  refine lv_iload_n (pc := 28) hx hb d_C_afterBranchDistance_28 rfl (lv_at hl 1 rfl) ?_
  refine lv_goto (pc := 29) (tgt := 37) hx hb d_C_afterBranchDistance_29 (by decide) ?_
  exact B37 _ _ _ st2 v1  hC (lv_sub hl [0] rfl) he
def f_C_afterBranchIdle_52 (st : CS)  : CS := st
def f_C_afterBranchIdle (st : CS)  : CS := bS ((((st.1 4) &&& 65280) + ((st.1 12) &&& 255)) : Int32) (fun y1 => if y1 = (st.1 12) then (bS (f_C_goTo st (st.1 12)) (fun st5 => f_C_afterBranchIdle_52 st5 )) else (bS (sV st 11 y1) (fun st3 => bS (sS st3 (16 : Fin 35)) (fun st4 => f_C_afterBranchIdle_52 st4 ))))
abbrev rm_C_afterBranchIdle : Room := { frames := 3, cells := 0, slots := 0, locals := 64 }
set_option maxHeartbeats 4000000 in
set_option maxRecDepth 100000 in
theorem k_C_afterBranchIdle (l : Launch) (g : CG) (rt : MS) (o : Nat → Int64) (st : CS)  : KV l g y_C_afterBranchIdle (Cond.code y_C_afterBranchIdle c_C_afterBranchIdle 2 none :: ALL) rm_C_afterBranchIdle [.ref (g.chip)] (wC g rt o) st (f_C_afterBranchIdle st ) := by
  refine KV.ofW (by decide) (Nat.le_of_ble_eq_true rfl) ?_
  intro p e s m args below meth c A Q ls Rv X he RET hC hl
  obtain ⟨hx, hb⟩ := FX_xb X
  have hl : lv_has ls 2 [(0, .ref (g.chip))] := hl
  have B52 : ∀ (H : Heap) (locs : List Loc) (ls : Array Slot) (st : CS) , HC g A s (wC g rt o st) H locs → lv_has ls 2 [] → f_C_afterBranchIdle_52 st  = Rv → W p l e rm_C_afterBranchIdle s m args below meth c H locs 0 0 Q (F0 m 52 ls []) := by
    intro H locs ls st   hC hl he
    unfold f_C_afterBranchIdle_52 at he
    exact RET (pc := 52) d_C_afterBranchIdle_52 hC he
  unfold f_C_afterBranchIdle at he
  refine lv_aload_n (pc := 0) hx hb d_C_afterBranchIdle_0 rfl (lv_at hl 0 rfl) ?_
  refine GC_registers (pc := 1) X hC d_C_afterBranchIdle_1 ?_
  refine GCR_pc (pc := 4) X hC d_C_afterBranchIdle_4 ?_
  refine LC_380 (pc := 7) X d_C_afterBranchIdle_7 ?_
  refine lv_iand (pc := 10) hx hb d_C_afterBranchIdle_10 ?_
  refine lv_aload_n (pc := 11) hx hb d_C_afterBranchIdle_11 rfl (lv_at hl 0 rfl) ?_
  refine GC_target (pc := 12) X hC d_C_afterBranchIdle_12 ?_
  refine lv_sipush (pc := 15) (v := 255) hx hb d_C_afterBranchIdle_15 (by decide) ?_
  refine lv_iand (pc := 18) hx hb d_C_afterBranchIdle_18 ?_
  refine lv_iadd (pc := 19) hx hb d_C_afterBranchIdle_19 ?_
  refine lv_topi (fun y1 ey1 => ?_)
  replace he := bS_go he ey1.symm
  refine lv_istore_n (pc := 20) (nL := 2) (lv' := [(1, .int y1), (0, .ref (g.chip))]) hx hb d_C_afterBranchIdle_20 rfl hl (by decide) rfl (fun ls hl => ?_)
  refine lv_iload_n (pc := 21) hx hb d_C_afterBranchIdle_21 rfl (lv_at hl 0 rfl) ?_
  refine lv_aload_n (pc := 22) hx hb d_C_afterBranchIdle_22 rfl (lv_at hl 1 rfl) ?_
  refine GC_target (pc := 23) X hC d_C_afterBranchIdle_23 ?_
  refine lv_icmp_ne (pc := 26) (tgt := 40) hx hb d_C_afterBranchIdle_26 (by decide) (fun h2 => ?_) (fun h2 => ?_)
  · replace he := if_no he h2
    refine lv_aload_n (pc := 40) hx hb d_C_afterBranchIdle_40 rfl (lv_at hl 1 rfl) ?_
    refine lv_iload_n (pc := 41) hx hb d_C_afterBranchIdle_41 rfl (lv_at hl 0 rfl) ?_
    refine PC_aim (pc := 42) X hC d_C_afterBranchIdle_42 (fun st3 H locs est3 hC => ?_)
    replace he := bS_go he est3
    refine lv_aload_n (pc := 45) hx hb d_C_afterBranchIdle_45 rfl (lv_at hl 1 rfl) ?_
    refine SC_stp_BRANCH_OTHER_PAGE (pc := 46) X hC d_C_afterBranchIdle_46 ?_
    refine PC_step (pc := 49) X hC d_C_afterBranchIdle_49 (fun st4 H locs est4 hC => ?_)
    replace he := bS_go he est4
    exact B52 _ _ _ st4   hC (lv_sub hl [] rfl) he
  replace he := if_go he h2
  refine lv_aload_n (pc := 29) hx hb d_C_afterBranchIdle_29 rfl (lv_at hl 1 rfl) ?_
  refine lv_aload_n (pc := 30) hx hb d_C_afterBranchIdle_30 rfl (lv_at hl 1 rfl) ?_
  refine GC_target (pc := 31) X hC d_C_afterBranchIdle_31 ?_
  refine callVO (q0 := 0) (pc := 34) (As := [.int (st.1 12)]) (rest := []) X (k_C_goTo l g rt o st (st.1 12)) hC (NC_C_goTo_224 X rfl rfl ⟨by decide, by decide⟩) rfl rfl rfl hl.1 (Nat.le_of_ble_eq_true rfl) rfl d_C_afterBranchIdle_34 ⟨Nat.zero_le _, Nat.zero_le _⟩ (fun st5 H locs est5 hC => ?_)
  replace he := bS_go he est5
  refine lv_goto (pc := 37) (tgt := 52) hx hb d_C_afterBranchIdle_37 (by decide) ?_
  exact B52 _ _ _ st5   hC (lv_sub hl [] rfl) he
def f_C_afterBreakNext (st : CS)  : CS := bS (f_R_nextPc st ) (fun st1 => bS (sS st1 (21 : Fin 35)) (fun st2 => st2))
abbrev rm_C_afterBreakNext : Room := { frames := 1, cells := 0, slots := 0, locals := 20 }
set_option maxHeartbeats 4000000 in
set_option maxRecDepth 100000 in
theorem k_C_afterBreakNext (l : Launch) (g : CG) (rt : MS) (o : Nat → Int64) (st : CS)  : KV l g y_C_afterBreakNext (Cond.code y_C_afterBreakNext c_C_afterBreakNext 1 none :: ALL) rm_C_afterBreakNext [.ref (g.chip)] (wC g rt o) st (f_C_afterBreakNext st ) := by
  refine KV.ofW (by decide) (Nat.le_of_ble_eq_true rfl) ?_
  intro p e s m args below meth c A Q ls Rv X he RET hC hl
  obtain ⟨hx, hb⟩ := FX_xb X
  have hl : lv_has ls 1 [(0, .ref (g.chip))] := hl
  unfold f_C_afterBreakNext at he
  refine lv_aload_n (pc := 0) hx hb d_C_afterBreakNext_0 rfl (lv_at hl 0 rfl) ?_
  refine GC_registers (pc := 1) X hC d_C_afterBreakNext_1 ?_
  refine callVN (q0 := 3) (pc := 4) (As := []) (rest := []) X (k_R_nextPc l g rt o st ) hC (NC_R_nextPc_185 X rfl rfl ⟨by decide, by decide⟩) rfl rfl rfl hl.1 (Nat.le_of_ble_eq_true rfl) rfl d_C_afterBreakNext_4 ⟨Nat.zero_le _, Nat.zero_le _⟩ (fun st1 H locs est1 hC => ?_)
  replace he := bS_go he est1
  refine lv_aload_n (pc := 7) hx hb d_C_afterBreakNext_7 rfl (lv_at hl 0 rfl) ?_
  refine SC_stp_PUSH_PAGE (pc := 8) X hC d_C_afterBreakNext_8 ?_
  refine PC_step (pc := 11) X hC d_C_afterBreakNext_11 (fun st2 H locs est2 hC => ?_)
  replace he := bS_go he est2
  exact RET (pc := 14) d_C_afterBreakNext_14 hC he
def f_C_afterPcIdle_51 (st : CS)  : CS := st
def f_C_afterPcIdle_48 (st : CS) (s0 : Fin 35) : CS := bS (sS st s0) (fun st5 => f_C_afterPcIdle_51 st5 )
def f_C_afterPcIdle (st : CS)  : CS := if st.2.2.1 = (6 : Fin 16) then (bS (f_R_operateAlone st (st.1 7)) (fun st3 => bS (f_C_end st3 ) (fun st4 => f_C_afterPcIdle_51 st4 ))) else (if st.2.2.1 = (7 : Fin 16) then (f_C_afterPcIdle_48 st (20 : Fin 35)) else (f_C_afterPcIdle_48 st (19 : Fin 35)))
abbrev rm_C_afterPcIdle : Room := { frames := 3, cells := 0, slots := 0, locals := 64 }
set_option maxHeartbeats 4000000 in
set_option maxRecDepth 100000 in
theorem k_C_afterPcIdle (l : Launch) (g : CG) (rt : MS) (o : Nat → Int64) (st : CS)  : KV l g y_C_afterPcIdle (Cond.code y_C_afterPcIdle c_C_afterPcIdle 1 none :: ALL) rm_C_afterPcIdle [.ref (g.chip)] (wC g rt o) st (f_C_afterPcIdle st ) := by
  refine KV.ofW (by decide) (Nat.le_of_ble_eq_true rfl) ?_
  intro p e s m args below meth c A Q ls Rv X he RET hC hl
  obtain ⟨hx, hb⟩ := FX_xb X
  have hl : lv_has ls 1 [(0, .ref (g.chip))] := hl
  have B51 : ∀ (H : Heap) (locs : List Loc) (ls : Array Slot) (st : CS) , HC g A s (wC g rt o st) H locs → lv_has ls 1 [] → f_C_afterPcIdle_51 st  = Rv → W p l e rm_C_afterPcIdle s m args below meth c H locs 0 0 Q (F0 m 51 ls []) := by
    intro H locs ls st   hC hl he
    unfold f_C_afterPcIdle_51 at he
    exact RET (pc := 51) d_C_afterPcIdle_51 hC he
  have B48 : ∀ (H : Heap) (locs : List Loc) (ls : Array Slot) (st : CS) (s0 : Fin 35), HC g A s (wC g rt o st) H locs → lv_has ls 1 [] → f_C_afterPcIdle_48 st s0 = Rv → W p l e rm_C_afterPcIdle s m args below meth c H locs 0 0 Q (F0 m 48 ls [.ref (g.adS (s0).val), .ref (g.chip)]) := by
    intro H locs ls st s0  hC hl he
    unfold f_C_afterPcIdle_48 at he
    refine PC_step (pc := 48) X hC d_C_afterPcIdle_48 (fun st5 H locs est5 hC => ?_)
    replace he := bS_go he est5
    exact B51 _ _ _ st5   hC (lv_sub hl [] rfl) he
  unfold f_C_afterPcIdle at he
  refine lv_aload_n (pc := 0) hx hb d_C_afterPcIdle_0 rfl (lv_at hl 0 rfl) ?_
  refine GC_kind (pc := 1) X hC d_C_afterPcIdle_1 ?_
  refine SC_knd_ON_REGISTERS (pc := 4) X hC d_C_afterPcIdle_4 ?_
  refine acK_ne (pc := 7) (tgt := 28) (i := st.2.2.1) (j := (6 : Fin 16)) X d_C_afterPcIdle_7 (by decide) (fun h1 => ?_) (fun h1 => ?_)
  · replace he := if_no he h1
    refine lv_aload_n (pc := 28) hx hb d_C_afterPcIdle_28 rfl (lv_at hl 0 rfl) ?_
    refine lv_aload_n (pc := 29) hx hb d_C_afterPcIdle_29 rfl (lv_at hl 0 rfl) ?_
    refine GC_kind (pc := 30) X hC d_C_afterPcIdle_30 ?_
    refine SC_knd_PUSH (pc := 33) X hC d_C_afterPcIdle_33 ?_
    refine acK_ne (pc := 36) (tgt := 45) (i := st.2.2.1) (j := (7 : Fin 16)) X d_C_afterPcIdle_36 (by decide) (fun h2 => ?_) (fun h2 => ?_)
    · replace he := if_no he h2
      refine SC_stp_STACK_IDLE (pc := 45) X hC d_C_afterPcIdle_45 ?_
      exact B48 _ _ _ st (19 : Fin 35)  hC (lv_sub hl [] rfl) he
    replace he := if_go he h2
    refine SC_stp_PUSH_REGISTER (pc := 39) X hC d_C_afterPcIdle_39 ?_
    refine lv_goto (pc := 42) (tgt := 48) hx hb d_C_afterPcIdle_42 (by decide) ?_
    exact B48 _ _ _ st (20 : Fin 35)  hC (lv_sub hl [] rfl) he
  replace he := if_go he h1
  refine lv_aload_n (pc := 10) hx hb d_C_afterPcIdle_10 rfl (lv_at hl 0 rfl) ?_
  refine GC_registers (pc := 11) X hC d_C_afterPcIdle_11 ?_
  refine lv_aload_n (pc := 14) hx hb d_C_afterPcIdle_14 rfl (lv_at hl 0 rfl) ?_
  refine GC_operation (pc := 15) X hC d_C_afterPcIdle_15 ?_
  refine callVN (q0 := 3) (pc := 18) (As := [.int (st.1 7)]) (rest := []) X (k_R_operateAlone l g rt o st (st.1 7)) hC (NC_R_operateAlone_384 X rfl rfl ⟨by decide, by decide⟩) rfl rfl rfl hl.1 (Nat.le_of_ble_eq_true rfl) rfl d_C_afterPcIdle_18 ⟨Nat.zero_le _, Nat.zero_le _⟩ (fun st3 H locs est3 hC => ?_)
  replace he := bS_go he est3
  refine lv_aload_n (pc := 21) hx hb d_C_afterPcIdle_21 rfl (lv_at hl 0 rfl) ?_
  refine callVO (q0 := 0) (pc := 22) (As := []) (rest := []) X (k_C_end l g rt o st3 ) hC (NC_C_end_161 X rfl rfl ⟨by decide, by decide⟩) rfl rfl rfl hl.1 (Nat.le_of_ble_eq_true rfl) rfl d_C_afterPcIdle_22 ⟨Nat.zero_le _, Nat.zero_le _⟩ (fun st4 H locs est4 hC => ?_)
  replace he := bS_go he est4
  refine lv_goto (pc := 25) (tgt := 51) hx hb d_C_afterPcIdle_25 (by decide) ?_
  exact B51 _ _ _ st4   hC (lv_sub hl [] rfl) he
def f_C_stepAfterStackIdle_51 (st : CS) (s0 : Fin 35) : Fin 35 × CS := (s0, st)
def f_C_stepAfterStackIdle (st : CS)  : Fin 35 × CS := if (swK (st.2.2.1)) = 6 then (f_C_stepAfterStackIdle_51 st (21 : Fin 35)) else (if (swK (st.2.2.1)) = 9 then (f_C_stepAfterStackIdle_51 st (25 : Fin 35)) else (f_C_stepAfterStackIdle_51 st (24 : Fin 35)))
abbrev rm_C_stepAfterStackIdle : Room := { frames := 1, cells := 0, slots := 0, locals := 20 }
set_option maxHeartbeats 4000000 in
set_option maxRecDepth 100000 in
theorem k_C_stepAfterStackIdle (l : Launch) (g : CG) (rt : MS) (o : Nat → Int64) (st : CS)  : KE g.adS 35 l g y_C_stepAfterStackIdle (Cond.code y_C_stepAfterStackIdle c_C_stepAfterStackIdle 1 (some (.object "ClockedChip$Step")) :: ALL) rm_C_stepAfterStackIdle [.ref (g.chip)] (wC g rt o) st (f_C_stepAfterStackIdle st ) := by
  refine KE.ofW (by decide) (Nat.le_of_ble_eq_true rfl) ?_
  intro p e s m args below meth c A Q ls Rv X he RET hC hl
  obtain ⟨hx, hb⟩ := FX_xb X
  have hl : lv_has ls 1 [(0, .ref (g.chip))] := hl
  have B51 : ∀ (H : Heap) (locs : List Loc) (ls : Array Slot) (st : CS) (s0 : Fin 35), HC g A s (wC g rt o st) H locs → lv_has ls 1 [] → f_C_stepAfterStackIdle_51 st s0 = Rv → W p l e rm_C_stepAfterStackIdle s m args below meth c H locs 0 0 Q (F0 m 51 ls [.ref (g.adS (s0).val)]) := by
    intro H locs ls st s0  hC hl he
    unfold f_C_stepAfterStackIdle_51 at he
    exact RET (pc := 51) d_C_stepAfterStackIdle_51 hC he
  unfold f_C_stepAfterStackIdle at he
  refine SC_mapK (pc := 0) X hC d_C_stepAfterStackIdle_0 ?_
  refine lv_aload_n (pc := 3) hx hb d_C_stepAfterStackIdle_3 rfl (lv_at hl 0 rfl) ?_
  refine GC_kind (pc := 4) X hC d_C_stepAfterStackIdle_4 ?_
  refine OC_knd (pc := 7) (k := st.2.2.1) (rest := [.ref (g.mapK)]) X hC hl.1 (Nat.le_of_ble_eq_true rfl) ⟨by decide, by decide⟩ ⟨Nat.zero_le _, Nat.zero_le _⟩ d_C_stepAfterStackIdle_7 ?_
  refine AmapK (pc := 10) (k := st.2.2.1) X hC d_C_stepAfterStackIdle_10 ?_
  by_cases h1 : (swK (st.2.2.1)) = 6
  · replace he := if_go he h1
    refine lv_lookup (pc := 11) (tgt := 36) (off := 25) hx hb d_C_stepAfterStackIdle_11 (by decide) (by rw [h1]; try rfl) (by decide) ?_
    refine SC_stp_PUSH_PAGE (pc := 36) X hC d_C_stepAfterStackIdle_36 ?_
    refine lv_goto (pc := 39) (tgt := 51) hx hb d_C_stepAfterStackIdle_39 (by decide) ?_
    exact B51 _ _ _ st (21 : Fin 35)  hC (lv_sub hl [] rfl) he
  replace he := if_no he h1
  by_cases h2 : (swK (st.2.2.1)) = 9
  · replace he := if_go he h2
    refine lv_lookup (pc := 11) (tgt := 42) (off := 31) hx hb d_C_stepAfterStackIdle_11 (by decide) (by rw [h2]; try rfl) (by decide) ?_
    refine SC_stp_PULL_LOW (pc := 42) X hC d_C_stepAfterStackIdle_42 ?_
    refine lv_goto (pc := 45) (tgt := 51) hx hb d_C_stepAfterStackIdle_45 (by decide) ?_
    exact B51 _ _ _ st (25 : Fin 35)  hC (lv_sub hl [] rfl) he
  replace he := if_no he h2
  refine lv_lookup (pc := 11) (tgt := 48) (off := 37) hx hb d_C_stepAfterStackIdle_11 (by decide) (by show Op.lookupswitch.offset [(6, 25), (9, 31)] _ _ = _; rw [lv_osw h1 (by decide), lv_osw h2 (by decide)]; try rfl) (by decide) ?_
  refine SC_stp_PULL_BYTE (pc := 48) X hC d_C_stepAfterStackIdle_48 ?_
  exact B51 _ _ _ st (24 : Fin 35)  hC (lv_sub hl [] rfl) he
def f_C_afterPullByte_62 (st : CS)  : CS := bS (f_C_end st ) (fun st8 => st8)
def f_C_afterPullByte (st : CS) (v1 : Int32) : CS := bS (f_R_moveStack st 1) (fun st1 => if st1.2.2.1 = (10 : Fin 16) then (bS (f_R_takeFlags st1 v1) (fun st6 => bS (sS st6 (25 : Fin 35)) (fun st7 => st7))) else (if (st1.1 7) = 17 then (bS (f_R_loadA st1 v1) (fun st5 => f_C_afterPullByte_62 st5 )) else (bS (f_R_takeFlags st1 v1) (fun st4 => f_C_afterPullByte_62 st4 ))))
abbrev rm_C_afterPullByte : Room := { frames := 2, cells := 0, slots := 0, locals := 43 }
set_option maxHeartbeats 4000000 in
set_option maxRecDepth 100000 in
theorem k_C_afterPullByte (l : Launch) (g : CG) (rt : MS) (o : Nat → Int64) (st : CS) (v1 : Int32) : KV l g y_C_afterPullByte (Cond.code y_C_afterPullByte c_C_afterPullByte 2 none :: ALL) rm_C_afterPullByte [.ref (g.chip), .int v1] (wC g rt o) st (f_C_afterPullByte st v1) := by
  refine KV.ofW (by decide) (Nat.le_of_ble_eq_true rfl) ?_
  intro p e s m args below meth c A Q ls Rv X he RET hC hl
  obtain ⟨hx, hb⟩ := FX_xb X
  have hl : lv_has ls 2 [(0, .ref (g.chip)), (1, .int v1)] := hl
  have B62 : ∀ (H : Heap) (locs : List Loc) (ls : Array Slot) (st : CS) , HC g A s (wC g rt o st) H locs → lv_has ls 2 [(0, .ref (g.chip))] → f_C_afterPullByte_62 st  = Rv → W p l e rm_C_afterPullByte s m args below meth c H locs 0 0 Q (F0 m 62 ls []) := by
    intro H locs ls st   hC hl he
    unfold f_C_afterPullByte_62 at he
    refine lv_aload_n (pc := 62) hx hb d_C_afterPullByte_62 rfl (lv_at hl 0 rfl) ?_
    refine callVO (q0 := 0) (pc := 63) (As := []) (rest := []) X (k_C_end l g rt o st ) hC (NC_C_end_161 X rfl rfl ⟨by decide, by decide⟩) rfl rfl rfl hl.1 (Nat.le_of_ble_eq_true rfl) rfl d_C_afterPullByte_63 ⟨Nat.zero_le _, Nat.zero_le _⟩ (fun st8 H locs est8 hC => ?_)
    replace he := bS_go he est8
    exact RET (pc := 66) d_C_afterPullByte_66 hC he
  unfold f_C_afterPullByte at he
  refine lv_aload_n (pc := 0) hx hb d_C_afterPullByte_0 rfl (lv_at hl 0 rfl) ?_
  refine GC_registers (pc := 1) X hC d_C_afterPullByte_1 ?_
  refine lv_iconst (pc := 4) (v := 1) hx hb d_C_afterPullByte_4 (by decide) ?_
  refine callVN (q0 := 3) (pc := 5) (As := [.int 1]) (rest := []) X (k_R_moveStack l g rt o st 1) hC (NC_R_moveStack_164 X rfl rfl ⟨by decide, by decide⟩) rfl rfl rfl hl.1 (Nat.le_of_ble_eq_true rfl) rfl d_C_afterPullByte_5 ⟨Nat.zero_le _, Nat.zero_le _⟩ (fun st1 H locs est1 hC => ?_)
  replace he := bS_go he est1
  refine lv_aload_n (pc := 8) hx hb d_C_afterPullByte_8 rfl (lv_at hl 0 rfl) ?_
  refine GC_kind (pc := 9) X hC d_C_afterPullByte_9 ?_
  refine SC_knd_RETURN_FROM_INTERRUPT (pc := 12) X hC d_C_afterPullByte_12 ?_
  refine acK_ne (pc := 15) (tgt := 34) (i := st1.2.2.1) (j := (10 : Fin 16)) X d_C_afterPullByte_15 (by decide) (fun h2 => ?_) (fun h2 => ?_)
  · replace he := if_no he h2
    refine lv_aload_n (pc := 34) hx hb d_C_afterPullByte_34 rfl (lv_at hl 0 rfl) ?_
    refine GC_operation (pc := 35) X hC d_C_afterPullByte_35 ?_
    refine lv_bipush (pc := 38) (v := 17) hx hb d_C_afterPullByte_38 (by decide) ?_
    refine lv_icmp_ne (pc := 40) (tgt := 54) hx hb d_C_afterPullByte_40 (by decide) (fun h3 => ?_) (fun h3 => ?_)
    · replace he := if_no he h3
      refine lv_aload_n (pc := 54) hx hb d_C_afterPullByte_54 rfl (lv_at hl 0 rfl) ?_
      refine GC_registers (pc := 55) X hC d_C_afterPullByte_55 ?_
      refine lv_iload_n (pc := 58) hx hb d_C_afterPullByte_58 rfl (lv_at hl 1 rfl) ?_
      refine callVN (q0 := 3) (pc := 59) (As := [.int v1]) (rest := []) X (k_R_takeFlags l g rt o st1 v1) hC (NC_R_takeFlags_102 X rfl rfl ⟨by decide, by decide⟩) rfl rfl rfl hl.1 (Nat.le_of_ble_eq_true rfl) rfl d_C_afterPullByte_59 ⟨Nat.zero_le _, Nat.zero_le _⟩ (fun st4 H locs est4 hC => ?_)
      replace he := bS_go he est4
      exact B62 _ _ _ st4   hC (lv_sub hl [0] rfl) he
    replace he := if_go he h3
    refine lv_aload_n (pc := 43) hx hb d_C_afterPullByte_43 rfl (lv_at hl 0 rfl) ?_
    refine GC_registers (pc := 44) X hC d_C_afterPullByte_44 ?_
    refine lv_iload_n (pc := 47) hx hb d_C_afterPullByte_47 rfl (lv_at hl 1 rfl) ?_
    refine callVN (q0 := 3) (pc := 48) (As := [.int v1]) (rest := []) X (k_R_loadA l g rt o st1 v1) hC (NC_R_loadA_396 X rfl rfl ⟨by decide, by decide⟩) rfl rfl rfl hl.1 (Nat.le_of_ble_eq_true rfl) rfl d_C_afterPullByte_48 ⟨Nat.zero_le _, Nat.zero_le _⟩ (fun st5 H locs est5 hC => ?_)
    replace he := bS_go he est5
    refine lv_goto (pc := 51) (tgt := 62) hx hb d_C_afterPullByte_51 (by decide) ?_
    exact B62 _ _ _ st5   hC (lv_sub hl [0] rfl) he
  replace he := if_go he h2
  refine lv_aload_n (pc := 18) hx hb d_C_afterPullByte_18 rfl (lv_at hl 0 rfl) ?_
  refine GC_registers (pc := 19) X hC d_C_afterPullByte_19 ?_
  refine lv_iload_n (pc := 22) hx hb d_C_afterPullByte_22 rfl (lv_at hl 1 rfl) ?_
  refine callVN (q0 := 3) (pc := 23) (As := [.int v1]) (rest := []) X (k_R_takeFlags l g rt o st1 v1) hC (NC_R_takeFlags_102 X rfl rfl ⟨by decide, by decide⟩) rfl rfl rfl hl.1 (Nat.le_of_ble_eq_true rfl) rfl d_C_afterPullByte_23 ⟨Nat.zero_le _, Nat.zero_le _⟩ (fun st6 H locs est6 hC => ?_)
  replace he := bS_go he est6
  refine lv_aload_n (pc := 26) hx hb d_C_afterPullByte_26 rfl (lv_at hl 0 rfl) ?_
  refine SC_stp_PULL_LOW (pc := 27) X hC d_C_afterPullByte_27 ?_
  refine PC_step (pc := 30) X hC d_C_afterPullByte_30 (fun st7 H locs est7 hC => ?_)
  replace he := bS_go he est7
  exact RET (pc := 33) d_C_afterPullByte_33 hC he
def f_C_afterPullLow (st : CS) (v1 : Int32) : CS := bS (f_R_moveStack st 1) (fun st1 => bS (sV st1 13 v1) (fun st2 => bS (sS st2 (26 : Fin 35)) (fun st3 => st3)))
abbrev rm_C_afterPullLow : Room := { frames := 1, cells := 0, slots := 0, locals := 21 }
set_option maxHeartbeats 4000000 in
set_option maxRecDepth 100000 in
theorem k_C_afterPullLow (l : Launch) (g : CG) (rt : MS) (o : Nat → Int64) (st : CS) (v1 : Int32) : KV l g y_C_afterPullLow (Cond.code y_C_afterPullLow c_C_afterPullLow 2 none :: ALL) rm_C_afterPullLow [.ref (g.chip), .int v1] (wC g rt o) st (f_C_afterPullLow st v1) := by
  refine KV.ofW (by decide) (Nat.le_of_ble_eq_true rfl) ?_
  intro p e s m args below meth c A Q ls Rv X he RET hC hl
  obtain ⟨hx, hb⟩ := FX_xb X
  have hl : lv_has ls 2 [(0, .ref (g.chip)), (1, .int v1)] := hl
  unfold f_C_afterPullLow at he
  refine lv_aload_n (pc := 0) hx hb d_C_afterPullLow_0 rfl (lv_at hl 0 rfl) ?_
  refine GC_registers (pc := 1) X hC d_C_afterPullLow_1 ?_
  refine lv_iconst (pc := 4) (v := 1) hx hb d_C_afterPullLow_4 (by decide) ?_
  refine callVN (q0 := 3) (pc := 5) (As := [.int 1]) (rest := []) X (k_R_moveStack l g rt o st 1) hC (NC_R_moveStack_164 X rfl rfl ⟨by decide, by decide⟩) rfl rfl rfl hl.1 (Nat.le_of_ble_eq_true rfl) rfl d_C_afterPullLow_5 ⟨Nat.zero_le _, Nat.zero_le _⟩ (fun st1 H locs est1 hC => ?_)
  replace he := bS_go he est1
  refine lv_aload_n (pc := 8) hx hb d_C_afterPullLow_8 rfl (lv_at hl 0 rfl) ?_
  refine lv_iload_n (pc := 9) hx hb d_C_afterPullLow_9 rfl (lv_at hl 1 rfl) ?_
  refine PC_held (pc := 10) X hC d_C_afterPullLow_10 (fun st2 H locs est2 hC => ?_)
  replace he := bS_go he est2
  refine lv_aload_n (pc := 13) hx hb d_C_afterPullLow_13 rfl (lv_at hl 0 rfl) ?_
  refine SC_stp_PULL_PAGE (pc := 14) X hC d_C_afterPullLow_14 ?_
  refine PC_step (pc := 17) X hC d_C_afterPullLow_17 (fun st3 H locs est3 hC => ?_)
  replace he := bS_go he est3
  exact RET (pc := 20) d_C_afterPullLow_20 hC he
def f_C_afterPullPage_49 (st : CS)  : CS := st
def f_C_afterPullPage (st : CS) (v1 : Int32) : CS := bS (f_R_moveStack st 1) (fun st1 => bS (sV st1 4 ((st1.1 13) + (256 * v1))) (fun st2 => if st2.2.2.1 = (9 : Fin 16) then (bS (sS st2 (27 : Fin 35)) (fun st5 => f_C_afterPullPage_49 st5 )) else (bS (f_C_end st2 ) (fun st4 => f_C_afterPullPage_49 st4 ))))
abbrev rm_C_afterPullPage : Room := { frames := 2, cells := 0, slots := 0, locals := 43 }
set_option maxHeartbeats 4000000 in
set_option maxRecDepth 100000 in
theorem k_C_afterPullPage (l : Launch) (g : CG) (rt : MS) (o : Nat → Int64) (st : CS) (v1 : Int32) : KV l g y_C_afterPullPage (Cond.code y_C_afterPullPage c_C_afterPullPage 2 none :: ALL) rm_C_afterPullPage [.ref (g.chip), .int v1] (wC g rt o) st (f_C_afterPullPage st v1) := by
  refine KV.ofW (by decide) (Nat.le_of_ble_eq_true rfl) ?_
  intro p e s m args below meth c A Q ls Rv X he RET hC hl
  obtain ⟨hx, hb⟩ := FX_xb X
  have hl : lv_has ls 2 [(0, .ref (g.chip)), (1, .int v1)] := hl
  have B49 : ∀ (H : Heap) (locs : List Loc) (ls : Array Slot) (st : CS) , HC g A s (wC g rt o st) H locs → lv_has ls 2 [] → f_C_afterPullPage_49 st  = Rv → W p l e rm_C_afterPullPage s m args below meth c H locs 0 0 Q (F0 m 49 ls []) := by
    intro H locs ls st   hC hl he
    unfold f_C_afterPullPage_49 at he
    exact RET (pc := 49) d_C_afterPullPage_49 hC he
  unfold f_C_afterPullPage at he
  refine lv_aload_n (pc := 0) hx hb d_C_afterPullPage_0 rfl (lv_at hl 0 rfl) ?_
  refine GC_registers (pc := 1) X hC d_C_afterPullPage_1 ?_
  refine lv_iconst (pc := 4) (v := 1) hx hb d_C_afterPullPage_4 (by decide) ?_
  refine callVN (q0 := 3) (pc := 5) (As := [.int 1]) (rest := []) X (k_R_moveStack l g rt o st 1) hC (NC_R_moveStack_164 X rfl rfl ⟨by decide, by decide⟩) rfl rfl rfl hl.1 (Nat.le_of_ble_eq_true rfl) rfl d_C_afterPullPage_5 ⟨Nat.zero_le _, Nat.zero_le _⟩ (fun st1 H locs est1 hC => ?_)
  replace he := bS_go he est1
  refine lv_aload_n (pc := 8) hx hb d_C_afterPullPage_8 rfl (lv_at hl 0 rfl) ?_
  refine GC_registers (pc := 9) X hC d_C_afterPullPage_9 ?_
  refine lv_aload_n (pc := 12) hx hb d_C_afterPullPage_12 rfl (lv_at hl 0 rfl) ?_
  refine GC_held (pc := 13) X hC d_C_afterPullPage_13 ?_
  refine lv_sipush (pc := 16) (v := 256) hx hb d_C_afterPullPage_16 (by decide) ?_
  refine lv_iload_n (pc := 19) hx hb d_C_afterPullPage_19 rfl (lv_at hl 1 rfl) ?_
  refine lv_imul (pc := 20) hx hb d_C_afterPullPage_20 ?_
  refine lv_iadd (pc := 21) hx hb d_C_afterPullPage_21 ?_
  refine PCR_pc (pc := 22) X hC d_C_afterPullPage_22 (fun st2 H locs est2 hC => ?_)
  replace he := bS_go he est2
  refine lv_aload_n (pc := 25) hx hb d_C_afterPullPage_25 rfl (lv_at hl 0 rfl) ?_
  refine GC_kind (pc := 26) X hC d_C_afterPullPage_26 ?_
  refine SC_knd_RETURN (pc := 29) X hC d_C_afterPullPage_29 ?_
  refine acK_ne (pc := 32) (tgt := 45) (i := st2.2.2.1) (j := (9 : Fin 16)) X d_C_afterPullPage_32 (by decide) (fun h3 => ?_) (fun h3 => ?_)
  · replace he := if_no he h3
    refine lv_aload_n (pc := 45) hx hb d_C_afterPullPage_45 rfl (lv_at hl 0 rfl) ?_
    refine callVO (q0 := 0) (pc := 46) (As := []) (rest := []) X (k_C_end l g rt o st2 ) hC (NC_C_end_161 X rfl rfl ⟨by decide, by decide⟩) rfl rfl rfl hl.1 (Nat.le_of_ble_eq_true rfl) rfl d_C_afterPullPage_46 ⟨Nat.zero_le _, Nat.zero_le _⟩ (fun st4 H locs est4 hC => ?_)
    replace he := bS_go he est4
    exact B49 _ _ _ st4   hC (lv_sub hl [] rfl) he
  replace he := if_go he h3
  refine lv_aload_n (pc := 35) hx hb d_C_afterPullPage_35 rfl (lv_at hl 0 rfl) ?_
  refine SC_stp_RETURN_IDLE (pc := 36) X hC d_C_afterPullPage_36 ?_
  refine PC_step (pc := 39) X hC d_C_afterPullPage_39 (fun st5 H locs est5 hC => ?_)
  replace he := bS_go he est5
  refine lv_goto (pc := 42) (tgt := 49) hx hb d_C_afterPullPage_42 (by decide) ?_
  exact B49 _ _ _ st5   hC (lv_sub hl [] rfl) he
def f_C_afterVectorLow (st : CS) (v1 : Int32) : CS := bS (sV st 13 v1) (fun st1 => bP (f_C_addressOfStep st1 ) (fun r3 st2 => bS (sV st2 11 (r3 + 1)) (fun st4 => bS (sV st4 6 0) (fun st5 => bS (sS st5 (30 : Fin 35)) (fun st6 => st6)))))
abbrev rm_C_afterVectorLow : Room := { frames := 1, cells := 0, slots := 0, locals := 20 }
set_option maxHeartbeats 4000000 in
set_option maxRecDepth 100000 in
theorem k_C_afterVectorLow (l : Launch) (g : CG) (rt : MS) (o : Nat → Int64) (st : CS) (v1 : Int32) : KV l g y_C_afterVectorLow (Cond.code y_C_afterVectorLow c_C_afterVectorLow 2 none :: ALL) rm_C_afterVectorLow [.ref (g.chip), .int v1] (wC g rt o) st (f_C_afterVectorLow st v1) := by
  refine KV.ofW (by decide) (Nat.le_of_ble_eq_true rfl) ?_
  intro p e s m args below meth c A Q ls Rv X he RET hC hl
  obtain ⟨hx, hb⟩ := FX_xb X
  have hl : lv_has ls 2 [(0, .ref (g.chip)), (1, .int v1)] := hl
  unfold f_C_afterVectorLow at he
  refine lv_aload_n (pc := 0) hx hb d_C_afterVectorLow_0 rfl (lv_at hl 0 rfl) ?_
  refine lv_iload_n (pc := 1) hx hb d_C_afterVectorLow_1 rfl (lv_at hl 1 rfl) ?_
  refine PC_held (pc := 2) X hC d_C_afterVectorLow_2 (fun st1 H locs est1 hC => ?_)
  replace he := bS_go he est1
  refine lv_aload_n (pc := 5) hx hb d_C_afterVectorLow_5 rfl (lv_at hl 0 rfl) ?_
  refine lv_aload_n (pc := 6) hx hb d_C_afterVectorLow_6 rfl (lv_at hl 0 rfl) ?_
  refine callIO (q0 := 0) (pc := 7) (As := []) (rest := [.ref (g.chip)]) X (k_C_addressOfStep l g rt o st1 ) hC (NC_C_addressOfStep_109 X rfl rfl ⟨by decide, by decide⟩) rfl rfl rfl hl.1 (Nat.le_of_ble_eq_true rfl) rfl d_C_afterVectorLow_7 ⟨Nat.zero_le _, Nat.zero_le _⟩ (fun r3 st2 H locs est2 hC => ?_)
  replace he := bP_go he est2
  refine lv_iconst (pc := 10) (v := 1) hx hb d_C_afterVectorLow_10 (by decide) ?_
  refine lv_iadd (pc := 11) hx hb d_C_afterVectorLow_11 ?_
  refine PC_aim (pc := 12) X hC d_C_afterVectorLow_12 (fun st4 H locs est4 hC => ?_)
  replace he := bS_go he est4
  refine lv_aload_n (pc := 15) hx hb d_C_afterVectorLow_15 rfl (lv_at hl 0 rfl) ?_
  refine lv_iconst (pc := 16) (v := 0) hx hb d_C_afterVectorLow_16 (by decide) ?_
  refine PC_nmiWanted (pc := 17) X hC b0 d_C_afterVectorLow_17 (fun st5 H locs est5 hC => ?_)
  replace he := bS_go he est5
  refine lv_aload_n (pc := 20) hx hb d_C_afterVectorLow_20 rfl (lv_at hl 0 rfl) ?_
  refine SC_stp_VECTOR_PAGE (pc := 21) X hC d_C_afterVectorLow_21 ?_
  refine PC_step (pc := 24) X hC d_C_afterVectorLow_24 (fun st6 H locs est6 hC => ?_)
  replace he := bS_go he est6
  exact RET (pc := 27) d_C_afterVectorLow_27 hC he

/-! contracts of methods (printed by my own program: pure pictures and walks) -/
def f_C_afterResetStack_26 (st : CS) (s0 : Fin 35) : CS := bS (sS st s0) (fun st3 => st3)
def f_C_afterResetStack (st : CS)  : CS := bS (f_R_moveStack st (-1)) (fun st1 => if 5 ≤ (st1.1 9) then (f_C_afterResetStack_26 st1 (33 : Fin 35)) else (f_C_afterResetStack_26 st1 (32 : Fin 35)))
abbrev rm_C_afterResetStack : Room := { frames := 1, cells := 0, slots := 0, locals := 21 }
set_option maxHeartbeats 4000000 in
set_option maxRecDepth 100000 in
theorem k_C_afterResetStack (l : Launch) (g : CG) (rt : MS) (o : Nat → Int64) (st : CS)  : KV l g y_C_afterResetStack (Cond.code y_C_afterResetStack c_C_afterResetStack 1 none :: ALL) rm_C_afterResetStack [.ref (g.chip)] (wC g rt o) st (f_C_afterResetStack st ) := by
  refine KV.ofW (by decide) (Nat.le_of_ble_eq_true rfl) ?_
  intro p e s m args below meth c A Q ls Rv X he RET hC hl
  obtain ⟨hx, hb⟩ := FX_xb X
  have hl : lv_has ls 1 [(0, .ref (g.chip))] := hl
  have B26 : ∀ (H : Heap) (locs : List Loc) (ls : Array Slot) (st : CS) (s0 : Fin 35), HC g A s (wC g rt o st) H locs → lv_has ls 1 [] → f_C_afterResetStack_26 st s0 = Rv → W p l e rm_C_afterResetStack s m args below meth c H locs 0 0 Q (F0 m 26 ls [.ref (g.adS (s0).val), .ref (g.chip)]) := by
    intro H locs ls st s0  hC hl he
    unfold f_C_afterResetStack_26 at he
    refine PC_step (pc := 26) X hC d_C_afterResetStack_26 (fun st3 H locs est3 hC => ?_)
    replace he := bS_go he est3
    exact RET (pc := 29) d_C_afterResetStack_29 hC he
  unfold f_C_afterResetStack at he
  refine lv_aload_n (pc := 0) hx hb d_C_afterResetStack_0 rfl (lv_at hl 0 rfl) ?_
  refine GC_registers (pc := 1) X hC d_C_afterResetStack_1 ?_
  refine lv_iconst (pc := 4) (v := (-1)) hx hb d_C_afterResetStack_4 (by decide) ?_
  refine callVN (q0 := 3) (pc := 5) (As := [.int (-1)]) (rest := []) X (k_R_moveStack l g rt o st (-1)) hC (NC_R_moveStack_164 X rfl rfl ⟨by decide, by decide⟩) rfl rfl rfl hl.1 (Nat.le_of_ble_eq_true rfl) rfl d_C_afterResetStack_5 ⟨Nat.zero_le _, Nat.zero_le _⟩ (fun st1 H locs est1 hC => ?_)
  replace he := bS_go he est1
  refine lv_aload_n (pc := 8) hx hb d_C_afterResetStack_8 rfl (lv_at hl 0 rfl) ?_
  refine lv_aload_n (pc := 9) hx hb d_C_afterResetStack_9 rfl (lv_at hl 0 rfl) ?_
  refine GC_done (pc := 10) X hC d_C_afterResetStack_10 ?_
  refine lv_iconst (pc := 13) (v := 5) hx hb d_C_afterResetStack_13 (by decide) ?_
  refine lv_icmp_ge (pc := 14) (tgt := 23) hx hb d_C_afterResetStack_14 (by decide) (fun h2 => ?_) (fun h2 => ?_)
  · replace he := if_go he h2
    refine SC_stp_RESET_LOW (pc := 23) X hC d_C_afterResetStack_23 ?_
    exact B26 _ _ _ st1 (33 : Fin 35)  hC (lv_sub hl [] rfl) he
  replace he := if_no he h2
  refine SC_stp_RESET_STACK (pc := 17) X hC d_C_afterResetStack_17 ?_
  refine lv_goto (pc := 20) (tgt := 26) hx hb d_C_afterResetStack_20 (by decide) ?_
  exact B26 _ _ _ st1 (32 : Fin 35)  hC (lv_sub hl [] rfl) he
def f_C_afterResetLow (st : CS) (v1 : Int32) : CS := bS (f_R_put st 4 1) (fun st1 => bS (sV st1 13 v1) (fun st2 => bS (sV st2 11 65533) (fun st3 => bS (sS st3 (30 : Fin 35)) (fun st4 => st4))))
abbrev rm_C_afterResetLow : Room := { frames := 1, cells := 0, slots := 0, locals := 22 }
set_option maxHeartbeats 4000000 in
set_option maxRecDepth 100000 in
theorem k_C_afterResetLow (l : Launch) (g : CG) (rt : MS) (o : Nat → Int64) (st : CS) (v1 : Int32) : KV l g y_C_afterResetLow (Cond.code y_C_afterResetLow c_C_afterResetLow 2 none :: ALL) rm_C_afterResetLow [.ref (g.chip), .int v1] (wC g rt o) st (f_C_afterResetLow st v1) := by
  refine KV.ofW (by decide) (Nat.le_of_ble_eq_true rfl) ?_
  intro p e s m args below meth c A Q ls Rv X he RET hC hl
  obtain ⟨hx, hb⟩ := FX_xb X
  have hl : lv_has ls 2 [(0, .ref (g.chip)), (1, .int v1)] := hl
  unfold f_C_afterResetLow at he
  refine lv_aload_n (pc := 0) hx hb d_C_afterResetLow_0 rfl (lv_at hl 0 rfl) ?_
  refine GC_registers (pc := 1) X hC d_C_afterResetLow_1 ?_
  refine lv_iconst (pc := 4) (v := 4) hx hb d_C_afterResetLow_4 (by decide) ?_
  refine lv_iconst (pc := 5) (v := 1) hx hb d_C_afterResetLow_5 (by decide) ?_
  refine callVN (q0 := 3) (pc := 6) (As := [.int 4, .int 1]) (rest := []) X (k_R_put l g rt o st 4 1) hC (NC_R_put_105 X rfl rfl ⟨by decide, by decide⟩) rfl rfl rfl hl.1 (Nat.le_of_ble_eq_true rfl) rfl d_C_afterResetLow_6 ⟨Nat.zero_le _, Nat.zero_le _⟩ (fun st1 H locs est1 hC => ?_)
  replace he := bS_go he est1
  refine lv_aload_n (pc := 9) hx hb d_C_afterResetLow_9 rfl (lv_at hl 0 rfl) ?_
  refine lv_iload_n (pc := 10) hx hb d_C_afterResetLow_10 rfl (lv_at hl 1 rfl) ?_
  refine PC_held (pc := 11) X hC d_C_afterResetLow_11 (fun st2 H locs est2 hC => ?_)
  replace he := bS_go he est2
  refine lv_aload_n (pc := 14) hx hb d_C_afterResetLow_14 rfl (lv_at hl 0 rfl) ?_
  refine LC_411 (pc := 15) X d_C_afterResetLow_15 ?_
  refine PC_aim (pc := 18) X hC d_C_afterResetLow_18 (fun st3 H locs est3 hC => ?_)
  replace he := bS_go he est3
  refine lv_aload_n (pc := 21) hx hb d_C_afterResetLow_21 rfl (lv_at hl 0 rfl) ?_
  refine SC_stp_VECTOR_PAGE (pc := 22) X hC d_C_afterResetLow_22 ?_
  refine PC_step (pc := 25) X hC d_C_afterResetLow_25 (fun st4 H locs est4 hC => ?_)
  replace he := bS_go he est4
  exact RET (pc := 28) d_C_afterResetLow_28 hC he
def f_C_afterStackOrVectorRead_200 (st : CS)  : CS := st
def f_C_afterStackOrVectorRead_182 (st : CS) (s0 : Fin 35) : CS := bS (sS st s0) (fun st25 => f_C_afterStackOrVectorRead_200 st25 )
def f_C_afterStackOrVectorRead_133 (st : CS) (s0 : Fin 35) : CS := bS (sS st s0) (fun st24 => f_C_afterStackOrVectorRead_200 st24 )
def f_C_afterStackOrVectorRead (st : CS) (v1 : Int32) : CS := if (swS (st.2.1)) = 25 then (bP (f_C_stepAfterStackIdle st ) (fun r3 st2 => bS (sS st2 r3) (fun st4 => f_C_afterStackOrVectorRead_200 st4 ))) else (if (swS (st.2.1)) = 26 then (bS (f_C_afterPullByte st v1) (fun st6 => f_C_afterStackOrVectorRead_200 st6 )) else (if (swS (st.2.1)) = 27 then (bS (f_C_afterPullLow st v1) (fun st8 => f_C_afterStackOrVectorRead_200 st8 )) else (if (swS (st.2.1)) = 28 then (bS (f_C_afterPullPage st v1) (fun st10 => f_C_afterStackOrVectorRead_200 st10 )) else (if (swS (st.2.1)) = 29 then (bS (f_C_goTo st ((st.1 4) + 1)) (fun st12 => f_C_afterStackOrVectorRead_200 st12 )) else (if (swS (st.2.1)) = 30 then (if 2 ≤ (st.1 9) then (f_C_afterStackOrVectorRead_133 st (21 : Fin 35)) else (f_C_afterStackOrVectorRead_133 st (28 : Fin 35))) else (if (swS (st.2.1)) = 31 then (bS (f_C_afterVectorLow st v1) (fun st16 => f_C_afterStackOrVectorRead_200 st16 )) else (if (swS (st.2.1)) = 32 then (bS (f_C_goTo st ((st.1 13) + (256 * v1))) (fun st18 => f_C_afterStackOrVectorRead_200 st18 )) else (if (swS (st.2.1)) = 33 then (if 2 ≤ (st.1 9) then (f_C_afterStackOrVectorRead_182 st (32 : Fin 35)) else (f_C_afterStackOrVectorRead_182 st (31 : Fin 35))) else (if (swS (st.2.1)) = 34 then (bS (f_C_afterResetStack st ) (fun st22 => f_C_afterStackOrVectorRead_200 st22 )) else (bS (f_C_afterResetLow st v1) (fun st23 => f_C_afterStackOrVectorRead_200 st23 )))))))))))
abbrev rm_C_afterStackOrVectorRead : Room := { frames := 3, cells := 0, slots := 0, locals := 64 }
set_option maxHeartbeats 4000000 in
set_option maxRecDepth 100000 in
theorem k_C_afterStackOrVectorRead (l : Launch) (g : CG) (rt : MS) (o : Nat → Int64) (st : CS) (v1 : Int32) : KV l g y_C_afterStackOrVectorRead (Cond.code y_C_afterStackOrVectorRead c_C_afterStackOrVectorRead 2 none :: ALL) rm_C_afterStackOrVectorRead [.ref (g.chip), .int v1] (wC g rt o) st (f_C_afterStackOrVectorRead st v1) := by
  refine KV.ofW (by decide) (Nat.le_of_ble_eq_true rfl) ?_
  intro p e s m args below meth c A Q ls Rv X he RET hC hl
  obtain ⟨hx, hb⟩ := FX_xb X
  have hl : lv_has ls 2 [(0, .ref (g.chip)), (1, .int v1)] := hl
  have B200 : ∀ (H : Heap) (locs : List Loc) (ls : Array Slot) (st : CS) , HC g A s (wC g rt o st) H locs → lv_has ls 2 [] → f_C_afterStackOrVectorRead_200 st  = Rv → W p l e rm_C_afterStackOrVectorRead s m args below meth c H locs 0 0 Q (F0 m 200 ls []) := by
    intro H locs ls st   hC hl he
    unfold f_C_afterStackOrVectorRead_200 at he
    exact RET (pc := 200) d_C_afterStackOrVectorRead_200 hC he
  have B182 : ∀ (H : Heap) (locs : List Loc) (ls : Array Slot) (st : CS) (s0 : Fin 35), HC g A s (wC g rt o st) H locs → lv_has ls 2 [] → f_C_afterStackOrVectorRead_182 st s0 = Rv → W p l e rm_C_afterStackOrVectorRead s m args below meth c H locs 0 0 Q (F0 m 182 ls [.ref (g.adS (s0).val), .ref (g.chip)]) := by
    intro H locs ls st s0  hC hl he
    unfold f_C_afterStackOrVectorRead_182 at he
    refine PC_step (pc := 182) X hC d_C_afterStackOrVectorRead_182 (fun st25 H locs est25 hC => ?_)
    replace he := bS_go he est25
    refine lv_goto (pc := 185) (tgt := 200) hx hb d_C_afterStackOrVectorRead_185 (by decide) ?_
    exact B200 _ _ _ st25   hC (lv_sub hl [] rfl) he
  have B133 : ∀ (H : Heap) (locs : List Loc) (ls : Array Slot) (st : CS) (s0 : Fin 35), HC g A s (wC g rt o st) H locs → lv_has ls 2 [] → f_C_afterStackOrVectorRead_133 st s0 = Rv → W p l e rm_C_afterStackOrVectorRead s m args below meth c H locs 0 0 Q (F0 m 133 ls [.ref (g.adS (s0).val), .ref (g.chip)]) := by
    intro H locs ls st s0  hC hl he
    unfold f_C_afterStackOrVectorRead_133 at he
    refine PC_step (pc := 133) X hC d_C_afterStackOrVectorRead_133 (fun st24 H locs est24 hC => ?_)
    replace he := bS_go he est24
    refine lv_goto (pc := 136) (tgt := 200) hx hb d_C_afterStackOrVectorRead_136 (by decide) ?_
    exact B200 _ _ _ st24   hC (lv_sub hl [] rfl) he
  unfold f_C_afterStackOrVectorRead at he
  refine SC_mapS (pc := 0) X hC d_C_afterStackOrVectorRead_0 ?_
  refine lv_aload_n (pc := 3) hx hb d_C_afterStackOrVectorRead_3 rfl (lv_at hl 0 rfl) ?_
  refine GC_step (pc := 4) X hC d_C_afterStackOrVectorRead_4 ?_
  refine OC_stp (pc := 7) (k := st.2.1) (rest := [.ref (g.mapS)]) X hC hl.1 (Nat.le_of_ble_eq_true rfl) ⟨by decide, by decide⟩ ⟨Nat.zero_le _, Nat.zero_le _⟩ d_C_afterStackOrVectorRead_7 ?_
  refine AmapS (pc := 10) (k := st.2.1) X hC d_C_afterStackOrVectorRead_10 ?_
  by_cases h1 : (swS (st.2.1)) = 25
  · replace he := if_go he h1
    refine lv_tableIn (pc := 11) (tgt := 64) hx hb d_C_afterStackOrVectorRead_11 (by rw [h1]; decide) (by rw [h1]; decide) (by rw [h1]; rfl) (by decide) ?_
    refine lv_aload_n (pc := 64) hx hb d_C_afterStackOrVectorRead_64 rfl (lv_at hl 0 rfl) ?_
    refine lv_aload_n (pc := 65) hx hb d_C_afterStackOrVectorRead_65 rfl (lv_at hl 0 rfl) ?_
    refine callEO (q0 := 0) (pc := 66) (As := []) (rest := [.ref (g.chip)]) X (k_C_stepAfterStackIdle l g rt o st ) hC (NC_C_stepAfterStackIdle_236 X rfl rfl ⟨by decide, by decide⟩) rfl rfl rfl hl.1 (Nat.le_of_ble_eq_true rfl) rfl d_C_afterStackOrVectorRead_66 ⟨Nat.zero_le _, Nat.zero_le _⟩ (fun r3 st2 H locs est2 hC => ?_)
    replace he := bP_go he est2
    refine PC_step (pc := 69) X hC d_C_afterStackOrVectorRead_69 (fun st4 H locs est4 hC => ?_)
    replace he := bS_go he est4
    refine lv_goto (pc := 72) (tgt := 200) hx hb d_C_afterStackOrVectorRead_72 (by decide) ?_
    exact B200 _ _ _ st4   hC (lv_sub hl [] rfl) he
  replace he := if_no he h1
  by_cases h5 : (swS (st.2.1)) = 26
  · replace he := if_go he h5
    refine lv_tableIn (pc := 11) (tgt := 75) hx hb d_C_afterStackOrVectorRead_11 (by rw [h5]; decide) (by rw [h5]; decide) (by rw [h5]; rfl) (by decide) ?_
    refine lv_aload_n (pc := 75) hx hb d_C_afterStackOrVectorRead_75 rfl (lv_at hl 0 rfl) ?_
    refine lv_iload_n (pc := 76) hx hb d_C_afterStackOrVectorRead_76 rfl (lv_at hl 1 rfl) ?_
    refine callVO (q0 := 0) (pc := 77) (As := [.int v1]) (rest := []) X (k_C_afterPullByte l g rt o st v1) hC (NC_C_afterPullByte_240 X rfl rfl ⟨by decide, by decide⟩) rfl rfl rfl hl.1 (Nat.le_of_ble_eq_true rfl) rfl d_C_afterStackOrVectorRead_77 ⟨Nat.zero_le _, Nat.zero_le _⟩ (fun st6 H locs est6 hC => ?_)
    replace he := bS_go he est6
    refine lv_goto (pc := 80) (tgt := 200) hx hb d_C_afterStackOrVectorRead_80 (by decide) ?_
    exact B200 _ _ _ st6   hC (lv_sub hl [] rfl) he
  replace he := if_no he h5
  by_cases h7 : (swS (st.2.1)) = 27
  · replace he := if_go he h7
    refine lv_tableIn (pc := 11) (tgt := 83) hx hb d_C_afterStackOrVectorRead_11 (by rw [h7]; decide) (by rw [h7]; decide) (by rw [h7]; rfl) (by decide) ?_
    refine lv_aload_n (pc := 83) hx hb d_C_afterStackOrVectorRead_83 rfl (lv_at hl 0 rfl) ?_
    refine lv_iload_n (pc := 84) hx hb d_C_afterStackOrVectorRead_84 rfl (lv_at hl 1 rfl) ?_
    refine callVO (q0 := 0) (pc := 85) (As := [.int v1]) (rest := []) X (k_C_afterPullLow l g rt o st v1) hC (NC_C_afterPullLow_243 X rfl rfl ⟨by decide, by decide⟩) rfl rfl rfl hl.1 (Nat.le_of_ble_eq_true rfl) rfl d_C_afterStackOrVectorRead_85 ⟨Nat.zero_le _, Nat.zero_le _⟩ (fun st8 H locs est8 hC => ?_)
    replace he := bS_go he est8
    refine lv_goto (pc := 88) (tgt := 200) hx hb d_C_afterStackOrVectorRead_88 (by decide) ?_
    exact B200 _ _ _ st8   hC (lv_sub hl [] rfl) he
  replace he := if_no he h7
  by_cases h9 : (swS (st.2.1)) = 28
  · replace he := if_go he h9
    refine lv_tableIn (pc := 11) (tgt := 91) hx hb d_C_afterStackOrVectorRead_11 (by rw [h9]; decide) (by rw [h9]; decide) (by rw [h9]; rfl) (by decide) ?_
    refine lv_aload_n (pc := 91) hx hb d_C_afterStackOrVectorRead_91 rfl (lv_at hl 0 rfl) ?_
    refine lv_iload_n (pc := 92) hx hb d_C_afterStackOrVectorRead_92 rfl (lv_at hl 1 rfl) ?_
    refine callVO (q0 := 0) (pc := 93) (As := [.int v1]) (rest := []) X (k_C_afterPullPage l g rt o st v1) hC (NC_C_afterPullPage_246 X rfl rfl ⟨by decide, by decide⟩) rfl rfl rfl hl.1 (Nat.le_of_ble_eq_true rfl) rfl d_C_afterStackOrVectorRead_93 ⟨Nat.zero_le _, Nat.zero_le _⟩ (fun st10 H locs est10 hC => ?_)
    replace he := bS_go he est10
    refine lv_goto (pc := 96) (tgt := 200) hx hb d_C_afterStackOrVectorRead_96 (by decide) ?_
    exact B200 _ _ _ st10   hC (lv_sub hl [] rfl) he
  replace he := if_no he h9
  by_cases h11 : (swS (st.2.1)) = 29
  · replace he := if_go he h11
    refine lv_tableIn (pc := 11) (tgt := 99) hx hb d_C_afterStackOrVectorRead_11 (by rw [h11]; decide) (by rw [h11]; decide) (by rw [h11]; rfl) (by decide) ?_
    refine lv_aload_n (pc := 99) hx hb d_C_afterStackOrVectorRead_99 rfl (lv_at hl 0 rfl) ?_
    refine lv_aload_n (pc := 100) hx hb d_C_afterStackOrVectorRead_100 rfl (lv_at hl 0 rfl) ?_
    refine GC_registers (pc := 101) X hC d_C_afterStackOrVectorRead_101 ?_
    refine GCR_pc (pc := 104) X hC d_C_afterStackOrVectorRead_104 ?_
    refine lv_iconst (pc := 107) (v := 1) hx hb d_C_afterStackOrVectorRead_107 (by decide) ?_
    refine lv_iadd (pc := 108) hx hb d_C_afterStackOrVectorRead_108 ?_
    refine callVO (q0 := 0) (pc := 109) (As := [.int ((st.1 4) + 1)]) (rest := []) X (k_C_goTo l g rt o st ((st.1 4) + 1)) hC (NC_C_goTo_224 X rfl rfl ⟨by decide, by decide⟩) rfl rfl rfl hl.1 (Nat.le_of_ble_eq_true rfl) rfl d_C_afterStackOrVectorRead_109 ⟨Nat.zero_le _, Nat.zero_le _⟩ (fun st12 H locs est12 hC => ?_)
    replace he := bS_go he est12
    refine lv_goto (pc := 112) (tgt := 200) hx hb d_C_afterStackOrVectorRead_112 (by decide) ?_
    exact B200 _ _ _ st12   hC (lv_sub hl [] rfl) he
  replace he := if_no he h11
  by_cases h13 : (swS (st.2.1)) = 30
  · replace he := if_go he h13
    refine lv_tableIn (pc := 11) (tgt := 115) hx hb d_C_afterStackOrVectorRead_11 (by rw [h13]; decide) (by rw [h13]; decide) (by rw [h13]; rfl) (by decide) ?_
    refine lv_aload_n (pc := 115) hx hb d_C_afterStackOrVectorRead_115 rfl (lv_at hl 0 rfl) ?_
    refine lv_aload_n (pc := 116) hx hb d_C_afterStackOrVectorRead_116 rfl (lv_at hl 0 rfl) ?_
    refine GC_done (pc := 117) X hC d_C_afterStackOrVectorRead_117 ?_
    refine lv_iconst (pc := 120) (v := 2) hx hb d_C_afterStackOrVectorRead_120 (by decide) ?_
    refine lv_icmp_ge (pc := 121) (tgt := 130) hx hb d_C_afterStackOrVectorRead_121 (by decide) (fun h14 => ?_) (fun h14 => ?_)
    · replace he := if_go he h14
      refine SC_stp_PUSH_PAGE (pc := 130) X hC d_C_afterStackOrVectorRead_130 ?_
      exact B133 _ _ _ st (21 : Fin 35)  hC (lv_sub hl [] rfl) he
    replace he := if_no he h14
    refine SC_stp_INTERRUPT_IDLE (pc := 124) X hC d_C_afterStackOrVectorRead_124 ?_
    refine lv_goto (pc := 127) (tgt := 133) hx hb d_C_afterStackOrVectorRead_127 (by decide) ?_
    exact B133 _ _ _ st (28 : Fin 35)  hC (lv_sub hl [] rfl) he
  replace he := if_no he h13
  by_cases h15 : (swS (st.2.1)) = 31
  · replace he := if_go he h15
    refine lv_tableIn (pc := 11) (tgt := 139) hx hb d_C_afterStackOrVectorRead_11 (by rw [h15]; decide) (by rw [h15]; decide) (by rw [h15]; rfl) (by decide) ?_
    refine lv_aload_n (pc := 139) hx hb d_C_afterStackOrVectorRead_139 rfl (lv_at hl 0 rfl) ?_
    refine lv_iload_n (pc := 140) hx hb d_C_afterStackOrVectorRead_140 rfl (lv_at hl 1 rfl) ?_
    refine callVO (q0 := 0) (pc := 141) (As := [.int v1]) (rest := []) X (k_C_afterVectorLow l g rt o st v1) hC (NC_C_afterVectorLow_255 X rfl rfl ⟨by decide, by decide⟩) rfl rfl rfl hl.1 (Nat.le_of_ble_eq_true rfl) rfl d_C_afterStackOrVectorRead_141 ⟨Nat.zero_le _, Nat.zero_le _⟩ (fun st16 H locs est16 hC => ?_)
    replace he := bS_go he est16
    refine lv_goto (pc := 144) (tgt := 200) hx hb d_C_afterStackOrVectorRead_144 (by decide) ?_
    exact B200 _ _ _ st16   hC (lv_sub hl [] rfl) he
  replace he := if_no he h15
  by_cases h17 : (swS (st.2.1)) = 32
  · replace he := if_go he h17
    refine lv_tableIn (pc := 11) (tgt := 147) hx hb d_C_afterStackOrVectorRead_11 (by rw [h17]; decide) (by rw [h17]; decide) (by rw [h17]; rfl) (by decide) ?_
    refine lv_aload_n (pc := 147) hx hb d_C_afterStackOrVectorRead_147 rfl (lv_at hl 0 rfl) ?_
    refine lv_aload_n (pc := 148) hx hb d_C_afterStackOrVectorRead_148 rfl (lv_at hl 0 rfl) ?_
    refine GC_held (pc := 149) X hC d_C_afterStackOrVectorRead_149 ?_
    refine lv_sipush (pc := 152) (v := 256) hx hb d_C_afterStackOrVectorRead_152 (by decide) ?_
    refine lv_iload_n (pc := 155) hx hb d_C_afterStackOrVectorRead_155 rfl (lv_at hl 1 rfl) ?_
    refine lv_imul (pc := 156) hx hb d_C_afterStackOrVectorRead_156 ?_
    refine lv_iadd (pc := 157) hx hb d_C_afterStackOrVectorRead_157 ?_
    refine callVO (q0 := 0) (pc := 158) (As := [.int ((st.1 13) + (256 * v1))]) (rest := []) X (k_C_goTo l g rt o st ((st.1 13) + (256 * v1))) hC (NC_C_goTo_224 X rfl rfl ⟨by decide, by decide⟩) rfl rfl rfl hl.1 (Nat.le_of_ble_eq_true rfl) rfl d_C_afterStackOrVectorRead_158 ⟨Nat.zero_le _, Nat.zero_le _⟩ (fun st18 H locs est18 hC => ?_)
    replace he := bS_go he est18
    refine lv_goto (pc := 161) (tgt := 200) hx hb d_C_afterStackOrVectorRead_161 (by decide) ?_
    exact B200 _ _ _ st18   hC (lv_sub hl [] rfl) he
  replace he := if_no he h17
  by_cases h19 : (swS (st.2.1)) = 33
  · replace he := if_go he h19
    refine lv_tableIn (pc := 11) (tgt := 164) hx hb d_C_afterStackOrVectorRead_11 (by rw [h19]; decide) (by rw [h19]; decide) (by rw [h19]; rfl) (by decide) ?_
    refine lv_aload_n (pc := 164) hx hb d_C_afterStackOrVectorRead_164 rfl (lv_at hl 0 rfl) ?_
    refine lv_aload_n (pc := 165) hx hb d_C_afterStackOrVectorRead_165 rfl (lv_at hl 0 rfl) ?_
    refine GC_done (pc := 166) X hC d_C_afterStackOrVectorRead_166 ?_
    refine lv_iconst (pc := 169) (v := 2) hx hb d_C_afterStackOrVectorRead_169 (by decide) ?_
    refine lv_icmp_ge (pc := 170) (tgt := 179) hx hb d_C_afterStackOrVectorRead_170 (by decide) (fun h20 => ?_) (fun h20 => ?_)
    · replace he := if_go he h20
      refine SC_stp_RESET_STACK (pc := 179) X hC d_C_afterStackOrVectorRead_179 ?_
      exact B182 _ _ _ st (32 : Fin 35)  hC (lv_sub hl [] rfl) he
    replace he := if_no he h20
    refine SC_stp_RESET_IDLE (pc := 173) X hC d_C_afterStackOrVectorRead_173 ?_
    refine lv_goto (pc := 176) (tgt := 182) hx hb d_C_afterStackOrVectorRead_176 (by decide) ?_
    exact B182 _ _ _ st (31 : Fin 35)  hC (lv_sub hl [] rfl) he
  replace he := if_no he h19
  by_cases h21 : (swS (st.2.1)) = 34
  · replace he := if_go he h21
    refine lv_tableIn (pc := 11) (tgt := 188) hx hb d_C_afterStackOrVectorRead_11 (by rw [h21]; decide) (by rw [h21]; decide) (by rw [h21]; rfl) (by decide) ?_
    refine lv_aload_n (pc := 188) hx hb d_C_afterStackOrVectorRead_188 rfl (lv_at hl 0 rfl) ?_
    refine callVO (q0 := 0) (pc := 189) (As := []) (rest := []) X (k_C_afterResetStack l g rt o st ) hC (NC_C_afterResetStack_261 X rfl rfl ⟨by decide, by decide⟩) rfl rfl rfl hl.1 (Nat.le_of_ble_eq_true rfl) rfl d_C_afterStackOrVectorRead_189 ⟨Nat.zero_le _, Nat.zero_le _⟩ (fun st22 H locs est22 hC => ?_)
    replace he := bS_go he est22
    refine lv_goto (pc := 192) (tgt := 200) hx hb d_C_afterStackOrVectorRead_192 (by decide) ?_
    exact B200 _ _ _ st22   hC (lv_sub hl [] rfl) he
  replace he := if_no he h21
  refine lv_tableOut (pc := 11) (tgt := 195) hx hb d_C_afterStackOrVectorRead_11 (by have nh1 := lv_neT (a := 25) h1 (by decide); have nh5 := lv_neT (a := 26) h5 (by decide); have nh7 := lv_neT (a := 27) h7 (by decide); have nh9 := lv_neT (a := 28) h9 (by decide); have nh11 := lv_neT (a := 29) h11 (by decide); have nh13 := lv_neT (a := 30) h13 (by decide); have nh15 := lv_neT (a := 31) h15 (by decide); have nh17 := lv_neT (a := 32) h17 (by decide); have nh19 := lv_neT (a := 33) h19 (by decide); have nh21 := lv_neT (a := 34) h21 (by decide); omega) (by decide) ?_
  refine lv_aload_n (pc := 195) hx hb d_C_afterStackOrVectorRead_195 rfl (lv_at hl 0 rfl) ?_
  refine lv_iload_n (pc := 196) hx hb d_C_afterStackOrVectorRead_196 rfl (lv_at hl 1 rfl) ?_
  refine callVO (q0 := 0) (pc := 197) (As := [.int v1]) (rest := []) X (k_C_afterResetLow l g rt o st v1) hC (NC_C_afterResetLow_264 X rfl rfl ⟨by decide, by decide⟩) rfl rfl rfl hl.1 (Nat.le_of_ble_eq_true rfl) rfl d_C_afterStackOrVectorRead_197 ⟨Nat.zero_le _, Nat.zero_le _⟩ (fun st23 H locs est23 hC => ?_)
  replace he := bS_go he est23
  exact B200 _ _ _ st23   hC (lv_sub hl [] rfl) he
def f_C_afterRead_264 (st : CS)  : CS := st
def f_C_afterRead (st : CS) (v1 : Int32) : CS := if (swS (st.2.1)) = 8 then (bS (f_C_afterFetch st v1) (fun st2 => f_C_afterRead_264 st2 )) else (if (swS (st.2.1)) = 9 then (bS (f_R_nextPc st ) (fun st4 => bS (f_R_operate st4 (st4.1 7) v1) (fun st5 => bS (f_C_end st5 ) (fun st6 => f_C_afterRead_264 st6 )))) else (if (swS (st.2.1)) = 10 then (bS (f_C_afterZeroByte st v1) (fun st8 => f_C_afterRead_264 st8 )) else (if (swS (st.2.1)) = 11 then (bS (f_C_afterZeroIdle st ) (fun st10 => f_C_afterRead_264 st10 )) else (if (swS (st.2.1)) = 12 then (bS (f_C_afterPointerLow st v1) (fun st12 => f_C_afterRead_264 st12 )) else (if (swS (st.2.1)) = 13 then (bS (f_C_afterPointerPage st v1) (fun st14 => f_C_afterRead_264 st14 )) else (if (swS (st.2.1)) = 14 then (bS (f_C_afterFarLow st v1) (fun st16 => f_C_afterRead_264 st16 )) else (if (swS (st.2.1)) = 15 then (bS (f_C_afterFarPage st v1) (fun st18 => f_C_afterRead_264 st18 )) else (if (swS (st.2.1)) = 16 then (bS (f_C_accessOperandAt st (st.1 12)) (fun st20 => f_C_afterRead_264 st20 )) else (if (swS (st.2.1)) = 17 then (bS (f_R_operate st (st.1 7) v1) (fun st22 => bS (f_C_end st22 ) (fun st23 => f_C_afterRead_264 st23 ))) else (if (swS (st.2.1)) = 18 then (bS (f_C_afterChangeRead st v1) (fun st25 => f_C_afterRead_264 st25 )) else (if (swS (st.2.1)) = 19 then (bS (f_C_afterBranchDistance st v1) (fun st27 => f_C_afterRead_264 st27 )) else (if (swS (st.2.1)) = 20 then (bS (f_C_afterBranchIdle st ) (fun st29 => f_C_afterRead_264 st29 )) else (if (swS (st.2.1)) = 21 then (bS (f_C_goTo st (st.1 12)) (fun st31 => f_C_afterRead_264 st31 )) else (if (swS (st.2.1)) = 22 then (bS (f_C_afterBreakNext st ) (fun st33 => f_C_afterRead_264 st33 )) else (if (swS (st.2.1)) = 23 then (bS (f_C_afterPcIdle st ) (fun st35 => f_C_afterRead_264 st35 )) else (if (swS (st.2.1)) = 24 then (bS (sV st 9 1) (fun st37 => f_C_afterRead_264 st37 )) else (bS (f_C_afterStackOrVectorRead st v1) (fun st38 => f_C_afterRead_264 st38 ))))))))))))))))))
abbrev rm_C_afterRead : Room := { frames := 4, cells := 0, slots := 0, locals := 91 }
set_option maxHeartbeats 4000000 in
set_option maxRecDepth 100000 in
theorem k_C_afterRead (l : Launch) (g : CG) (rt : MS) (o : Nat → Int64) (st : CS) (v1 : Int32) : KV l g y_C_afterRead (Cond.code y_C_afterRead c_C_afterRead 2 none :: ALL) rm_C_afterRead [.ref (g.chip), .int v1] (wC g rt o) st (f_C_afterRead st v1) := by
  refine KV.ofW (by decide) (Nat.le_of_ble_eq_true rfl) ?_
  intro p e s m args below meth c A Q ls Rv X he RET hC hl
  obtain ⟨hx, hb⟩ := FX_xb X
  have hl : lv_has ls 2 [(0, .ref (g.chip)), (1, .int v1)] := hl
  have B264 : ∀ (H : Heap) (locs : List Loc) (ls : Array Slot) (st : CS) , HC g A s (wC g rt o st) H locs → lv_has ls 2 [] → f_C_afterRead_264 st  = Rv → W p l e rm_C_afterRead s m args below meth c H locs 0 0 Q (F0 m 264 ls []) := by
    intro H locs ls st   hC hl he
    unfold f_C_afterRead_264 at he
    exact RET (pc := 264) d_C_afterRead_264 hC he
  unfold f_C_afterRead at he
  refine SC_mapS (pc := 0) X hC d_C_afterRead_0 ?_
  refine lv_aload_n (pc := 3) hx hb d_C_afterRead_3 rfl (lv_at hl 0 rfl) ?_
  refine GC_step (pc := 4) X hC d_C_afterRead_4 ?_
  refine OC_stp (pc := 7) (k := st.2.1) (rest := [.ref (g.mapS)]) X hC hl.1 (Nat.le_of_ble_eq_true rfl) ⟨by decide, by decide⟩ ⟨Nat.zero_le _, Nat.zero_le _⟩ d_C_afterRead_7 ?_
  refine AmapS (pc := 10) (k := st.2.1) X hC d_C_afterRead_10 ?_
  by_cases h1 : (swS (st.2.1)) = 8
  · replace he := if_go he h1
    refine lv_tableIn (pc := 11) (tgt := 92) hx hb d_C_afterRead_11 (by rw [h1]; decide) (by rw [h1]; decide) (by rw [h1]; rfl) (by decide) ?_
    refine lv_aload_n (pc := 92) hx hb d_C_afterRead_92 rfl (lv_at hl 0 rfl) ?_
    refine lv_iload_n (pc := 93) hx hb d_C_afterRead_93 rfl (lv_at hl 1 rfl) ?_
    refine callVO (q0 := 0) (pc := 94) (As := [.int v1]) (rest := []) X (k_C_afterFetch l g rt o st v1) hC (NC_C_afterFetch_182 X rfl rfl ⟨by decide, by decide⟩) rfl rfl rfl hl.1 (Nat.le_of_ble_eq_true rfl) rfl d_C_afterRead_94 ⟨Nat.zero_le _, Nat.zero_le _⟩ (fun st2 H locs est2 hC => ?_)
    replace he := bS_go he est2
    refine lv_goto (pc := 97) (tgt := 264) hx hb d_C_afterRead_97 (by decide) ?_
    exact B264 _ _ _ st2   hC (lv_sub hl [] rfl) he
  replace he := if_no he h1
  by_cases h3 : (swS (st.2.1)) = 9
  · replace he := if_go he h3
    refine lv_tableIn (pc := 11) (tgt := 100) hx hb d_C_afterRead_11 (by rw [h3]; decide) (by rw [h3]; decide) (by rw [h3]; rfl) (by decide) ?_
    refine lv_aload_n (pc := 100) hx hb d_C_afterRead_100 rfl (lv_at hl 0 rfl) ?_
    refine GC_registers (pc := 101) X hC d_C_afterRead_101 ?_
    refine callVN (q0 := 3) (pc := 104) (As := []) (rest := []) X (k_R_nextPc l g rt o st ) hC (NC_R_nextPc_185 X rfl rfl ⟨by decide, by decide⟩) rfl rfl rfl hl.1 (Nat.le_of_ble_eq_true rfl) rfl d_C_afterRead_104 ⟨Nat.zero_le _, Nat.zero_le _⟩ (fun st4 H locs est4 hC => ?_)
    replace he := bS_go he est4
    refine lv_aload_n (pc := 107) hx hb d_C_afterRead_107 rfl (lv_at hl 0 rfl) ?_
    refine GC_registers (pc := 108) X hC d_C_afterRead_108 ?_
    refine lv_aload_n (pc := 111) hx hb d_C_afterRead_111 rfl (lv_at hl 0 rfl) ?_
    refine GC_operation (pc := 112) X hC d_C_afterRead_112 ?_
    refine lv_iload_n (pc := 115) hx hb d_C_afterRead_115 rfl (lv_at hl 1 rfl) ?_
    refine callVN (q0 := 3) (pc := 116) (As := [.int (st4.1 7), .int v1]) (rest := []) X (k_R_operate l g rt o st4 (st4.1 7) v1) hC (NC_R_operate_188 X rfl rfl ⟨by decide, by decide⟩) rfl rfl rfl hl.1 (Nat.le_of_ble_eq_true rfl) rfl d_C_afterRead_116 ⟨Nat.zero_le _, Nat.zero_le _⟩ (fun st5 H locs est5 hC => ?_)
    replace he := bS_go he est5
    refine lv_aload_n (pc := 119) hx hb d_C_afterRead_119 rfl (lv_at hl 0 rfl) ?_
    refine callVO (q0 := 0) (pc := 120) (As := []) (rest := []) X (k_C_end l g rt o st5 ) hC (NC_C_end_161 X rfl rfl ⟨by decide, by decide⟩) rfl rfl rfl hl.1 (Nat.le_of_ble_eq_true rfl) rfl d_C_afterRead_120 ⟨Nat.zero_le _, Nat.zero_le _⟩ (fun st6 H locs est6 hC => ?_)
    replace he := bS_go he est6
    refine lv_goto (pc := 123) (tgt := 264) hx hb d_C_afterRead_123 (by decide) ?_
    exact B264 _ _ _ st6   hC (lv_sub hl [] rfl) he
  replace he := if_no he h3
  by_cases h7 : (swS (st.2.1)) = 10
  · replace he := if_go he h7
    refine lv_tableIn (pc := 11) (tgt := 126) hx hb d_C_afterRead_11 (by rw [h7]; decide) (by rw [h7]; decide) (by rw [h7]; rfl) (by decide) ?_
    refine lv_aload_n (pc := 126) hx hb d_C_afterRead_126 rfl (lv_at hl 0 rfl) ?_
    refine lv_iload_n (pc := 127) hx hb d_C_afterRead_127 rfl (lv_at hl 1 rfl) ?_
    refine callVO (q0 := 0) (pc := 128) (As := [.int v1]) (rest := []) X (k_C_afterZeroByte l g rt o st v1) hC (NC_C_afterZeroByte_191 X rfl rfl ⟨by decide, by decide⟩) rfl rfl rfl hl.1 (Nat.le_of_ble_eq_true rfl) rfl d_C_afterRead_128 ⟨Nat.zero_le _, Nat.zero_le _⟩ (fun st8 H locs est8 hC => ?_)
    replace he := bS_go he est8
    refine lv_goto (pc := 131) (tgt := 264) hx hb d_C_afterRead_131 (by decide) ?_
    exact B264 _ _ _ st8   hC (lv_sub hl [] rfl) he
  replace he := if_no he h7
  by_cases h9 : (swS (st.2.1)) = 11
  · replace he := if_go he h9
    refine lv_tableIn (pc := 11) (tgt := 134) hx hb d_C_afterRead_11 (by rw [h9]; decide) (by rw [h9]; decide) (by rw [h9]; rfl) (by decide) ?_
    refine lv_aload_n (pc := 134) hx hb d_C_afterRead_134 rfl (lv_at hl 0 rfl) ?_
    refine callVO (q0 := 0) (pc := 135) (As := []) (rest := []) X (k_C_afterZeroIdle l g rt o st ) hC (NC_C_afterZeroIdle_194 X rfl rfl ⟨by decide, by decide⟩) rfl rfl rfl hl.1 (Nat.le_of_ble_eq_true rfl) rfl d_C_afterRead_135 ⟨Nat.zero_le _, Nat.zero_le _⟩ (fun st10 H locs est10 hC => ?_)
    replace he := bS_go he est10
    refine lv_goto (pc := 138) (tgt := 264) hx hb d_C_afterRead_138 (by decide) ?_
    exact B264 _ _ _ st10   hC (lv_sub hl [] rfl) he
  replace he := if_no he h9
  by_cases h11 : (swS (st.2.1)) = 12
  · replace he := if_go he h11
    refine lv_tableIn (pc := 11) (tgt := 141) hx hb d_C_afterRead_11 (by rw [h11]; decide) (by rw [h11]; decide) (by rw [h11]; rfl) (by decide) ?_
    refine lv_aload_n (pc := 141) hx hb d_C_afterRead_141 rfl (lv_at hl 0 rfl) ?_
    refine lv_iload_n (pc := 142) hx hb d_C_afterRead_142 rfl (lv_at hl 1 rfl) ?_
    refine callVO (q0 := 0) (pc := 143) (As := [.int v1]) (rest := []) X (k_C_afterPointerLow l g rt o st v1) hC (NC_C_afterPointerLow_197 X rfl rfl ⟨by decide, by decide⟩) rfl rfl rfl hl.1 (Nat.le_of_ble_eq_true rfl) rfl d_C_afterRead_143 ⟨Nat.zero_le _, Nat.zero_le _⟩ (fun st12 H locs est12 hC => ?_)
    replace he := bS_go he est12
    refine lv_goto (pc := 146) (tgt := 264) hx hb d_C_afterRead_146 (by decide) ?_
    exact B264 _ _ _ st12   hC (lv_sub hl [] rfl) he
  replace he := if_no he h11
  by_cases h13 : (swS (st.2.1)) = 13
  · replace he := if_go he h13
    refine lv_tableIn (pc := 11) (tgt := 149) hx hb d_C_afterRead_11 (by rw [h13]; decide) (by rw [h13]; decide) (by rw [h13]; rfl) (by decide) ?_
    refine lv_aload_n (pc := 149) hx hb d_C_afterRead_149 rfl (lv_at hl 0 rfl) ?_
    refine lv_iload_n (pc := 150) hx hb d_C_afterRead_150 rfl (lv_at hl 1 rfl) ?_
    refine callVO (q0 := 0) (pc := 151) (As := [.int v1]) (rest := []) X (k_C_afterPointerPage l g rt o st v1) hC (NC_C_afterPointerPage_200 X rfl rfl ⟨by decide, by decide⟩) rfl rfl rfl hl.1 (Nat.le_of_ble_eq_true rfl) rfl d_C_afterRead_151 ⟨Nat.zero_le _, Nat.zero_le _⟩ (fun st14 H locs est14 hC => ?_)
    replace he := bS_go he est14
    refine lv_goto (pc := 154) (tgt := 264) hx hb d_C_afterRead_154 (by decide) ?_
    exact B264 _ _ _ st14   hC (lv_sub hl [] rfl) he
  replace he := if_no he h13
  by_cases h15 : (swS (st.2.1)) = 14
  · replace he := if_go he h15
    refine lv_tableIn (pc := 11) (tgt := 157) hx hb d_C_afterRead_11 (by rw [h15]; decide) (by rw [h15]; decide) (by rw [h15]; rfl) (by decide) ?_
    refine lv_aload_n (pc := 157) hx hb d_C_afterRead_157 rfl (lv_at hl 0 rfl) ?_
    refine lv_iload_n (pc := 158) hx hb d_C_afterRead_158 rfl (lv_at hl 1 rfl) ?_
    refine callVO (q0 := 0) (pc := 159) (As := [.int v1]) (rest := []) X (k_C_afterFarLow l g rt o st v1) hC (NC_C_afterFarLow_203 X rfl rfl ⟨by decide, by decide⟩) rfl rfl rfl hl.1 (Nat.le_of_ble_eq_true rfl) rfl d_C_afterRead_159 ⟨Nat.zero_le _, Nat.zero_le _⟩ (fun st16 H locs est16 hC => ?_)
    replace he := bS_go he est16
    refine lv_goto (pc := 162) (tgt := 264) hx hb d_C_afterRead_162 (by decide) ?_
    exact B264 _ _ _ st16   hC (lv_sub hl [] rfl) he
  replace he := if_no he h15
  by_cases h17 : (swS (st.2.1)) = 15
  · replace he := if_go he h17
    refine lv_tableIn (pc := 11) (tgt := 165) hx hb d_C_afterRead_11 (by rw [h17]; decide) (by rw [h17]; decide) (by rw [h17]; rfl) (by decide) ?_
    refine lv_aload_n (pc := 165) hx hb d_C_afterRead_165 rfl (lv_at hl 0 rfl) ?_
    refine lv_iload_n (pc := 166) hx hb d_C_afterRead_166 rfl (lv_at hl 1 rfl) ?_
    refine callVO (q0 := 0) (pc := 167) (As := [.int v1]) (rest := []) X (k_C_afterFarPage l g rt o st v1) hC (NC_C_afterFarPage_206 X rfl rfl ⟨by decide, by decide⟩) rfl rfl rfl hl.1 (Nat.le_of_ble_eq_true rfl) rfl d_C_afterRead_167 ⟨Nat.zero_le _, Nat.zero_le _⟩ (fun st18 H locs est18 hC => ?_)
    replace he := bS_go he est18
    refine lv_goto (pc := 170) (tgt := 264) hx hb d_C_afterRead_170 (by decide) ?_
    exact B264 _ _ _ st18   hC (lv_sub hl [] rfl) he
  replace he := if_no he h17
  by_cases h19 : (swS (st.2.1)) = 16
  · replace he := if_go he h19
    refine lv_tableIn (pc := 11) (tgt := 173) hx hb d_C_afterRead_11 (by rw [h19]; decide) (by rw [h19]; decide) (by rw [h19]; rfl) (by decide) ?_
    refine lv_aload_n (pc := 173) hx hb d_C_afterRead_173 rfl (lv_at hl 0 rfl) ?_
    refine lv_aload_n (pc := 174) hx hb d_C_afterRead_174 rfl (lv_at hl 0 rfl) ?_
    refine GC_target (pc := 175) X hC d_C_afterRead_175 ?_
    refine callVO (q0 := 0) (pc := 178) (As := [.int (st.1 12)]) (rest := []) X (k_C_accessOperandAt l g rt o st (st.1 12)) hC (NC_C_accessOperandAt_212 X rfl rfl ⟨by decide, by decide⟩) rfl rfl rfl hl.1 (Nat.le_of_ble_eq_true rfl) rfl d_C_afterRead_178 ⟨Nat.zero_le _, Nat.zero_le _⟩ (fun st20 H locs est20 hC => ?_)
    replace he := bS_go he est20
    refine lv_goto (pc := 181) (tgt := 264) hx hb d_C_afterRead_181 (by decide) ?_
    exact B264 _ _ _ st20   hC (lv_sub hl [] rfl) he
  replace he := if_no he h19
  by_cases h21 : (swS (st.2.1)) = 17
  · replace he := if_go he h21
    refine lv_tableIn (pc := 11) (tgt := 184) hx hb d_C_afterRead_11 (by rw [h21]; decide) (by rw [h21]; decide) (by rw [h21]; rfl) (by decide) ?_
    refine lv_aload_n (pc := 184) hx hb d_C_afterRead_184 rfl (lv_at hl 0 rfl) ?_
    refine GC_registers (pc := 185) X hC d_C_afterRead_185 ?_
    refine lv_aload_n (pc := 188) hx hb d_C_afterRead_188 rfl (lv_at hl 0 rfl) ?_
    refine GC_operation (pc := 189) X hC d_C_afterRead_189 ?_
    refine lv_iload_n (pc := 192) hx hb d_C_afterRead_192 rfl (lv_at hl 1 rfl) ?_
    refine callVN (q0 := 3) (pc := 193) (As := [.int (st.1 7), .int v1]) (rest := []) X (k_R_operate l g rt o st (st.1 7) v1) hC (NC_R_operate_188 X rfl rfl ⟨by decide, by decide⟩) rfl rfl rfl hl.1 (Nat.le_of_ble_eq_true rfl) rfl d_C_afterRead_193 ⟨Nat.zero_le _, Nat.zero_le _⟩ (fun st22 H locs est22 hC => ?_)
    replace he := bS_go he est22
    refine lv_aload_n (pc := 196) hx hb d_C_afterRead_196 rfl (lv_at hl 0 rfl) ?_
    refine callVO (q0 := 0) (pc := 197) (As := []) (rest := []) X (k_C_end l g rt o st22 ) hC (NC_C_end_161 X rfl rfl ⟨by decide, by decide⟩) rfl rfl rfl hl.1 (Nat.le_of_ble_eq_true rfl) rfl d_C_afterRead_197 ⟨Nat.zero_le _, Nat.zero_le _⟩ (fun st23 H locs est23 hC => ?_)
    replace he := bS_go he est23
    refine lv_goto (pc := 200) (tgt := 264) hx hb d_C_afterRead_200 (by decide) ?_
    exact B264 _ _ _ st23   hC (lv_sub hl [] rfl) he
  replace he := if_no he h21
  by_cases h24 : (swS (st.2.1)) = 18
  · replace he := if_go he h24
    refine lv_tableIn (pc := 11) (tgt := 203) hx hb d_C_afterRead_11 (by rw [h24]; decide) (by rw [h24]; decide) (by rw [h24]; rfl) (by decide) ?_
    refine lv_aload_n (pc := 203) hx hb d_C_afterRead_203 rfl (lv_at hl 0 rfl) ?_
    refine lv_iload_n (pc := 204) hx hb d_C_afterRead_204 rfl (lv_at hl 1 rfl) ?_
    refine callVO (q0 := 0) (pc := 205) (As := [.int v1]) (rest := []) X (k_C_afterChangeRead l g rt o st v1) hC (NC_C_afterChangeRead_215 X rfl rfl ⟨by decide, by decide⟩) rfl rfl rfl hl.1 (Nat.le_of_ble_eq_true rfl) rfl d_C_afterRead_205 ⟨Nat.zero_le _, Nat.zero_le _⟩ (fun st25 H locs est25 hC => ?_)
    replace he := bS_go he est25
    refine lv_goto (pc := 208) (tgt := 264) hx hb d_C_afterRead_208 (by decide) ?_
    exact B264 _ _ _ st25   hC (lv_sub hl [] rfl) he
  replace he := if_no he h24
  by_cases h26 : (swS (st.2.1)) = 19
  · replace he := if_go he h26
    refine lv_tableIn (pc := 11) (tgt := 211) hx hb d_C_afterRead_11 (by rw [h26]; decide) (by rw [h26]; decide) (by rw [h26]; rfl) (by decide) ?_
    refine lv_aload_n (pc := 211) hx hb d_C_afterRead_211 rfl (lv_at hl 0 rfl) ?_
    refine lv_iload_n (pc := 212) hx hb d_C_afterRead_212 rfl (lv_at hl 1 rfl) ?_
    refine callVO (q0 := 0) (pc := 213) (As := [.int v1]) (rest := []) X (k_C_afterBranchDistance l g rt o st v1) hC (NC_C_afterBranchDistance_218 X rfl rfl ⟨by decide, by decide⟩) rfl rfl rfl hl.1 (Nat.le_of_ble_eq_true rfl) rfl d_C_afterRead_213 ⟨Nat.zero_le _, Nat.zero_le _⟩ (fun st27 H locs est27 hC => ?_)
    replace he := bS_go he est27
    refine lv_goto (pc := 216) (tgt := 264) hx hb d_C_afterRead_216 (by decide) ?_
    exact B264 _ _ _ st27   hC (lv_sub hl [] rfl) he
  replace he := if_no he h26
  by_cases h28 : (swS (st.2.1)) = 20
  · replace he := if_go he h28
    refine lv_tableIn (pc := 11) (tgt := 219) hx hb d_C_afterRead_11 (by rw [h28]; decide) (by rw [h28]; decide) (by rw [h28]; rfl) (by decide) ?_
    refine lv_aload_n (pc := 219) hx hb d_C_afterRead_219 rfl (lv_at hl 0 rfl) ?_
    refine callVO (q0 := 0) (pc := 220) (As := []) (rest := []) X (k_C_afterBranchIdle l g rt o st ) hC (NC_C_afterBranchIdle_221 X rfl rfl ⟨by decide, by decide⟩) rfl rfl rfl hl.1 (Nat.le_of_ble_eq_true rfl) rfl d_C_afterRead_220 ⟨Nat.zero_le _, Nat.zero_le _⟩ (fun st29 H locs est29 hC => ?_)
    replace he := bS_go he est29
    refine lv_goto (pc := 223) (tgt := 264) hx hb d_C_afterRead_223 (by decide) ?_
    exact B264 _ _ _ st29   hC (lv_sub hl [] rfl) he
  replace he := if_no he h28
  by_cases h30 : (swS (st.2.1)) = 21
  · replace he := if_go he h30
    refine lv_tableIn (pc := 11) (tgt := 226) hx hb d_C_afterRead_11 (by rw [h30]; decide) (by rw [h30]; decide) (by rw [h30]; rfl) (by decide) ?_
    refine lv_aload_n (pc := 226) hx hb d_C_afterRead_226 rfl (lv_at hl 0 rfl) ?_
    refine lv_aload_n (pc := 227) hx hb d_C_afterRead_227 rfl (lv_at hl 0 rfl) ?_
    refine GC_target (pc := 228) X hC d_C_afterRead_228 ?_
    refine callVO (q0 := 0) (pc := 231) (As := [.int (st.1 12)]) (rest := []) X (k_C_goTo l g rt o st (st.1 12)) hC (NC_C_goTo_224 X rfl rfl ⟨by decide, by decide⟩) rfl rfl rfl hl.1 (Nat.le_of_ble_eq_true rfl) rfl d_C_afterRead_231 ⟨Nat.zero_le _, Nat.zero_le _⟩ (fun st31 H locs est31 hC => ?_)
    replace he := bS_go he est31
    refine lv_goto (pc := 234) (tgt := 264) hx hb d_C_afterRead_234 (by decide) ?_
    exact B264 _ _ _ st31   hC (lv_sub hl [] rfl) he
  replace he := if_no he h30
  by_cases h32 : (swS (st.2.1)) = 22
  · replace he := if_go he h32
    refine lv_tableIn (pc := 11) (tgt := 237) hx hb d_C_afterRead_11 (by rw [h32]; decide) (by rw [h32]; decide) (by rw [h32]; rfl) (by decide) ?_
    refine lv_aload_n (pc := 237) hx hb d_C_afterRead_237 rfl (lv_at hl 0 rfl) ?_
    refine callVO (q0 := 0) (pc := 238) (As := []) (rest := []) X (k_C_afterBreakNext l g rt o st ) hC (NC_C_afterBreakNext_227 X rfl rfl ⟨by decide, by decide⟩) rfl rfl rfl hl.1 (Nat.le_of_ble_eq_true rfl) rfl d_C_afterRead_238 ⟨Nat.zero_le _, Nat.zero_le _⟩ (fun st33 H locs est33 hC => ?_)
    replace he := bS_go he est33
    refine lv_goto (pc := 241) (tgt := 264) hx hb d_C_afterRead_241 (by decide) ?_
    exact B264 _ _ _ st33   hC (lv_sub hl [] rfl) he
  replace he := if_no he h32
  by_cases h34 : (swS (st.2.1)) = 23
  · replace he := if_go he h34
    refine lv_tableIn (pc := 11) (tgt := 244) hx hb d_C_afterRead_11 (by rw [h34]; decide) (by rw [h34]; decide) (by rw [h34]; rfl) (by decide) ?_
    refine lv_aload_n (pc := 244) hx hb d_C_afterRead_244 rfl (lv_at hl 0 rfl) ?_
    refine callVO (q0 := 0) (pc := 245) (As := []) (rest := []) X (k_C_afterPcIdle l g rt o st ) hC (NC_C_afterPcIdle_230 X rfl rfl ⟨by decide, by decide⟩) rfl rfl rfl hl.1 (Nat.le_of_ble_eq_true rfl) rfl d_C_afterRead_245 ⟨Nat.zero_le _, Nat.zero_le _⟩ (fun st35 H locs est35 hC => ?_)
    replace he := bS_go he est35
    refine lv_goto (pc := 248) (tgt := 264) hx hb d_C_afterRead_248 (by decide) ?_
    exact B264 _ _ _ st35   hC (lv_sub hl [] rfl) he
  replace he := if_no he h34
  by_cases h36 : (swS (st.2.1)) = 24
  · replace he := if_go he h36
    refine lv_tableIn (pc := 11) (tgt := 251) hx hb d_C_afterRead_11 (by rw [h36]; decide) (by rw [h36]; decide) (by rw [h36]; rfl) (by decide) ?_
    refine lv_aload_n (pc := 251) hx hb d_C_afterRead_251 rfl (lv_at hl 0 rfl) ?_
    refine lv_iconst (pc := 252) (v := 1) hx hb d_C_afterRead_252 (by decide) ?_
    refine PC_done (pc := 253) X hC d_C_afterRead_253 (fun st37 H locs est37 hC => ?_)
    replace he := bS_go he est37
    refine lv_goto (pc := 256) (tgt := 264) hx hb d_C_afterRead_256 (by decide) ?_
    exact B264 _ _ _ st37   hC (lv_sub hl [] rfl) he
  replace he := if_no he h36
  refine lv_tableOut (pc := 11) (tgt := 259) hx hb d_C_afterRead_11 (by have nh1 := lv_neT (a := 8) h1 (by decide); have nh3 := lv_neT (a := 9) h3 (by decide); have nh7 := lv_neT (a := 10) h7 (by decide); have nh9 := lv_neT (a := 11) h9 (by decide); have nh11 := lv_neT (a := 12) h11 (by decide); have nh13 := lv_neT (a := 13) h13 (by decide); have nh15 := lv_neT (a := 14) h15 (by decide); have nh17 := lv_neT (a := 15) h17 (by decide); have nh19 := lv_neT (a := 16) h19 (by decide); have nh21 := lv_neT (a := 17) h21 (by decide); have nh24 := lv_neT (a := 18) h24 (by decide); have nh26 := lv_neT (a := 19) h26 (by decide); have nh28 := lv_neT (a := 20) h28 (by decide); have nh30 := lv_neT (a := 21) h30 (by decide); have nh32 := lv_neT (a := 22) h32 (by decide); have nh34 := lv_neT (a := 23) h34 (by decide); have nh36 := lv_neT (a := 24) h36 (by decide); omega) (by decide) ?_
  refine lv_aload_n (pc := 259) hx hb d_C_afterRead_259 rfl (lv_at hl 0 rfl) ?_
  refine lv_iload_n (pc := 260) hx hb d_C_afterRead_260 rfl (lv_at hl 1 rfl) ?_
  refine callVO (q0 := 0) (pc := 261) (As := [.int v1]) (rest := []) X (k_C_afterStackOrVectorRead l g rt o st v1) hC (NC_C_afterStackOrVectorRead_233 X rfl rfl ⟨by decide, by decide⟩) rfl rfl rfl hl.1 (Nat.le_of_ble_eq_true rfl) rfl d_C_afterRead_261 ⟨Nat.zero_le _, Nat.zero_le _⟩ (fun st38 H locs est38 hC => ?_)
  replace he := bS_go he est38
  exact B264 _ _ _ st38   hC (lv_sub hl [] rfl) he
def f_C_runCycle_92 (st : CS) (v1 : Int32) (v2 : Int32) : Int32 × CS := (((512 * v1) + v2), st)
def f_C_runCycle (st : CS)  : Int32 × CS := bP (f_C_addressOfStep st ) (fun r2 st1 => if (wrS (st1.2.1)) = 0 then (bS ((rM st1 r2) : Int32) (fun y4 => if (rP st1 2) = 0 then (f_C_runCycle_92 st1 r2 y4) else (bS (sV st1 9 ((st1.1 9) + 1)) (fun st6 => bS (f_C_afterRead st6 y4) (fun st7 => f_C_runCycle_92 st7 r2 y4))))) else (bP (f_C_byteToWrite st1 ) (fun r9 st8 => bS (sM st8 r2 r9) (fun st10 => bS (sV st10 9 ((st10.1 9) + 1)) (fun st11 => bS (f_C_afterWrite st11 ) (fun st12 => ((((512 * r2) + 256) + r9), st12)))))))
abbrev rm_C_runCycle : Room := { frames := 5, cells := 0, slots := 0, locals := 112 }
set_option maxHeartbeats 4000000 in
set_option maxRecDepth 100000 in
theorem k_C_runCycle (l : Launch) (g : CG) (rt : MS) (o : Nat → Int64) (st : CS)  : KI l g y_C_runCycle (Cond.code y_C_runCycle c_C_runCycle 3 (some .int) :: ALL) rm_C_runCycle [.ref (g.chip)] (wC g rt o) st (f_C_runCycle st ) := by
  refine KI.ofW (by decide) (Nat.le_of_ble_eq_true rfl) ?_
  intro p e s m args below meth c A Q ls Rv X he RET hC hl
  obtain ⟨hx, hb⟩ := FX_xb X
  have hl : lv_has ls 3 [(0, .ref (g.chip))] := hl
  have B92 : ∀ (H : Heap) (locs : List Loc) (ls : Array Slot) (st : CS) (v1 : Int32) (v2 : Int32), HC g A s (wC g rt o st) H locs → lv_has ls 3 [(1, .int v1), (2, .int v2)] → f_C_runCycle_92 st v1 v2 = Rv → W p l e rm_C_runCycle s m args below meth c H locs 0 0 Q (F0 m 92 ls []) := by
    intro H locs ls st v1 v2  hC hl he
    unfold f_C_runCycle_92 at he
    refine lv_sipush (pc := 92) (v := 512) hx hb d_C_runCycle_92 (by decide) ?_
    refine lv_iload_n (pc := 95) hx hb d_C_runCycle_95 rfl (lv_at hl 0 rfl) ?_
    refine lv_imul (pc := 96) hx hb d_C_runCycle_96 ?_
    refine lv_iload_n (pc := 97) hx hb d_C_runCycle_97 rfl (lv_at hl 1 rfl) ?_
    refine lv_iadd (pc := 98) hx hb d_C_runCycle_98 ?_
    exact RET (pc := 99) d_C_runCycle_99 hC he
  unfold f_C_runCycle at he
  refine lv_aload_n (pc := 0) hx hb d_C_runCycle_0 rfl (lv_at hl 0 rfl) ?_
  refine callIO (q0 := 0) (pc := 1) (As := []) (rest := []) X (k_C_addressOfStep l g rt o st ) hC (NC_C_addressOfStep_109 X rfl rfl ⟨by decide, by decide⟩) rfl rfl rfl hl.1 (Nat.le_of_ble_eq_true rfl) rfl d_C_runCycle_1 ⟨Nat.zero_le _, Nat.zero_le _⟩ (fun r2 st1 H locs est1 hC => ?_)
  replace he := bP_go he est1
  refine lv_istore_n (pc := 4) (nL := 3) (lv' := [(1, .int r2), (0, .ref (g.chip))]) hx hb d_C_runCycle_4 rfl hl (by decide) rfl (fun ls hl => ?_)
  refine lv_aload_n (pc := 5) hx hb d_C_runCycle_5 rfl (lv_at hl 1 rfl) ?_
  refine GC_step (pc := 6) X hC d_C_runCycle_6 ?_
  refine GC_stp_writes (pc := 9) (k := st1.2.1) X hC d_C_runCycle_9 ?_
  refine lv_if_eq (pc := 12) (tgt := 57) hx hb d_C_runCycle_12 (by decide) (fun h3 => ?_) (fun h3 => ?_)
  · replace he := if_go he h3
    refine lv_aload_n (pc := 57) hx hb d_C_runCycle_57 rfl (lv_at hl 1 rfl) ?_
    refine GC_memory (pc := 58) X hC d_C_runCycle_58 ?_
    refine lv_iload_n (pc := 61) hx hb d_C_runCycle_61 rfl (lv_at hl 0 rfl) ?_
    refine lv_sipush (pc := 62) (v := 1023) hx hb d_C_runCycle_62 (by decide) ?_
    refine lv_iand (pc := 65) hx hb d_C_runCycle_65 ?_
    refine Amem (pc := 66) (i := r2) X hC d_C_runCycle_66 ?_
    refine lv_topi (fun y4 ey4 => ?_)
    replace he := bS_go he ey4.symm
    refine lv_istore_n (pc := 67) (nL := 3) (lv' := [(2, .int y4), (1, .int r2), (0, .ref (g.chip))]) hx hb d_C_runCycle_67 rfl hl (by decide) rfl (fun ls hl => ?_)
    refine lv_aload_n (pc := 68) hx hb d_C_runCycle_68 rfl (lv_at hl 2 rfl) ?_
    refine GC_pins (pc := 69) X hC d_C_runCycle_69 ?_
    refine lv_iconst (pc := 72) (v := 2) hx hb d_C_runCycle_72 (by decide) ?_
    refine Apins (pc := 73) (i := 2) X hC (by unfold vp_in; decide) d_C_runCycle_73 ?_
    refine lv_if_eq (pc := 74) (tgt := 92) hx hb d_C_runCycle_74 (by decide) (fun h5 => ?_) (fun h5 => ?_)
    · replace he := if_go he h5
      exact B92 _ _ _ st1 r2 y4  hC (lv_sub hl [1, 0] rfl) he
    replace he := if_no he h5
    refine lv_aload_n (pc := 77) hx hb d_C_runCycle_77 rfl (lv_at hl 2 rfl) ?_
    refine lv_dup (pc := 78) hx hb d_C_runCycle_78 rfl ?_
    refine GC_done (pc := 79) X hC d_C_runCycle_79 ?_
    refine lv_iconst (pc := 82) (v := 1) hx hb d_C_runCycle_82 (by decide) ?_
    refine lv_iadd (pc := 83) hx hb d_C_runCycle_83 ?_
    refine PC_done (pc := 84) X hC d_C_runCycle_84 (fun st6 H locs est6 hC => ?_)
    replace he := bS_go he est6
    refine lv_aload_n (pc := 87) hx hb d_C_runCycle_87 rfl (lv_at hl 2 rfl) ?_
    refine lv_iload_n (pc := 88) hx hb d_C_runCycle_88 rfl (lv_at hl 0 rfl) ?_
    refine callVO (q0 := 0) (pc := 89) (As := [.int y4]) (rest := []) X (k_C_afterRead l g rt o st6 y4) hC (NC_C_afterRead_121 X rfl rfl ⟨by decide, by decide⟩) rfl rfl rfl hl.1 (Nat.le_of_ble_eq_true rfl) rfl d_C_runCycle_89 ⟨Nat.zero_le _, Nat.zero_le _⟩ (fun st7 H locs est7 hC => ?_)
    replace he := bS_go he est7
    exact B92 _ _ _ st7 r2 y4  hC (lv_sub hl [1, 0] rfl) he
  replace he := if_no he h3
  refine lv_aload_n (pc := 15) hx hb d_C_runCycle_15 rfl (lv_at hl 1 rfl) ?_
  refine callIO (q0 := 0) (pc := 16) (As := []) (rest := []) X (k_C_byteToWrite l g rt o st1 ) hC (NC_C_byteToWrite_115 X rfl rfl ⟨by decide, by decide⟩) rfl rfl rfl hl.1 (Nat.le_of_ble_eq_true rfl) rfl d_C_runCycle_16 ⟨Nat.zero_le _, Nat.zero_le _⟩ (fun r9 st8 H locs est8 hC => ?_)
  replace he := bP_go he est8
  refine lv_istore_n (pc := 19) (nL := 3) (lv' := [(2, .int r9), (1, .int r2), (0, .ref (g.chip))]) hx hb d_C_runCycle_19 rfl hl (by decide) rfl (fun ls hl => ?_)
  refine lv_aload_n (pc := 20) hx hb d_C_runCycle_20 rfl (lv_at hl 2 rfl) ?_
  refine GC_memory (pc := 21) X hC d_C_runCycle_21 ?_
  refine lv_iload_n (pc := 24) hx hb d_C_runCycle_24 rfl (lv_at hl 1 rfl) ?_
  refine lv_sipush (pc := 25) (v := 1023) hx hb d_C_runCycle_25 (by decide) ?_
  refine lv_iand (pc := 28) hx hb d_C_runCycle_28 ?_
  refine lv_iload_n (pc := 29) hx hb d_C_runCycle_29 rfl (lv_at hl 0 rfl) ?_
  refine Bmem (pc := 30) (i := r2) X hC d_C_runCycle_30 (fun st10 H locs est10 hC => ?_)
  replace he := bS_go he est10
  refine lv_aload_n (pc := 31) hx hb d_C_runCycle_31 rfl (lv_at hl 2 rfl) ?_
  refine lv_dup (pc := 32) hx hb d_C_runCycle_32 rfl ?_
  refine GC_done (pc := 33) X hC d_C_runCycle_33 ?_
  refine lv_iconst (pc := 36) (v := 1) hx hb d_C_runCycle_36 (by decide) ?_
  refine lv_iadd (pc := 37) hx hb d_C_runCycle_37 ?_
  refine PC_done (pc := 38) X hC d_C_runCycle_38 (fun st11 H locs est11 hC => ?_)
  replace he := bS_go he est11
  refine lv_aload_n (pc := 41) hx hb d_C_runCycle_41 rfl (lv_at hl 2 rfl) ?_
  refine callVO (q0 := 0) (pc := 42) (As := []) (rest := []) X (k_C_afterWrite l g rt o st11 ) hC (NC_C_afterWrite_118 X rfl rfl ⟨by decide, by decide⟩) rfl rfl rfl hl.1 (Nat.le_of_ble_eq_true rfl) rfl d_C_runCycle_42 ⟨Nat.zero_le _, Nat.zero_le _⟩ (fun st12 H locs est12 hC => ?_)
  replace he := bS_go he est12
  refine lv_sipush (pc := 45) (v := 512) hx hb d_C_runCycle_45 (by decide) ?_
  refine lv_iload_n (pc := 48) hx hb d_C_runCycle_48 rfl (lv_at hl 1 rfl) ?_
  refine lv_imul (pc := 49) hx hb d_C_runCycle_49 ?_
  refine lv_sipush (pc := 50) (v := 256) hx hb d_C_runCycle_50 (by decide) ?_
  refine lv_iadd (pc := 53) hx hb d_C_runCycle_53 ?_
  refine lv_iload_n (pc := 54) hx hb d_C_runCycle_54 rfl (lv_at hl 0 rfl) ?_
  refine lv_iadd (pc := 55) hx hb d_C_runCycle_55 ?_
  exact RET (pc := 56) d_C_runCycle_56 hC he
def f_C_cycle (st : CS)  : Int32 × CS := bP (f_C_runCycle st ) (fun r2 st1 => (r2, st1))
abbrev rm_C_cycle : Room := { frames := 6, cells := 0, slots := 0, locals := 134 }
set_option maxHeartbeats 4000000 in
set_option maxRecDepth 100000 in
theorem k_C_cycle (l : Launch) (g : CG) (rt : MS) (o : Nat → Int64) (st : CS)  : KI l g y_C_cycle (Cond.code y_C_cycle c_C_cycle 1 (some .int) :: ALL) rm_C_cycle [.ref (g.chip)] (wC g rt o) st (f_C_cycle st ) := by
  refine KI.ofW (by decide) (Nat.le_of_ble_eq_true rfl) ?_
  intro p e s m args below meth c A Q ls Rv X he RET hC hl
  obtain ⟨hx, hb⟩ := FX_xb X
  have hl : lv_has ls 1 [(0, .ref (g.chip))] := hl
  unfold f_C_cycle at he
  refine lv_aload_n (pc := 0) hx hb d_C_cycle_0 rfl (lv_at hl 0 rfl) ?_
  refine callIO (q0 := 0) (pc := 1) (As := []) (rest := []) X (k_C_runCycle l g rt o st ) hC (NC_C_runCycle_42 X rfl rfl ⟨by decide, by decide⟩) rfl rfl rfl hl.1 (Nat.le_of_ble_eq_true rfl) rfl d_C_cycle_1 ⟨Nat.zero_le _, Nat.zero_le _⟩ (fun r2 st1 H locs est1 hC => ?_)
  replace he := bP_go he est1
  exact RET (pc := 4) d_C_cycle_4 hC he
def f_C_reset (st : CS)  : CS := bS (sV st 6 0) (fun st1 => bS (f_C_begin st1 (14 : Fin 16) (31 : Fin 35)) (fun st2 => st2))
abbrev rm_C_reset : Room := { frames := 1, cells := 0, slots := 0, locals := 22 }
set_option maxHeartbeats 4000000 in
set_option maxRecDepth 100000 in
theorem k_C_reset (l : Launch) (g : CG) (rt : MS) (o : Nat → Int64) (st : CS)  : KV l g y_C_reset (Cond.code y_C_reset c_C_reset 1 none :: ALL) rm_C_reset [.ref (g.chip)] (wC g rt o) st (f_C_reset st ) := by
  refine KV.ofW (by decide) (Nat.le_of_ble_eq_true rfl) ?_
  intro p e s m args below meth c A Q ls Rv X he RET hC hl
  obtain ⟨hx, hb⟩ := FX_xb X
  have hl : lv_has ls 1 [(0, .ref (g.chip))] := hl
  unfold f_C_reset at he
  refine lv_aload_n (pc := 0) hx hb d_C_reset_0 rfl (lv_at hl 0 rfl) ?_
  refine lv_iconst (pc := 1) (v := 0) hx hb d_C_reset_1 (by decide) ?_
  refine PC_nmiWanted (pc := 2) X hC b0 d_C_reset_2 (fun st1 H locs est1 hC => ?_)
  replace he := bS_go he est1
  refine lv_aload_n (pc := 5) hx hb d_C_reset_5 rfl (lv_at hl 0 rfl) ?_
  refine SC_knd_RESET (pc := 6) X hC d_C_reset_6 ?_
  refine SC_stp_RESET_IDLE (pc := 9) X hC d_C_reset_9 ?_
  refine callVO (q0 := 0) (pc := 12) (As := [.ref (g.adK ((14 : Fin 16)).val), .ref (g.adS ((31 : Fin 35)).val)]) (rest := []) X (k_C_begin l g rt o st1 (14 : Fin 16) (31 : Fin 35)) hC (NC_C_begin_70 X rfl rfl ⟨by decide, by decide⟩) rfl rfl rfl hl.1 (Nat.le_of_ble_eq_true rfl) rfl d_C_reset_12 ⟨Nat.zero_le _, Nat.zero_le _⟩ (fun st2 H locs est2 hC => ?_)
  replace he := bS_go he est2
  exact RET (pc := 15) d_C_reset_15 hC he
def f_C_pinWentOn_27 (st : CS)  : CS := st
def f_C_pinWentOn (st : CS) (v1 : Int32) : CS := if v1 = 0 then (bS (sV st 6 1) (fun st4 => f_C_pinWentOn_27 st4 )) else (if v1 = 3 then (bS (f_R_put st 64 1) (fun st3 => f_C_pinWentOn_27 st3 )) else (f_C_pinWentOn_27 st ))
abbrev rm_C_pinWentOn : Room := { frames := 1, cells := 0, slots := 0, locals := 22 }
set_option maxHeartbeats 4000000 in
set_option maxRecDepth 100000 in
theorem k_C_pinWentOn (l : Launch) (g : CG) (rt : MS) (o : Nat → Int64) (st : CS) (v1 : Int32) : KV l g y_C_pinWentOn (Cond.code y_C_pinWentOn c_C_pinWentOn 2 none :: ALL) rm_C_pinWentOn [.ref (g.chip), .int v1] (wC g rt o) st (f_C_pinWentOn st v1) := by
  refine KV.ofW (by decide) (Nat.le_of_ble_eq_true rfl) ?_
  intro p e s m args below meth c A Q ls Rv X he RET hC hl
  obtain ⟨hx, hb⟩ := FX_xb X
  have hl : lv_has ls 2 [(0, .ref (g.chip)), (1, .int v1)] := hl
  have B27 : ∀ (H : Heap) (locs : List Loc) (ls : Array Slot) (st : CS) , HC g A s (wC g rt o st) H locs → lv_has ls 2 [] → f_C_pinWentOn_27 st  = Rv → W p l e rm_C_pinWentOn s m args below meth c H locs 0 0 Q (F0 m 27 ls []) := by
    intro H locs ls st   hC hl he
    unfold f_C_pinWentOn_27 at he
    exact RET (pc := 27) d_C_pinWentOn_27 hC he
  unfold f_C_pinWentOn at he
  refine lv_iload_n (pc := 0) hx hb d_C_pinWentOn_0 rfl (lv_at hl 1 rfl) ?_
  refine lv_if_ne (pc := 1) (tgt := 12) hx hb d_C_pinWentOn_1 (by decide) (fun h1 => ?_) (fun h1 => ?_)
  · replace he := if_no he h1
    refine lv_iload_n (pc := 12) hx hb d_C_pinWentOn_12 rfl (lv_at hl 1 rfl) ?_
    refine lv_iconst (pc := 13) (v := 3) hx hb d_C_pinWentOn_13 (by decide) ?_
    refine lv_icmp_ne (pc := 14) (tgt := 27) hx hb d_C_pinWentOn_14 (by decide) (fun h2 => ?_) (fun h2 => ?_)
    · replace he := if_no he h2
      exact B27 _ _ _ st   hC (lv_sub hl [] rfl) he
    replace he := if_go he h2
    refine lv_aload_n (pc := 17) hx hb d_C_pinWentOn_17 rfl (lv_at hl 0 rfl) ?_
    refine GC_registers (pc := 18) X hC d_C_pinWentOn_18 ?_
    refine lv_bipush (pc := 21) (v := 64) hx hb d_C_pinWentOn_21 (by decide) ?_
    refine lv_iconst (pc := 23) (v := 1) hx hb d_C_pinWentOn_23 (by decide) ?_
    refine callVN (q0 := 3) (pc := 24) (As := [.int 64, .int 1]) (rest := []) X (k_R_put l g rt o st 64 1) hC (NC_R_put_105 X rfl rfl ⟨by decide, by decide⟩) rfl rfl rfl hl.1 (Nat.le_of_ble_eq_true rfl) rfl d_C_pinWentOn_24 ⟨Nat.zero_le _, Nat.zero_le _⟩ (fun st3 H locs est3 hC => ?_)
    replace he := bS_go he est3
    exact B27 _ _ _ st3   hC (lv_sub hl [] rfl) he
  replace he := if_go he h1
  refine lv_aload_n (pc := 4) hx hb d_C_pinWentOn_4 rfl (lv_at hl 0 rfl) ?_
  refine lv_iconst (pc := 5) (v := 1) hx hb d_C_pinWentOn_5 (by decide) ?_
  refine PC_nmiWanted (pc := 6) X hC b1 d_C_pinWentOn_6 (fun st4 H locs est4 hC => ?_)
  replace he := bS_go he est4
  refine lv_goto (pc := 9) (tgt := 27) hx hb d_C_pinWentOn_9 (by decide) ?_
  exact B27 _ _ _ st4   hC (lv_sub hl [] rfl) he

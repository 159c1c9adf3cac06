/-! contracts of methods (printed by my own program: pure pictures and walks) -/
def f_C_poke (st : CS) (v1 : Int32) (v2 : Int32) : Int32 × CS := bS ((rM st v1) : Int32) (fun y1 => bS (sM st v1 (v2 &&& 255)) (fun st2 => (y1, st2)))
abbrev rm_C_poke : Room := { frames := 0, cells := 0, slots := 0, locals := 0 }
set_option maxHeartbeats 4000000 in
set_option maxRecDepth 100000 in
theorem k_C_poke (l : Launch) (g : CG) (rt : MS) (o : Nat → Int64) (st : CS) (v1 : Int32) (v2 : Int32) : KI l g y_C_poke (Cond.code y_C_poke c_C_poke 4 (some .int) :: ALL) rm_C_poke [.ref (g.chip), .int v1, .int v2] (wC g rt o) st (f_C_poke st v1 v2) := by
  refine KI.ofW (by decide) (Nat.le_of_ble_eq_true rfl) ?_
  intro p e s m args below meth c A Q ls Rv X he RET hC hl
  obtain ⟨hx, hb⟩ := FX_xb X
  have hl : lv_has ls 4 [(0, .ref (g.chip)), (1, .int v1), (2, .int v2)] := hl
  unfold f_C_poke at he
  refine lv_aload_n (pc := 0) hx hb d_C_poke_0 rfl (lv_at hl 0 rfl) ?_
  refine GC_memory (pc := 1) X hC d_C_poke_1 ?_
  refine lv_iload_n (pc := 4) hx hb d_C_poke_4 rfl (lv_at hl 1 rfl) ?_
  refine lv_sipush (pc := 5) (v := 1023) hx hb d_C_poke_5 (by decide) ?_
  refine lv_iand (pc := 8) hx hb d_C_poke_8 ?_
  refine Amem (pc := 9) (i := v1) X hC d_C_poke_9 ?_
  refine lv_topi (fun y1 ey1 => ?_)
  replace he := bS_go he ey1.symm
  refine lv_istore_n (pc := 10) (nL := 4) (lv' := [(3, .int y1), (0, .ref (g.chip)), (1, .int v1), (2, .int v2)]) hx hb d_C_poke_10 rfl hl (by decide) rfl (fun ls hl => ?_)
  refine lv_aload_n (pc := 11) hx hb d_C_poke_11 rfl (lv_at hl 1 rfl) ?_
  refine GC_memory (pc := 12) X hC d_C_poke_12 ?_
  refine lv_iload_n (pc := 15) hx hb d_C_poke_15 rfl (lv_at hl 2 rfl) ?_
  refine lv_sipush (pc := 16) (v := 1023) hx hb d_C_poke_16 (by decide) ?_
  refine lv_iand (pc := 19) hx hb d_C_poke_19 ?_
  refine lv_iload_n (pc := 20) hx hb d_C_poke_20 rfl (lv_at hl 3 rfl) ?_
  refine lv_sipush (pc := 21) (v := 255) hx hb d_C_poke_21 (by decide) ?_
  refine lv_iand (pc := 24) hx hb d_C_poke_24 ?_
  refine Bmem (pc := 25) (i := v1) X hC d_C_poke_25 (fun st2 H locs est2 hC => ?_)
  replace he := bS_go he est2
  refine lv_iload_n (pc := 26) hx hb d_C_poke_26 rfl (lv_at hl 0 rfl) ?_
  exact RET (pc := 27) d_C_poke_27 hC he
def f_C_peek (st : CS) (v1 : Int32) : Int32 × CS := ((rM st v1), st)
abbrev rm_C_peek : Room := { frames := 0, cells := 0, slots := 0, locals := 0 }
set_option maxHeartbeats 4000000 in
set_option maxRecDepth 100000 in
theorem k_C_peek (l : Launch) (g : CG) (rt : MS) (o : Nat → Int64) (st : CS) (v1 : Int32) : KI l g y_C_peek (Cond.code y_C_peek c_C_peek 2 (some .int) :: ALL) rm_C_peek [.ref (g.chip), .int v1] (wC g rt o) st (f_C_peek st v1) := by
  refine KI.ofW (by decide) (Nat.le_of_ble_eq_true rfl) ?_
  intro p e s m args below meth c A Q ls Rv X he RET hC hl
  obtain ⟨hx, hb⟩ := FX_xb X
  have hl : lv_has ls 2 [(0, .ref (g.chip)), (1, .int v1)] := hl
  unfold f_C_peek at he
  refine lv_aload_n (pc := 0) hx hb d_C_peek_0 rfl (lv_at hl 0 rfl) ?_
  refine GC_memory (pc := 1) X hC d_C_peek_1 ?_
  refine lv_iload_n (pc := 4) hx hb d_C_peek_4 rfl (lv_at hl 1 rfl) ?_
  refine lv_sipush (pc := 5) (v := 1023) hx hb d_C_peek_5 (by decide) ?_
  refine lv_iand (pc := 8) hx hb d_C_peek_8 ?_
  refine Amem (pc := 9) (i := v1) X hC d_C_peek_9 ?_
  exact RET (pc := 10) d_C_peek_10 hC he
def f_C_addressOfStep_119 (st : CS) (s0 : Int32) : Int32 × CS := (s0, st)
def f_C_addressOfStep (st : CS)  : Int32 × CS := if (plS (st.2.1)) = 1 then (f_C_addressOfStep_119 st (st.1 11)) else (if (plS (st.2.1)) = 2 then (f_C_addressOfStep_119 st (256 + (st.1 3))) else (if (plS (st.2.1)) = 3 then (f_C_addressOfStep_119 st (256 + (((st.1 3) + 1) &&& 255))) else (if (plS (st.2.1)) = 4 then (if (st.1 6) = 0 then (f_C_addressOfStep_119 st 65534) else (f_C_addressOfStep_119 st 65530)) else (if (plS (st.2.1)) = 5 then (f_C_addressOfStep_119 st 65532) else (if (plS (st.2.1)) = 6 then (f_C_addressOfStep_119 st 65535) else (f_C_addressOfStep_119 st (st.1 4)))))))
abbrev rm_C_addressOfStep : Room := { frames := 0, cells := 0, slots := 0, locals := 0 }
set_option maxHeartbeats 4000000 in
set_option maxRecDepth 100000 in
theorem k_C_addressOfStep (l : Launch) (g : CG) (rt : MS) (o : Nat → Int64) (st : CS)  : KI l g y_C_addressOfStep (Cond.code y_C_addressOfStep c_C_addressOfStep 1 (some .int) :: ALL) rm_C_addressOfStep [.ref (g.chip)] (wC g rt o) st (f_C_addressOfStep st ) := by
  refine KI.ofW (by decide) (Nat.le_of_ble_eq_true rfl) ?_
  intro p e s m args below meth c A Q ls Rv X he RET hC hl
  obtain ⟨hx, hb⟩ := FX_xb X
  have hl : lv_has ls 1 [(0, .ref (g.chip))] := hl
  have B119 : ∀ (H : Heap) (locs : List Loc) (ls : Array Slot) (st : CS) (s0 : Int32), HC g A s (wC g rt o st) H locs → lv_has ls 1 [] → f_C_addressOfStep_119 st s0 = Rv → W p l e rm_C_addressOfStep s m args below meth c H locs 0 0 Q (F0 m 119 ls [.int s0]) := by
    intro H locs ls st s0  hC hl he
    unfold f_C_addressOfStep_119 at he
    exact RET (pc := 119) d_C_addressOfStep_119 hC he
  unfold f_C_addressOfStep at he
  refine lv_aload_n (pc := 0) hx hb d_C_addressOfStep_0 rfl (lv_at hl 0 rfl) ?_
  refine GC_step (pc := 1) X hC d_C_addressOfStep_1 ?_
  refine GC_stp_place (pc := 4) (k := st.2.1) X hC d_C_addressOfStep_4 ?_
  by_cases h1 : (plS (st.2.1)) = 1
  · replace he := if_go he h1
    refine lv_tableIn (pc := 7) (tgt := 44) hx hb d_C_addressOfStep_7 (by rw [h1]; decide) (by rw [h1]; decide) (by rw [h1]; rfl) (by decide) ?_
    refine lv_aload_n (pc := 44) hx hb d_C_addressOfStep_44 rfl (lv_at hl 0 rfl) ?_
    refine GC_aim (pc := 45) X hC d_C_addressOfStep_45 ?_
    refine lv_goto (pc := 48) (tgt := 119) hx hb d_C_addressOfStep_48 (by decide) ?_
    exact B119 _ _ _ st (st.1 11)  hC (lv_sub hl [] rfl) he
  replace he := if_no he h1
  by_cases h2 : (plS (st.2.1)) = 2
  · replace he := if_go he h2
    refine lv_tableIn (pc := 7) (tgt := 51) hx hb d_C_addressOfStep_7 (by rw [h2]; decide) (by rw [h2]; decide) (by rw [h2]; rfl) (by decide) ?_
    refine lv_sipush (pc := 51) (v := 256) hx hb d_C_addressOfStep_51 (by decide) ?_
    refine lv_aload_n (pc := 54) hx hb d_C_addressOfStep_54 rfl (lv_at hl 0 rfl) ?_
    refine GC_registers (pc := 55) X hC d_C_addressOfStep_55 ?_
    refine GCR_s (pc := 58) X hC d_C_addressOfStep_58 ?_
    refine lv_iadd (pc := 61) hx hb d_C_addressOfStep_61 ?_
    refine lv_goto (pc := 62) (tgt := 119) hx hb d_C_addressOfStep_62 (by decide) ?_
    exact B119 _ _ _ st (256 + (st.1 3))  hC (lv_sub hl [] rfl) he
  replace he := if_no he h2
  by_cases h3 : (plS (st.2.1)) = 3
  · replace he := if_go he h3
    refine lv_tableIn (pc := 7) (tgt := 65) hx hb d_C_addressOfStep_7 (by rw [h3]; decide) (by rw [h3]; decide) (by rw [h3]; rfl) (by decide) ?_
    refine lv_sipush (pc := 65) (v := 256) hx hb d_C_addressOfStep_65 (by decide) ?_
    refine lv_aload_n (pc := 68) hx hb d_C_addressOfStep_68 rfl (lv_at hl 0 rfl) ?_
    refine GC_registers (pc := 69) X hC d_C_addressOfStep_69 ?_
    refine GCR_s (pc := 72) X hC d_C_addressOfStep_72 ?_
    refine lv_iconst (pc := 75) (v := 1) hx hb d_C_addressOfStep_75 (by decide) ?_
    refine lv_iadd (pc := 76) hx hb d_C_addressOfStep_76 ?_
    refine lv_sipush (pc := 77) (v := 255) hx hb d_C_addressOfStep_77 (by decide) ?_
    refine lv_iand (pc := 80) hx hb d_C_addressOfStep_80 ?_
    refine lv_iadd (pc := 81) hx hb d_C_addressOfStep_81 ?_
    refine lv_goto (pc := 82) (tgt := 119) hx hb d_C_addressOfStep_82 (by decide) ?_
    exact B119 _ _ _ st (256 + (((st.1 3) + 1) &&& 255))  hC (lv_sub hl [] rfl) he
  replace he := if_no he h3
  by_cases h4 : (plS (st.2.1)) = 4
  · replace he := if_go he h4
    refine lv_tableIn (pc := 7) (tgt := 85) hx hb d_C_addressOfStep_7 (by rw [h4]; decide) (by rw [h4]; decide) (by rw [h4]; rfl) (by decide) ?_
    refine lv_aload_n (pc := 85) hx hb d_C_addressOfStep_85 rfl (lv_at hl 0 rfl) ?_
    refine GC_nmiWanted (pc := 86) X hC d_C_addressOfStep_86 ?_
    refine lv_if_eq (pc := 89) (tgt := 97) hx hb d_C_addressOfStep_89 (by decide) (fun h5 => ?_) (fun h5 => ?_)
    · replace he := if_go he h5
      refine LC_131 (pc := 97) X d_C_addressOfStep_97 ?_
      refine lv_goto (pc := 99) (tgt := 119) hx hb d_C_addressOfStep_99 (by decide) ?_
      exact B119 _ _ _ st 65534  hC (lv_sub hl [] rfl) he
    replace he := if_no he h5
    refine LC_130 (pc := 92) X d_C_addressOfStep_92 ?_
    refine lv_goto (pc := 94) (tgt := 119) hx hb d_C_addressOfStep_94 (by decide) ?_
    exact B119 _ _ _ st 65530  hC (lv_sub hl [] rfl) he
  replace he := if_no he h4
  by_cases h6 : (plS (st.2.1)) = 5
  · replace he := if_go he h6
    refine lv_tableIn (pc := 7) (tgt := 102) hx hb d_C_addressOfStep_7 (by rw [h6]; decide) (by rw [h6]; decide) (by rw [h6]; rfl) (by decide) ?_
    refine LC_132 (pc := 102) X d_C_addressOfStep_102 ?_
    refine lv_goto (pc := 104) (tgt := 119) hx hb d_C_addressOfStep_104 (by decide) ?_
    exact B119 _ _ _ st 65532  hC (lv_sub hl [] rfl) he
  replace he := if_no he h6
  by_cases h7 : (plS (st.2.1)) = 6
  · replace he := if_go he h7
    refine lv_tableIn (pc := 7) (tgt := 107) hx hb d_C_addressOfStep_7 (by rw [h7]; decide) (by rw [h7]; decide) (by rw [h7]; rfl) (by decide) ?_
    refine LC_101 (pc := 107) X d_C_addressOfStep_107 ?_
    refine lv_goto (pc := 109) (tgt := 119) hx hb d_C_addressOfStep_109 (by decide) ?_
    exact B119 _ _ _ st 65535  hC (lv_sub hl [] rfl) he
  replace he := if_no he h7
  refine lv_tableOut (pc := 7) (tgt := 112) hx hb d_C_addressOfStep_7 (by have nh1 := lv_neT (a := 1) h1 (by decide); have nh2 := lv_neT (a := 2) h2 (by decide); have nh3 := lv_neT (a := 3) h3 (by decide); have nh4 := lv_neT (a := 4) h4 (by decide); have nh6 := lv_neT (a := 5) h6 (by decide); have nh7 := lv_neT (a := 6) h7 (by decide); omega) (by decide) ?_
  refine lv_aload_n (pc := 112) hx hb d_C_addressOfStep_112 rfl (lv_at hl 0 rfl) ?_
  refine GC_registers (pc := 113) X hC d_C_addressOfStep_113 ?_
  refine GCR_pc (pc := 116) X hC d_C_addressOfStep_116 ?_
  exact B119 _ _ _ st (st.1 4)  hC (lv_sub hl [] rfl) he
def f_C_byteToWrite_177 (st : CS) (s0 : Int32) : Int32 × CS := (s0, st)
def f_C_byteToWrite (st : CS)  : Int32 × CS := if (swS (st.2.1)) = 1 then (f_C_byteToWrite_177 st (st.1 0)) else (if (swS (st.2.1)) = 2 then (f_C_byteToWrite_177 st (st.1 13)) else (if (swS (st.2.1)) = 3 then (bP (f_R_changed st (st.1 7) (st.1 13)) (fun r5 st4 => f_C_byteToWrite_177 st4 r5)) else (if (swS (st.2.1)) = 4 then (if (st.1 7) = 16 then (f_C_byteToWrite_177 st (st.1 0)) else (bP (f_R_p st ) (fun r9 st8 => f_C_byteToWrite_177 st8 r9))) else (if (swS (st.2.1)) = 5 then (f_C_byteToWrite_177 st ((st.1 4) >>> ((8 : Int32) &&& 31))) else (if (swS (st.2.1)) = 6 then (f_C_byteToWrite_177 st ((st.1 4) &&& 255)) else (if (swS (st.2.1)) = 7 then (if st.2.2.1 = (11 : Fin 16) then (bP (f_R_p st ) (fun r17 st16 => f_C_byteToWrite_177 st16 (r17 + 16))) else (bP (f_R_p st ) (fun r15 st14 => f_C_byteToWrite_177 st14 r15))) else (f_C_byteToWrite_177 st 0)))))))
abbrev rm_C_byteToWrite : Room := { frames := 1, cells := 0, slots := 0, locals := 22 }
set_option maxHeartbeats 4000000 in
set_option maxRecDepth 100000 in
theorem k_C_byteToWrite (l : Launch) (g : CG) (rt : MS) (o : Nat → Int64) (st : CS)  : KI l g y_C_byteToWrite (Cond.code y_C_byteToWrite c_C_byteToWrite 1 (some .int) :: ALL) rm_C_byteToWrite [.ref (g.chip)] (wC g rt o) st (f_C_byteToWrite st ) := by
  refine KI.ofW (by decide) (Nat.le_of_ble_eq_true rfl) ?_
  intro p e s m args below meth c A Q ls Rv X he RET hC hl
  obtain ⟨hx, hb⟩ := FX_xb X
  have hl : lv_has ls 1 [(0, .ref (g.chip))] := hl
  have B177 : ∀ (H : Heap) (locs : List Loc) (ls : Array Slot) (st : CS) (s0 : Int32), HC g A s (wC g rt o st) H locs → lv_has ls 1 [] → f_C_byteToWrite_177 st s0 = Rv → W p l e rm_C_byteToWrite s m args below meth c H locs 0 0 Q (F0 m 177 ls [.int s0]) := by
    intro H locs ls st s0  hC hl he
    unfold f_C_byteToWrite_177 at he
    exact RET (pc := 177) d_C_byteToWrite_177 hC he
  unfold f_C_byteToWrite at he
  refine SC_mapS (pc := 0) X hC d_C_byteToWrite_0 ?_
  refine lv_aload_n (pc := 3) hx hb d_C_byteToWrite_3 rfl (lv_at hl 0 rfl) ?_
  refine GC_step (pc := 4) X hC d_C_byteToWrite_4 ?_
  refine OC_stp (pc := 7) (k := st.2.1) (rest := [.ref (g.mapS)]) X hC hl.1 (Nat.le_of_ble_eq_true rfl) ⟨by decide, by decide⟩ ⟨Nat.zero_le _, Nat.zero_le _⟩ d_C_byteToWrite_7 ?_
  refine AmapS (pc := 10) (k := st.2.1) X hC d_C_byteToWrite_10 ?_
  by_cases h1 : (swS (st.2.1)) = 1
  · replace he := if_go he h1
    refine lv_tableIn (pc := 11) (tgt := 52) hx hb d_C_byteToWrite_11 (by rw [h1]; decide) (by rw [h1]; decide) (by rw [h1]; rfl) (by decide) ?_
    refine lv_aload_n (pc := 52) hx hb d_C_byteToWrite_52 rfl (lv_at hl 0 rfl) ?_
    refine GC_registers (pc := 53) X hC d_C_byteToWrite_53 ?_
    refine GCR_a (pc := 56) X hC d_C_byteToWrite_56 ?_
    refine lv_goto (pc := 59) (tgt := 177) hx hb d_C_byteToWrite_59 (by decide) ?_
    exact B177 _ _ _ st (st.1 0)  hC (lv_sub hl [] rfl) he
  replace he := if_no he h1
  by_cases h2 : (swS (st.2.1)) = 2
  · replace he := if_go he h2
    refine lv_tableIn (pc := 11) (tgt := 62) hx hb d_C_byteToWrite_11 (by rw [h2]; decide) (by rw [h2]; decide) (by rw [h2]; rfl) (by decide) ?_
    refine lv_aload_n (pc := 62) hx hb d_C_byteToWrite_62 rfl (lv_at hl 0 rfl) ?_
    refine GC_held (pc := 63) X hC d_C_byteToWrite_63 ?_
    refine lv_goto (pc := 66) (tgt := 177) hx hb d_C_byteToWrite_66 (by decide) ?_
    exact B177 _ _ _ st (st.1 13)  hC (lv_sub hl [] rfl) he
  replace he := if_no he h2
  by_cases h3 : (swS (st.2.1)) = 3
  · replace he := if_go he h3
    refine lv_tableIn (pc := 11) (tgt := 69) hx hb d_C_byteToWrite_11 (by rw [h3]; decide) (by rw [h3]; decide) (by rw [h3]; rfl) (by decide) ?_
    refine lv_aload_n (pc := 69) hx hb d_C_byteToWrite_69 rfl (lv_at hl 0 rfl) ?_
    refine GC_registers (pc := 70) X hC d_C_byteToWrite_70 ?_
    refine lv_aload_n (pc := 73) hx hb d_C_byteToWrite_73 rfl (lv_at hl 0 rfl) ?_
    refine GC_operation (pc := 74) X hC d_C_byteToWrite_74 ?_
    refine lv_aload_n (pc := 77) hx hb d_C_byteToWrite_77 rfl (lv_at hl 0 rfl) ?_
    refine GC_held (pc := 78) X hC d_C_byteToWrite_78 ?_
    refine callIN (q0 := 3) (pc := 81) (As := [.int (st.1 7), .int (st.1 13)]) (rest := []) X (k_R_changed l g rt o st (st.1 7) (st.1 13)) hC (NC_R_changed_147 X rfl rfl ⟨by decide, by decide⟩) rfl rfl rfl hl.1 (Nat.le_of_ble_eq_true rfl) rfl d_C_byteToWrite_81 ⟨Nat.zero_le _, Nat.zero_le _⟩ (fun r5 st4 H locs est4 hC => ?_)
    replace he := bP_go he est4
    refine lv_goto (pc := 84) (tgt := 177) hx hb d_C_byteToWrite_84 (by decide) ?_
    exact B177 _ _ _ st4 r5  hC (lv_sub hl [] rfl) he
  replace he := if_no he h3
  by_cases h6 : (swS (st.2.1)) = 4
  · replace he := if_go he h6
    refine lv_tableIn (pc := 11) (tgt := 87) hx hb d_C_byteToWrite_11 (by rw [h6]; decide) (by rw [h6]; decide) (by rw [h6]; rfl) (by decide) ?_
    refine lv_aload_n (pc := 87) hx hb d_C_byteToWrite_87 rfl (lv_at hl 0 rfl) ?_
    refine GC_operation (pc := 88) X hC d_C_byteToWrite_88 ?_
    refine lv_bipush (pc := 91) (v := 16) hx hb d_C_byteToWrite_91 (by decide) ?_
    refine lv_icmp_ne (pc := 93) (tgt := 106) hx hb d_C_byteToWrite_93 (by decide) (fun h7 => ?_) (fun h7 => ?_)
    · replace he := if_no he h7
      refine lv_aload_n (pc := 106) hx hb d_C_byteToWrite_106 rfl (lv_at hl 0 rfl) ?_
      refine GC_registers (pc := 107) X hC d_C_byteToWrite_107 ?_
      refine callIN (q0 := 3) (pc := 110) (As := []) (rest := []) X (k_R_p l g rt o st ) hC (NC_R_p_89 X rfl rfl ⟨by decide, by decide⟩) rfl rfl rfl hl.1 (Nat.le_of_ble_eq_true rfl) rfl d_C_byteToWrite_110 ⟨Nat.zero_le _, Nat.zero_le _⟩ (fun r9 st8 H locs est8 hC => ?_)
      replace he := bP_go he est8
      refine lv_goto (pc := 113) (tgt := 177) hx hb d_C_byteToWrite_113 (by decide) ?_
      exact B177 _ _ _ st8 r9  hC (lv_sub hl [] rfl) he
    replace he := if_go he h7
    refine lv_aload_n (pc := 96) hx hb d_C_byteToWrite_96 rfl (lv_at hl 0 rfl) ?_
    refine GC_registers (pc := 97) X hC d_C_byteToWrite_97 ?_
    refine GCR_a (pc := 100) X hC d_C_byteToWrite_100 ?_
    refine lv_goto (pc := 103) (tgt := 177) hx hb d_C_byteToWrite_103 (by decide) ?_
    exact B177 _ _ _ st (st.1 0)  hC (lv_sub hl [] rfl) he
  replace he := if_no he h6
  by_cases h10 : (swS (st.2.1)) = 5
  · replace he := if_go he h10
    refine lv_tableIn (pc := 11) (tgt := 116) hx hb d_C_byteToWrite_11 (by rw [h10]; decide) (by rw [h10]; decide) (by rw [h10]; rfl) (by decide) ?_
    refine lv_aload_n (pc := 116) hx hb d_C_byteToWrite_116 rfl (lv_at hl 0 rfl) ?_
    refine GC_registers (pc := 117) X hC d_C_byteToWrite_117 ?_
    refine GCR_pc (pc := 120) X hC d_C_byteToWrite_120 ?_
    refine lv_bipush (pc := 123) (v := 8) hx hb d_C_byteToWrite_123 (by decide) ?_
    refine lv_ishr (pc := 125) hx hb d_C_byteToWrite_125 ?_
    refine lv_goto (pc := 126) (tgt := 177) hx hb d_C_byteToWrite_126 (by decide) ?_
    exact B177 _ _ _ st ((st.1 4) >>> ((8 : Int32) &&& 31))  hC (lv_sub hl [] rfl) he
  replace he := if_no he h10
  by_cases h11 : (swS (st.2.1)) = 6
  · replace he := if_go he h11
    refine lv_tableIn (pc := 11) (tgt := 129) hx hb d_C_byteToWrite_11 (by rw [h11]; decide) (by rw [h11]; decide) (by rw [h11]; rfl) (by decide) ?_
    refine lv_aload_n (pc := 129) hx hb d_C_byteToWrite_129 rfl (lv_at hl 0 rfl) ?_
    refine GC_registers (pc := 130) X hC d_C_byteToWrite_130 ?_
    refine GCR_pc (pc := 133) X hC d_C_byteToWrite_133 ?_
    refine lv_sipush (pc := 136) (v := 255) hx hb d_C_byteToWrite_136 (by decide) ?_
    refine lv_iand (pc := 139) hx hb d_C_byteToWrite_139 ?_
    refine lv_goto (pc := 140) (tgt := 177) hx hb d_C_byteToWrite_140 (by decide) ?_
    exact B177 _ _ _ st ((st.1 4) &&& 255)  hC (lv_sub hl [] rfl) he
  replace he := if_no he h11
  by_cases h12 : (swS (st.2.1)) = 7
  · replace he := if_go he h12
    refine lv_tableIn (pc := 11) (tgt := 143) hx hb d_C_byteToWrite_11 (by rw [h12]; decide) (by rw [h12]; decide) (by rw [h12]; rfl) (by decide) ?_
    refine lv_aload_n (pc := 143) hx hb d_C_byteToWrite_143 rfl (lv_at hl 0 rfl) ?_
    refine GC_kind (pc := 144) X hC d_C_byteToWrite_144 ?_
    refine SC_knd_BREAK (pc := 147) X hC d_C_byteToWrite_147 ?_
    refine acK_ne (pc := 150) (tgt := 166) (i := st.2.2.1) (j := (11 : Fin 16)) X d_C_byteToWrite_150 (by decide) (fun h13 => ?_) (fun h13 => ?_)
    · replace he := if_no he h13
      refine lv_aload_n (pc := 166) hx hb d_C_byteToWrite_166 rfl (lv_at hl 0 rfl) ?_
      refine GC_registers (pc := 167) X hC d_C_byteToWrite_167 ?_
      refine callIN (q0 := 3) (pc := 170) (As := []) (rest := []) X (k_R_p l g rt o st ) hC (NC_R_p_89 X rfl rfl ⟨by decide, by decide⟩) rfl rfl rfl hl.1 (Nat.le_of_ble_eq_true rfl) rfl d_C_byteToWrite_170 ⟨Nat.zero_le _, Nat.zero_le _⟩ (fun r15 st14 H locs est14 hC => ?_)
      replace he := bP_go he est14
      refine lv_goto (pc := 173) (tgt := 177) hx hb d_C_byteToWrite_173 (by decide) ?_
      exact B177 _ _ _ st14 r15  hC (lv_sub hl [] rfl) he
    replace he := if_go he h13
    refine lv_aload_n (pc := 153) hx hb d_C_byteToWrite_153 rfl (lv_at hl 0 rfl) ?_
    refine GC_registers (pc := 154) X hC d_C_byteToWrite_154 ?_
    refine callIN (q0 := 3) (pc := 157) (As := []) (rest := []) X (k_R_p l g rt o st ) hC (NC_R_p_89 X rfl rfl ⟨by decide, by decide⟩) rfl rfl rfl hl.1 (Nat.le_of_ble_eq_true rfl) rfl d_C_byteToWrite_157 ⟨Nat.zero_le _, Nat.zero_le _⟩ (fun r17 st16 H locs est16 hC => ?_)
    replace he := bP_go he est16
    refine lv_bipush (pc := 160) (v := 16) hx hb d_C_byteToWrite_160 (by decide) ?_
    refine lv_iadd (pc := 162) hx hb d_C_byteToWrite_162 ?_
    refine lv_goto (pc := 163) (tgt := 177) hx hb d_C_byteToWrite_163 (by decide) ?_
    exact B177 _ _ _ st16 (r17 + 16)  hC (lv_sub hl [] rfl) he
  replace he := if_no he h12
  refine lv_tableOut (pc := 11) (tgt := 176) hx hb d_C_byteToWrite_11 (by have nh1 := lv_neT (a := 1) h1 (by decide); have nh2 := lv_neT (a := 2) h2 (by decide); have nh3 := lv_neT (a := 3) h3 (by decide); have nh6 := lv_neT (a := 4) h6 (by decide); have nh10 := lv_neT (a := 5) h10 (by decide); have nh11 := lv_neT (a := 6) h11 (by decide); have nh12 := lv_neT (a := 7) h12 (by decide); omega) (by decide) ?_
  refine lv_iconst (pc := 176) (v := 0) hx hb d_C_byteToWrite_176 (by decide) ?_
  exact B177 _ _ _ st 0  hC (lv_sub hl [] rfl) he
def f_C_begin (st : CS) (v1 : Fin 16) (v2 : Fin 35) : CS := bS (sK st v1) (fun st1 => bS (sS st1 v2) (fun st2 => bS (sV st2 9 0) (fun st3 => st3)))
abbrev rm_C_begin : Room := { frames := 0, cells := 0, slots := 0, locals := 0 }
set_option maxHeartbeats 4000000 in
set_option maxRecDepth 100000 in
theorem k_C_begin (l : Launch) (g : CG) (rt : MS) (o : Nat → Int64) (st : CS) (v1 : Fin 16) (v2 : Fin 35) : KV l g y_C_begin (Cond.code y_C_begin c_C_begin 3 none :: ALL) rm_C_begin [.ref (g.chip), .ref (g.adK (v1).val), .ref (g.adS (v2).val)] (wC g rt o) st (f_C_begin st v1 v2) := by
  refine KV.ofW (by decide) (Nat.le_of_ble_eq_true rfl) ?_
  intro p e s m args below meth c A Q ls Rv X he RET hC hl
  obtain ⟨hx, hb⟩ := FX_xb X
  have hl : lv_has ls 3 [(0, .ref (g.chip)), (1, .ref (g.adK (v1).val)), (2, .ref (g.adS (v2).val))] := hl
  unfold f_C_begin at he
  refine lv_aload_n (pc := 0) hx hb d_C_begin_0 rfl (lv_at hl 0 rfl) ?_
  refine lv_aload_n (pc := 1) hx hb d_C_begin_1 rfl (lv_at hl 1 rfl) ?_
  refine PC_kind (pc := 2) X hC d_C_begin_2 (fun st1 H locs est1 hC => ?_)
  replace he := bS_go he est1
  refine lv_aload_n (pc := 5) hx hb d_C_begin_5 rfl (lv_at hl 0 rfl) ?_
  refine lv_aload_n (pc := 6) hx hb d_C_begin_6 rfl (lv_at hl 2 rfl) ?_
  refine PC_step (pc := 7) X hC d_C_begin_7 (fun st2 H locs est2 hC => ?_)
  replace he := bS_go he est2
  refine lv_aload_n (pc := 10) hx hb d_C_begin_10 rfl (lv_at hl 0 rfl) ?_
  refine lv_iconst (pc := 11) (v := 0) hx hb d_C_begin_11 (by decide) ?_
  refine PC_done (pc := 12) X hC d_C_begin_12 (fun st3 H locs est3 hC => ?_)
  replace he := bS_go he est3
  exact RET (pc := 15) d_C_begin_15 hC he
def f_C_end_70 (st : CS)  : CS := st
def f_C_end_47 (st : CS)  : CS := bS (f_C_begin st (13 : Fin 16) (28 : Fin 35)) (fun st9 => f_C_end_70 st9 )
def f_C_end_35 (st : CS) (s0 : Int32) : CS := if (st.1 6) = 0 then (if s0 = 0 then (bS (f_C_begin st (15 : Fin 16) (0 : Fin 35)) (fun st8 => f_C_end_70 st8 )) else (f_C_end_47 st )) else (f_C_end_47 st )
def f_C_end_34 (st : CS)  : CS := f_C_end_35 st 0
def f_C_end (st : CS)  : CS := bS (sV st 10 ((st.1 10) + 1)) (fun st1 => if (rP st1 1) = 0 then (f_C_end_34 st1 ) else (bP (f_R_has st1 4) (fun r4 st3 => if r4 = 0 then (f_C_end_35 st3 1) else (f_C_end_34 st3 ))))
abbrev rm_C_end : Room := { frames := 1, cells := 0, slots := 0, locals := 22 }
set_option maxHeartbeats 4000000 in
set_option maxRecDepth 100000 in
theorem k_C_end (l : Launch) (g : CG) (rt : MS) (o : Nat → Int64) (st : CS)  : KV l g y_C_end (Cond.code y_C_end c_C_end 2 none :: ALL) rm_C_end [.ref (g.chip)] (wC g rt o) st (f_C_end st ) := by
  refine KV.ofW (by decide) (Nat.le_of_ble_eq_true rfl) ?_
  intro p e s m args below meth c A Q ls Rv X he RET hC hl
  obtain ⟨hx, hb⟩ := FX_xb X
  have hl : lv_has ls 2 [(0, .ref (g.chip))] := hl
  have B70 : ∀ (H : Heap) (locs : List Loc) (ls : Array Slot) (st : CS) , HC g A s (wC g rt o st) H locs → lv_has ls 2 [] → f_C_end_70 st  = Rv → W p l e rm_C_end s m args below meth c H locs 0 0 Q (F0 m 70 ls []) := by
    intro H locs ls st   hC hl he
    unfold f_C_end_70 at he
    exact RET (pc := 70) d_C_end_70 hC he
  have B47 : ∀ (H : Heap) (locs : List Loc) (ls : Array Slot) (st : CS) , HC g A s (wC g rt o st) H locs → lv_has ls 2 [(0, .ref (g.chip))] → f_C_end_47 st  = Rv → W p l e rm_C_end s m args below meth c H locs 0 0 Q (F0 m 47 ls []) := by
    intro H locs ls st   hC hl he
    unfold f_C_end_47 at he
    refine lv_aload_n (pc := 47) hx hb d_C_end_47 rfl (lv_at hl 0 rfl) ?_
    refine SC_knd_INTERRUPT (pc := 48) X hC d_C_end_48 ?_
    refine SC_stp_INTERRUPT_IDLE (pc := 51) X hC d_C_end_51 ?_
    refine callVO (q0 := 0) (pc := 54) (As := [.ref (g.adK ((13 : Fin 16)).val), .ref (g.adS ((28 : Fin 35)).val)]) (rest := []) X (k_C_begin l g rt o st (13 : Fin 16) (28 : Fin 35)) hC (NC_C_begin_70 X rfl rfl ⟨by decide, by decide⟩) rfl rfl rfl hl.1 (Nat.le_of_ble_eq_true rfl) rfl d_C_end_54 ⟨Nat.zero_le _, Nat.zero_le _⟩ (fun st9 H locs est9 hC => ?_)
    replace he := bS_go he est9
    refine lv_goto (pc := 57) (tgt := 70) hx hb d_C_end_57 (by decide) ?_
    exact B70 _ _ _ st9   hC (lv_sub hl [] rfl) he
  have B35 : ∀ (H : Heap) (locs : List Loc) (ls : Array Slot) (st : CS) (s0 : Int32) (hs0 : s0 = 0 ∨ s0 = 1), HC g A s (wC g rt o st) H locs → lv_has ls 2 [(0, .ref (g.chip))] → f_C_end_35 st s0 = Rv → W p l e rm_C_end s m args below meth c H locs 0 0 Q (F0 m 35 ls [.int s0]) := by
    intro H locs ls st s0 hs0 hC hl he
    unfold f_C_end_35 at he
    refine lv_istore_n (pc := 35) (nL := 2) (lv' := [(1, .int s0), (0, .ref (g.chip))]) hx hb d_C_end_35 rfl hl (by decide) rfl (fun ls hl => ?_)
    refine lv_aload_n (pc := 36) hx hb d_C_end_36 rfl (lv_at hl 1 rfl) ?_
    refine GC_nmiWanted (pc := 37) X hC d_C_end_37 ?_
    refine lv_if_ne (pc := 40) (tgt := 47) hx hb d_C_end_40 (by decide) (fun h6 => ?_) (fun h6 => ?_)
    · replace he := if_no he h6
      exact B47 _ _ _ st   hC (lv_sub hl [1] rfl) he
    replace he := if_go he h6
    refine lv_iload_n (pc := 43) hx hb d_C_end_43 rfl (lv_at hl 0 rfl) ?_
    refine lv_if_eq (pc := 44) (tgt := 60) hx hb d_C_end_44 (by decide) (fun h7 => ?_) (fun h7 => ?_)
    · replace he := if_go he h7
      refine lv_aload_n (pc := 60) hx hb d_C_end_60 rfl (lv_at hl 1 rfl) ?_
      refine SC_knd_NOT_READ_YET (pc := 61) X hC d_C_end_61 ?_
      refine SC_stp_FETCH (pc := 64) X hC d_C_end_64 ?_
      refine callVO (q0 := 0) (pc := 67) (As := [.ref (g.adK ((15 : Fin 16)).val), .ref (g.adS ((0 : Fin 35)).val)]) (rest := []) X (k_C_begin l g rt o st (15 : Fin 16) (0 : Fin 35)) hC (NC_C_begin_70 X rfl rfl ⟨by decide, by decide⟩) rfl rfl rfl hl.1 (Nat.le_of_ble_eq_true rfl) rfl d_C_end_67 ⟨Nat.zero_le _, Nat.zero_le _⟩ (fun st8 H locs est8 hC => ?_)
      replace he := bS_go he est8
      exact B70 _ _ _ st8   hC (lv_sub hl [] rfl) he
    replace he := if_no he h7
    exact B47 _ _ _ st   hC (lv_sub hl [1] rfl) he
  have B34 : ∀ (H : Heap) (locs : List Loc) (ls : Array Slot) (st : CS) , HC g A s (wC g rt o st) H locs → lv_has ls 2 [(0, .ref (g.chip))] → f_C_end_34 st  = Rv → W p l e rm_C_end s m args below meth c H locs 0 0 Q (F0 m 34 ls []) := by
    intro H locs ls st   hC hl he
    unfold f_C_end_34 at he
    refine lv_iconst (pc := 34) (v := 0) hx hb d_C_end_34 (by decide) ?_
    exact B35 _ _ _ st 0 b0 hC (lv_sub hl [0] rfl) he
  unfold f_C_end at he
  refine lv_aload_n (pc := 0) hx hb d_C_end_0 rfl (lv_at hl 0 rfl) ?_
  refine lv_dup (pc := 1) hx hb d_C_end_1 rfl ?_
  refine GC_ended (pc := 2) X hC d_C_end_2 ?_
  refine lv_iconst (pc := 5) (v := 1) hx hb d_C_end_5 (by decide) ?_
  refine lv_iadd (pc := 6) hx hb d_C_end_6 ?_
  refine PC_ended (pc := 7) X hC d_C_end_7 (fun st1 H locs est1 hC => ?_)
  replace he := bS_go he est1
  refine lv_aload_n (pc := 10) hx hb d_C_end_10 rfl (lv_at hl 0 rfl) ?_
  refine GC_pins (pc := 11) X hC d_C_end_11 ?_
  refine lv_iconst (pc := 14) (v := 1) hx hb d_C_end_14 (by decide) ?_
  refine Apins (pc := 15) (i := 1) X hC (by unfold vp_in; decide) d_C_end_15 ?_
  refine lv_if_eq (pc := 16) (tgt := 34) hx hb d_C_end_16 (by decide) (fun h2 => ?_) (fun h2 => ?_)
  · replace he := if_go he h2
    exact B34 _ _ _ st1   hC (lv_sub hl [0] rfl) he
  replace he := if_no he h2
  refine lv_aload_n (pc := 19) hx hb d_C_end_19 rfl (lv_at hl 0 rfl) ?_
  refine GC_registers (pc := 20) X hC d_C_end_20 ?_
  refine lv_iconst (pc := 23) (v := 4) hx hb d_C_end_23 (by decide) ?_
  refine callZN (q0 := 3) (pc := 24) (As := [.int 4]) (rest := []) X (k_R_has l g rt o st1 4) hC (NC_R_has_267 X rfl rfl ⟨by decide, by decide⟩) rfl rfl rfl hl.1 (Nat.le_of_ble_eq_true rfl) rfl d_C_end_24 ⟨Nat.zero_le _, Nat.zero_le _⟩ (fun r4 st3 H locs est3 br4 hC => ?_)
  replace he := bP_go he est3
  refine lv_if_ne (pc := 27) (tgt := 34) hx hb d_C_end_27 (by decide) (fun h5 => ?_) (fun h5 => ?_)
  · replace he := if_no he h5
    exact B34 _ _ _ st3   hC (lv_sub hl [0] rfl) he
  replace he := if_go he h5
  refine lv_iconst (pc := 30) (v := 1) hx hb d_C_end_30 (by decide) ?_
  refine lv_goto (pc := 31) (tgt := 35) hx hb d_C_end_31 (by decide) ?_
  exact B35 _ _ _ st3 1 b1 hC (lv_sub hl [0] rfl) he
def f_C_afterWrite_178 (st : CS)  : CS := st
def f_C_afterWrite_141 (st : CS) (s0 : Fin 35) : CS := bS (sS st s0) (fun st20 => f_C_afterWrite_178 st20 )
def f_C_afterWrite (st : CS)  : CS := if (swS (st.2.1)) = 2 then (bS (sS st (13 : Fin 35)) (fun st2 => f_C_afterWrite_178 st2 )) else (if (swS (st.2.1)) = 3 then (bS (f_R_flagsOfChange st (st.1 7) (st.1 13)) (fun st4 => bS (f_C_end st4 ) (fun st5 => f_C_afterWrite_178 st5 ))) else (if (swS (st.2.1)) = 4 then (bS (f_R_moveStack st (-1)) (fun st7 => bS (f_C_end st7 ) (fun st8 => f_C_afterWrite_178 st8 ))) else (if (swS (st.2.1)) = 5 then (bS (f_R_moveStack st (-1)) (fun st10 => bS (sS st10 (22 : Fin 35)) (fun st11 => f_C_afterWrite_178 st11 ))) else (if (swS (st.2.1)) = 6 then (bS (f_R_moveStack st (-1)) (fun st13 => if st13.2.2.1 = (5 : Fin 16) then (f_C_afterWrite_141 st13 (7 : Fin 35)) else (f_C_afterWrite_141 st13 (23 : Fin 35)))) else (if (swS (st.2.1)) = 7 then (bS (f_R_moveStack st (-1)) (fun st16 => bS (f_R_put st16 4 1) (fun st17 => bS (sS st17 (29 : Fin 35)) (fun st18 => f_C_afterWrite_178 st18 )))) else (bS (f_C_end st ) (fun st19 => f_C_afterWrite_178 st19 )))))))
abbrev rm_C_afterWrite : Room := { frames := 2, cells := 0, slots := 0, locals := 44 }
set_option maxHeartbeats 4000000 in
set_option maxRecDepth 100000 in
theorem k_C_afterWrite (l : Launch) (g : CG) (rt : MS) (o : Nat → Int64) (st : CS)  : KV l g y_C_afterWrite (Cond.code y_C_afterWrite c_C_afterWrite 1 none :: ALL) rm_C_afterWrite [.ref (g.chip)] (wC g rt o) st (f_C_afterWrite st ) := by
  refine KV.ofW (by decide) (Nat.le_of_ble_eq_true rfl) ?_
  intro p e s m args below meth c A Q ls Rv X he RET hC hl
  obtain ⟨hx, hb⟩ := FX_xb X
  have hl : lv_has ls 1 [(0, .ref (g.chip))] := hl
  have B178 : ∀ (H : Heap) (locs : List Loc) (ls : Array Slot) (st : CS) , HC g A s (wC g rt o st) H locs → lv_has ls 1 [] → f_C_afterWrite_178 st  = Rv → W p l e rm_C_afterWrite s m args below meth c H locs 0 0 Q (F0 m 178 ls []) := by
    intro H locs ls st   hC hl he
    unfold f_C_afterWrite_178 at he
    exact RET (pc := 178) d_C_afterWrite_178 hC he
  have B141 : ∀ (H : Heap) (locs : List Loc) (ls : Array Slot) (st : CS) (s0 : Fin 35), HC g A s (wC g rt o st) H locs → lv_has ls 1 [] → f_C_afterWrite_141 st s0 = Rv → W p l e rm_C_afterWrite s m args below meth c H locs 0 0 Q (F0 m 141 ls [.ref (g.adS (s0).val), .ref (g.chip)]) := by
    intro H locs ls st s0  hC hl he
    unfold f_C_afterWrite_141 at he
    refine PC_step (pc := 141) X hC d_C_afterWrite_141 (fun st20 H locs est20 hC => ?_)
    replace he := bS_go he est20
    refine lv_goto (pc := 144) (tgt := 178) hx hb d_C_afterWrite_144 (by decide) ?_
    exact B178 _ _ _ st20   hC (lv_sub hl [] rfl) he
  unfold f_C_afterWrite at he
  refine SC_mapS (pc := 0) X hC d_C_afterWrite_0 ?_
  refine lv_aload_n (pc := 3) hx hb d_C_afterWrite_3 rfl (lv_at hl 0 rfl) ?_
  refine GC_step (pc := 4) X hC d_C_afterWrite_4 ?_
  refine OC_stp (pc := 7) (k := st.2.1) (rest := [.ref (g.mapS)]) X hC hl.1 (Nat.le_of_ble_eq_true rfl) ⟨by decide, by decide⟩ ⟨Nat.zero_le _, Nat.zero_le _⟩ d_C_afterWrite_7 ?_
  refine AmapS (pc := 10) (k := st.2.1) X hC d_C_afterWrite_10 ?_
  by_cases h1 : (swS (st.2.1)) = 2
  · replace he := if_go he h1
    refine lv_tableIn (pc := 11) (tgt := 48) hx hb d_C_afterWrite_11 (by rw [h1]; decide) (by rw [h1]; decide) (by rw [h1]; rfl) (by decide) ?_
    refine lv_aload_n (pc := 48) hx hb d_C_afterWrite_48 rfl (lv_at hl 0 rfl) ?_
    refine SC_stp_CHANGE_NEW (pc := 49) X hC d_C_afterWrite_49 ?_
    refine PC_step (pc := 52) X hC d_C_afterWrite_52 (fun st2 H locs est2 hC => ?_)
    replace he := bS_go he est2
    refine lv_goto (pc := 55) (tgt := 178) hx hb d_C_afterWrite_55 (by decide) ?_
    exact B178 _ _ _ st2   hC (lv_sub hl [] rfl) he
  replace he := if_no he h1
  by_cases h3 : (swS (st.2.1)) = 3
  · replace he := if_go he h3
    refine lv_tableIn (pc := 11) (tgt := 58) hx hb d_C_afterWrite_11 (by rw [h3]; decide) (by rw [h3]; decide) (by rw [h3]; rfl) (by decide) ?_
    refine lv_aload_n (pc := 58) hx hb d_C_afterWrite_58 rfl (lv_at hl 0 rfl) ?_
    refine GC_registers (pc := 59) X hC d_C_afterWrite_59 ?_
    refine lv_aload_n (pc := 62) hx hb d_C_afterWrite_62 rfl (lv_at hl 0 rfl) ?_
    refine GC_operation (pc := 63) X hC d_C_afterWrite_63 ?_
    refine lv_aload_n (pc := 66) hx hb d_C_afterWrite_66 rfl (lv_at hl 0 rfl) ?_
    refine GC_held (pc := 67) X hC d_C_afterWrite_67 ?_
    refine callVN (q0 := 3) (pc := 70) (As := [.int (st.1 7), .int (st.1 13)]) (rest := []) X (k_R_flagsOfChange l g rt o st (st.1 7) (st.1 13)) hC (NC_R_flagsOfChange_157 X rfl rfl ⟨by decide, by decide⟩) rfl rfl rfl hl.1 (Nat.le_of_ble_eq_true rfl) rfl d_C_afterWrite_70 ⟨Nat.zero_le _, Nat.zero_le _⟩ (fun st4 H locs est4 hC => ?_)
    replace he := bS_go he est4
    refine lv_aload_n (pc := 73) hx hb d_C_afterWrite_73 rfl (lv_at hl 0 rfl) ?_
    refine callVO (q0 := 0) (pc := 74) (As := []) (rest := []) X (k_C_end l g rt o st4 ) hC (NC_C_end_161 X rfl rfl ⟨by decide, by decide⟩) rfl rfl rfl hl.1 (Nat.le_of_ble_eq_true rfl) rfl d_C_afterWrite_74 ⟨Nat.zero_le _, Nat.zero_le _⟩ (fun st5 H locs est5 hC => ?_)
    replace he := bS_go he est5
    refine lv_goto (pc := 77) (tgt := 178) hx hb d_C_afterWrite_77 (by decide) ?_
    exact B178 _ _ _ st5   hC (lv_sub hl [] rfl) he
  replace he := if_no he h3
  by_cases h6 : (swS (st.2.1)) = 4
  · replace he := if_go he h6
    refine lv_tableIn (pc := 11) (tgt := 80) hx hb d_C_afterWrite_11 (by rw [h6]; decide) (by rw [h6]; decide) (by rw [h6]; rfl) (by decide) ?_
    refine lv_aload_n (pc := 80) hx hb d_C_afterWrite_80 rfl (lv_at hl 0 rfl) ?_
    refine GC_registers (pc := 81) X hC d_C_afterWrite_81 ?_
    refine lv_iconst (pc := 84) (v := (-1)) hx hb d_C_afterWrite_84 (by decide) ?_
    refine callVN (q0 := 3) (pc := 85) (As := [.int (-1)]) (rest := []) X (k_R_moveStack l g rt o st (-1)) hC (NC_R_moveStack_164 X rfl rfl ⟨by decide, by decide⟩) rfl rfl rfl hl.1 (Nat.le_of_ble_eq_true rfl) rfl d_C_afterWrite_85 ⟨Nat.zero_le _, Nat.zero_le _⟩ (fun st7 H locs est7 hC => ?_)
    replace he := bS_go he est7
    refine lv_aload_n (pc := 88) hx hb d_C_afterWrite_88 rfl (lv_at hl 0 rfl) ?_
    refine callVO (q0 := 0) (pc := 89) (As := []) (rest := []) X (k_C_end l g rt o st7 ) hC (NC_C_end_161 X rfl rfl ⟨by decide, by decide⟩) rfl rfl rfl hl.1 (Nat.le_of_ble_eq_true rfl) rfl d_C_afterWrite_89 ⟨Nat.zero_le _, Nat.zero_le _⟩ (fun st8 H locs est8 hC => ?_)
    replace he := bS_go he est8
    refine lv_goto (pc := 92) (tgt := 178) hx hb d_C_afterWrite_92 (by decide) ?_
    exact B178 _ _ _ st8   hC (lv_sub hl [] rfl) he
  replace he := if_no he h6
  by_cases h9 : (swS (st.2.1)) = 5
  · replace he := if_go he h9
    refine lv_tableIn (pc := 11) (tgt := 95) hx hb d_C_afterWrite_11 (by rw [h9]; decide) (by rw [h9]; decide) (by rw [h9]; rfl) (by decide) ?_
    refine lv_aload_n (pc := 95) hx hb d_C_afterWrite_95 rfl (lv_at hl 0 rfl) ?_
    refine GC_registers (pc := 96) X hC d_C_afterWrite_96 ?_
    refine lv_iconst (pc := 99) (v := (-1)) hx hb d_C_afterWrite_99 (by decide) ?_
    refine callVN (q0 := 3) (pc := 100) (As := [.int (-1)]) (rest := []) X (k_R_moveStack l g rt o st (-1)) hC (NC_R_moveStack_164 X rfl rfl ⟨by decide, by decide⟩) rfl rfl rfl hl.1 (Nat.le_of_ble_eq_true rfl) rfl d_C_afterWrite_100 ⟨Nat.zero_le _, Nat.zero_le _⟩ (fun st10 H locs est10 hC => ?_)
    replace he := bS_go he est10
    refine lv_aload_n (pc := 103) hx hb d_C_afterWrite_103 rfl (lv_at hl 0 rfl) ?_
    refine SC_stp_PUSH_LOW (pc := 104) X hC d_C_afterWrite_104 ?_
    refine PC_step (pc := 107) X hC d_C_afterWrite_107 (fun st11 H locs est11 hC => ?_)
    replace he := bS_go he est11
    refine lv_goto (pc := 110) (tgt := 178) hx hb d_C_afterWrite_110 (by decide) ?_
    exact B178 _ _ _ st11   hC (lv_sub hl [] rfl) he
  replace he := if_no he h9
  by_cases h12 : (swS (st.2.1)) = 6
  · replace he := if_go he h12
    refine lv_tableIn (pc := 11) (tgt := 113) hx hb d_C_afterWrite_11 (by rw [h12]; decide) (by rw [h12]; decide) (by rw [h12]; rfl) (by decide) ?_
    refine lv_aload_n (pc := 113) hx hb d_C_afterWrite_113 rfl (lv_at hl 0 rfl) ?_
    refine GC_registers (pc := 114) X hC d_C_afterWrite_114 ?_
    refine lv_iconst (pc := 117) (v := (-1)) hx hb d_C_afterWrite_117 (by decide) ?_
    refine callVN (q0 := 3) (pc := 118) (As := [.int (-1)]) (rest := []) X (k_R_moveStack l g rt o st (-1)) hC (NC_R_moveStack_164 X rfl rfl ⟨by decide, by decide⟩) rfl rfl rfl hl.1 (Nat.le_of_ble_eq_true rfl) rfl d_C_afterWrite_118 ⟨Nat.zero_le _, Nat.zero_le _⟩ (fun st13 H locs est13 hC => ?_)
    replace he := bS_go he est13
    refine lv_aload_n (pc := 121) hx hb d_C_afterWrite_121 rfl (lv_at hl 0 rfl) ?_
    refine lv_aload_n (pc := 122) hx hb d_C_afterWrite_122 rfl (lv_at hl 0 rfl) ?_
    refine GC_kind (pc := 123) X hC d_C_afterWrite_123 ?_
    refine SC_knd_CALL (pc := 126) X hC d_C_afterWrite_126 ?_
    refine acK_ne (pc := 129) (tgt := 138) (i := st13.2.2.1) (j := (5 : Fin 16)) X d_C_afterWrite_129 (by decide) (fun h14 => ?_) (fun h14 => ?_)
    · replace he := if_no he h14
      refine SC_stp_PUSH_P (pc := 138) X hC d_C_afterWrite_138 ?_
      exact B141 _ _ _ st13 (23 : Fin 35)  hC (lv_sub hl [] rfl) he
    replace he := if_go he h14
    refine SC_stp_FAR_PAGE (pc := 132) X hC d_C_afterWrite_132 ?_
    refine lv_goto (pc := 135) (tgt := 141) hx hb d_C_afterWrite_135 (by decide) ?_
    exact B141 _ _ _ st13 (7 : Fin 35)  hC (lv_sub hl [] rfl) he
  replace he := if_no he h12
  by_cases h15 : (swS (st.2.1)) = 7
  · replace he := if_go he h15
    refine lv_tableIn (pc := 11) (tgt := 147) hx hb d_C_afterWrite_11 (by rw [h15]; decide) (by rw [h15]; decide) (by rw [h15]; rfl) (by decide) ?_
    refine lv_aload_n (pc := 147) hx hb d_C_afterWrite_147 rfl (lv_at hl 0 rfl) ?_
    refine GC_registers (pc := 148) X hC d_C_afterWrite_148 ?_
    refine lv_iconst (pc := 151) (v := (-1)) hx hb d_C_afterWrite_151 (by decide) ?_
    refine callVN (q0 := 3) (pc := 152) (As := [.int (-1)]) (rest := []) X (k_R_moveStack l g rt o st (-1)) hC (NC_R_moveStack_164 X rfl rfl ⟨by decide, by decide⟩) rfl rfl rfl hl.1 (Nat.le_of_ble_eq_true rfl) rfl d_C_afterWrite_152 ⟨Nat.zero_le _, Nat.zero_le _⟩ (fun st16 H locs est16 hC => ?_)
    replace he := bS_go he est16
    refine lv_aload_n (pc := 155) hx hb d_C_afterWrite_155 rfl (lv_at hl 0 rfl) ?_
    refine GC_registers (pc := 156) X hC d_C_afterWrite_156 ?_
    refine lv_iconst (pc := 159) (v := 4) hx hb d_C_afterWrite_159 (by decide) ?_
    refine lv_iconst (pc := 160) (v := 1) hx hb d_C_afterWrite_160 (by decide) ?_
    refine callVN (q0 := 3) (pc := 161) (As := [.int 4, .int 1]) (rest := []) X (k_R_put l g rt o st16 4 1) hC (NC_R_put_105 X rfl rfl ⟨by decide, by decide⟩) rfl rfl rfl hl.1 (Nat.le_of_ble_eq_true rfl) rfl d_C_afterWrite_161 ⟨Nat.zero_le _, Nat.zero_le _⟩ (fun st17 H locs est17 hC => ?_)
    replace he := bS_go he est17
    refine lv_aload_n (pc := 164) hx hb d_C_afterWrite_164 rfl (lv_at hl 0 rfl) ?_
    refine SC_stp_VECTOR_LOW (pc := 165) X hC d_C_afterWrite_165 ?_
    refine PC_step (pc := 168) X hC d_C_afterWrite_168 (fun st18 H locs est18 hC => ?_)
    replace he := bS_go he est18
    refine lv_goto (pc := 171) (tgt := 178) hx hb d_C_afterWrite_171 (by decide) ?_
    exact B178 _ _ _ st18   hC (lv_sub hl [] rfl) he
  replace he := if_no he h15
  refine lv_tableOut (pc := 11) (tgt := 174) hx hb d_C_afterWrite_11 (by have nh1 := lv_neT (a := 2) h1 (by decide); have nh3 := lv_neT (a := 3) h3 (by decide); have nh6 := lv_neT (a := 4) h6 (by decide); have nh9 := lv_neT (a := 5) h9 (by decide); have nh12 := lv_neT (a := 6) h12 (by decide); have nh15 := lv_neT (a := 7) h15 (by decide); omega) (by decide) ?_
  refine lv_aload_n (pc := 174) hx hb d_C_afterWrite_174 rfl (lv_at hl 0 rfl) ?_
  refine callVO (q0 := 0) (pc := 175) (As := []) (rest := []) X (k_C_end l g rt o st ) hC (NC_C_end_161 X rfl rfl ⟨by decide, by decide⟩) rfl rfl rfl hl.1 (Nat.le_of_ble_eq_true rfl) rfl d_C_afterWrite_175 ⟨Nat.zero_le _, Nat.zero_le _⟩ (fun st19 H locs est19 hC => ?_)
  replace he := bS_go he est19
  exact B178 _ _ _ st19   hC (lv_sub hl [] rfl) he
def f_C_kindWithoutOperand_93 (st : CS) (s0 : Fin 16) : Fin 16 × CS := (s0, st)
def f_C_kindWithoutOperand_66 (st : CS)  : Fin 16 × CS := f_C_kindWithoutOperand_93 st (8 : Fin 16)
def f_C_kindWithoutOperand_60 (st : CS)  : Fin 16 × CS := f_C_kindWithoutOperand_93 st (7 : Fin 16)
def f_C_kindWithoutOperand (st : CS)  : Fin 16 × CS := if 15 < (st.1 7) then (if (st.1 7) = 16 then (f_C_kindWithoutOperand_60 st ) else (if (st.1 7) = 17 then (f_C_kindWithoutOperand_66 st ) else (if (st.1 7) = 18 then (f_C_kindWithoutOperand_60 st ) else (if (st.1 7) = 19 then (f_C_kindWithoutOperand_66 st ) else (if (st.1 7) = 20 then (f_C_kindWithoutOperand_93 st (9 : Fin 16)) else (if (st.1 7) = 21 then (f_C_kindWithoutOperand_93 st (10 : Fin 16)) else (if (st.1 7) = 22 then (f_C_kindWithoutOperand_93 st (11 : Fin 16)) else (f_C_kindWithoutOperand_93 st (12 : Fin 16))))))))) else (((6 : Fin 16), st))
abbrev rm_C_kindWithoutOperand : Room := { frames := 0, cells := 0, slots := 0, locals := 0 }
set_option maxHeartbeats 4000000 in
set_option maxRecDepth 100000 in
theorem k_C_kindWithoutOperand (l : Launch) (g : CG) (rt : MS) (o : Nat → Int64) (st : CS)  : KE g.adK 16 l g y_C_kindWithoutOperand (Cond.code y_C_kindWithoutOperand c_C_kindWithoutOperand 1 (some (.object "ClockedChip$Kind")) :: ALL) rm_C_kindWithoutOperand [.ref (g.chip)] (wC g rt o) st (f_C_kindWithoutOperand st ) := by
  refine KE.ofW (by decide) (Nat.le_of_ble_eq_true rfl) ?_
  intro p e s m args below meth c A Q ls Rv X he RET hC hl
  obtain ⟨hx, hb⟩ := FX_xb X
  have hl : lv_has ls 1 [(0, .ref (g.chip))] := hl
  have B93 : ∀ (H : Heap) (locs : List Loc) (ls : Array Slot) (st : CS) (s0 : Fin 16), HC g A s (wC g rt o st) H locs → lv_has ls 1 [] → f_C_kindWithoutOperand_93 st s0 = Rv → W p l e rm_C_kindWithoutOperand s m args below meth c H locs 0 0 Q (F0 m 93 ls [.ref (g.adK (s0).val)]) := by
    intro H locs ls st s0  hC hl he
    unfold f_C_kindWithoutOperand_93 at he
    exact RET (pc := 93) d_C_kindWithoutOperand_93 hC he
  have B66 : ∀ (H : Heap) (locs : List Loc) (ls : Array Slot) (st : CS) , HC g A s (wC g rt o st) H locs → lv_has ls 1 [] → f_C_kindWithoutOperand_66 st  = Rv → W p l e rm_C_kindWithoutOperand s m args below meth c H locs 0 0 Q (F0 m 66 ls []) := by
    intro H locs ls st   hC hl he
    unfold f_C_kindWithoutOperand_66 at he
    refine SC_knd_PULL (pc := 66) X hC d_C_kindWithoutOperand_66 ?_
    refine lv_goto (pc := 69) (tgt := 93) hx hb d_C_kindWithoutOperand_69 (by decide) ?_
    exact B93 _ _ _ st (8 : Fin 16)  hC (lv_sub hl [] rfl) he
  have B60 : ∀ (H : Heap) (locs : List Loc) (ls : Array Slot) (st : CS) , HC g A s (wC g rt o st) H locs → lv_has ls 1 [] → f_C_kindWithoutOperand_60 st  = Rv → W p l e rm_C_kindWithoutOperand s m args below meth c H locs 0 0 Q (F0 m 60 ls []) := by
    intro H locs ls st   hC hl he
    unfold f_C_kindWithoutOperand_60 at he
    refine SC_knd_PUSH (pc := 60) X hC d_C_kindWithoutOperand_60 ?_
    refine lv_goto (pc := 63) (tgt := 93) hx hb d_C_kindWithoutOperand_63 (by decide) ?_
    exact B93 _ _ _ st (7 : Fin 16)  hC (lv_sub hl [] rfl) he
  unfold f_C_kindWithoutOperand at he
  refine lv_aload_n (pc := 0) hx hb d_C_kindWithoutOperand_0 rfl (lv_at hl 0 rfl) ?_
  refine GC_operation (pc := 1) X hC d_C_kindWithoutOperand_1 ?_
  refine lv_bipush (pc := 4) (v := 15) hx hb d_C_kindWithoutOperand_4 (by decide) ?_
  refine lv_icmp_gt (pc := 6) (tgt := 13) hx hb d_C_kindWithoutOperand_6 (by decide) (fun h1 => ?_) (fun h1 => ?_)
  · replace he := if_go he h1
    refine lv_aload_n (pc := 13) hx hb d_C_kindWithoutOperand_13 rfl (lv_at hl 0 rfl) ?_
    refine GC_operation (pc := 14) X hC d_C_kindWithoutOperand_14 ?_
    by_cases h2 : (st.1 7) = 16
    · replace he := if_go he h2
      refine lv_tableIn (pc := 17) (tgt := 60) hx hb d_C_kindWithoutOperand_17 (by rw [h2]; decide) (by rw [h2]; decide) (by rw [h2]; rfl) (by decide) ?_
      exact B60 _ _ _ st   hC (lv_sub hl [] rfl) he
    replace he := if_no he h2
    by_cases h3 : (st.1 7) = 17
    · replace he := if_go he h3
      refine lv_tableIn (pc := 17) (tgt := 66) hx hb d_C_kindWithoutOperand_17 (by rw [h3]; decide) (by rw [h3]; decide) (by rw [h3]; rfl) (by decide) ?_
      exact B66 _ _ _ st   hC (lv_sub hl [] rfl) he
    replace he := if_no he h3
    by_cases h4 : (st.1 7) = 18
    · replace he := if_go he h4
      refine lv_tableIn (pc := 17) (tgt := 60) hx hb d_C_kindWithoutOperand_17 (by rw [h4]; decide) (by rw [h4]; decide) (by rw [h4]; rfl) (by decide) ?_
      exact B60 _ _ _ st   hC (lv_sub hl [] rfl) he
    replace he := if_no he h4
    by_cases h5 : (st.1 7) = 19
    · replace he := if_go he h5
      refine lv_tableIn (pc := 17) (tgt := 66) hx hb d_C_kindWithoutOperand_17 (by rw [h5]; decide) (by rw [h5]; decide) (by rw [h5]; rfl) (by decide) ?_
      exact B66 _ _ _ st   hC (lv_sub hl [] rfl) he
    replace he := if_no he h5
    by_cases h6 : (st.1 7) = 20
    · replace he := if_go he h6
      refine lv_tableIn (pc := 17) (tgt := 72) hx hb d_C_kindWithoutOperand_17 (by rw [h6]; decide) (by rw [h6]; decide) (by rw [h6]; rfl) (by decide) ?_
      refine SC_knd_RETURN (pc := 72) X hC d_C_kindWithoutOperand_72 ?_
      refine lv_goto (pc := 75) (tgt := 93) hx hb d_C_kindWithoutOperand_75 (by decide) ?_
      exact B93 _ _ _ st (9 : Fin 16)  hC (lv_sub hl [] rfl) he
    replace he := if_no he h6
    by_cases h7 : (st.1 7) = 21
    · replace he := if_go he h7
      refine lv_tableIn (pc := 17) (tgt := 78) hx hb d_C_kindWithoutOperand_17 (by rw [h7]; decide) (by rw [h7]; decide) (by rw [h7]; rfl) (by decide) ?_
      refine SC_knd_RETURN_FROM_INTERRUPT (pc := 78) X hC d_C_kindWithoutOperand_78 ?_
      refine lv_goto (pc := 81) (tgt := 93) hx hb d_C_kindWithoutOperand_81 (by decide) ?_
      exact B93 _ _ _ st (10 : Fin 16)  hC (lv_sub hl [] rfl) he
    replace he := if_no he h7
    by_cases h8 : (st.1 7) = 22
    · replace he := if_go he h8
      refine lv_tableIn (pc := 17) (tgt := 84) hx hb d_C_kindWithoutOperand_17 (by rw [h8]; decide) (by rw [h8]; decide) (by rw [h8]; rfl) (by decide) ?_
      refine SC_knd_BREAK (pc := 84) X hC d_C_kindWithoutOperand_84 ?_
      refine lv_goto (pc := 87) (tgt := 93) hx hb d_C_kindWithoutOperand_87 (by decide) ?_
      exact B93 _ _ _ st (11 : Fin 16)  hC (lv_sub hl [] rfl) he
    replace he := if_no he h8
    refine lv_tableOut (pc := 17) (tgt := 90) hx hb d_C_kindWithoutOperand_17 (by have nh2 := lv_neT (a := 16) h2 (by decide); have nh3 := lv_neT (a := 17) h3 (by decide); have nh4 := lv_neT (a := 18) h4 (by decide); have nh5 := lv_neT (a := 19) h5 (by decide); have nh6 := lv_neT (a := 20) h6 (by decide); have nh7 := lv_neT (a := 21) h7 (by decide); have nh8 := lv_neT (a := 22) h8 (by decide); omega) (by decide) ?_
    refine SC_knd_JAM (pc := 90) X hC d_C_kindWithoutOperand_90 ?_
    exact B93 _ _ _ st (12 : Fin 16)  hC (lv_sub hl [] rfl) he
  replace he := if_no he h1
  refine SC_knd_ON_REGISTERS (pc := 9) X hC d_C_kindWithoutOperand_9 ?_
  exact RET (pc := 12) d_C_kindWithoutOperand_12 hC he
def f_C_kindWithOperand_149 (st : CS) (s0 : Fin 16) : Fin 16 × CS := (s0, st)
def f_C_kindWithOperand_146 (st : CS)  : Fin 16 × CS := f_C_kindWithOperand_149 st (12 : Fin 16)
def f_C_kindWithOperand_123 (st : CS)  : Fin 16 × CS := if (st.1 8) = 3 then (if (st.1 7) = 25 then (f_C_kindWithOperand_149 st (5 : Fin 16)) else (f_C_kindWithOperand_146 st )) else (f_C_kindWithOperand_146 st )
def f_C_kindWithOperand_102 (st : CS)  : Fin 16 × CS := if (st.1 8) = 3 then (if (st.1 7) = 24 then (((4 : Fin 16), st)) else (f_C_kindWithOperand_123 st )) else (f_C_kindWithOperand_123 st )
def f_C_kindWithOperand_72 (st : CS) (s0 : Fin 16) : Fin 16 × CS := (s0, st)
def f_C_kindWithOperand_69 (st : CS)  : Fin 16 × CS := f_C_kindWithOperand_72 st (12 : Fin 16)
def f_C_kindWithOperand_24 (st : CS) (s0 : Fin 16) : Fin 16 × CS := (s0, st)
def f_C_kindWithOperand (st : CS)  : Fin 16 × CS := if (st.1 7) = 1 then (if (st.1 8) = 0 then (f_C_kindWithOperand_24 st (12 : Fin 16)) else (f_C_kindWithOperand_24 st (1 : Fin 16))) else (if 9 < (st.1 7) then (if 13 < (st.1 7) then (if (st.1 8) = 0 then (if (st.1 7) < 16 then (f_C_kindWithOperand_102 st ) else (if 23 < (st.1 7) then (f_C_kindWithOperand_102 st ) else (((3 : Fin 16), st)))) else (f_C_kindWithOperand_102 st )) else (if (st.1 8) < 1 then (f_C_kindWithOperand_69 st ) else (if 4 < (st.1 8) then (f_C_kindWithOperand_69 st ) else (f_C_kindWithOperand_72 st (2 : Fin 16))))) else (((0 : Fin 16), st)))
abbrev rm_C_kindWithOperand : Room := { frames := 0, cells := 0, slots := 0, locals := 0 }
set_option maxHeartbeats 4000000 in
set_option maxRecDepth 100000 in
theorem k_C_kindWithOperand (l : Launch) (g : CG) (rt : MS) (o : Nat → Int64) (st : CS)  : KE g.adK 16 l g y_C_kindWithOperand (Cond.code y_C_kindWithOperand c_C_kindWithOperand 1 (some (.object "ClockedChip$Kind")) :: ALL) rm_C_kindWithOperand [.ref (g.chip)] (wC g rt o) st (f_C_kindWithOperand st ) := by
  refine KE.ofW (by decide) (Nat.le_of_ble_eq_true rfl) ?_
  intro p e s m args below meth c A Q ls Rv X he RET hC hl
  obtain ⟨hx, hb⟩ := FX_xb X
  have hl : lv_has ls 1 [(0, .ref (g.chip))] := hl
  have B149 : ∀ (H : Heap) (locs : List Loc) (ls : Array Slot) (st : CS) (s0 : Fin 16), HC g A s (wC g rt o st) H locs → lv_has ls 1 [] → f_C_kindWithOperand_149 st s0 = Rv → W p l e rm_C_kindWithOperand s m args below meth c H locs 0 0 Q (F0 m 149 ls [.ref (g.adK (s0).val)]) := by
    intro H locs ls st s0  hC hl he
    unfold f_C_kindWithOperand_149 at he
    exact RET (pc := 149) d_C_kindWithOperand_149 hC he
  have B146 : ∀ (H : Heap) (locs : List Loc) (ls : Array Slot) (st : CS) , HC g A s (wC g rt o st) H locs → lv_has ls 1 [] → f_C_kindWithOperand_146 st  = Rv → W p l e rm_C_kindWithOperand s m args below meth c H locs 0 0 Q (F0 m 146 ls []) := by
    intro H locs ls st   hC hl he
    unfold f_C_kindWithOperand_146 at he
    refine SC_knd_JAM (pc := 146) X hC d_C_kindWithOperand_146 ?_
    exact B149 _ _ _ st (12 : Fin 16)  hC (lv_sub hl [] rfl) he
  have B123 : ∀ (H : Heap) (locs : List Loc) (ls : Array Slot) (st : CS) , HC g A s (wC g rt o st) H locs → lv_has ls 1 [(0, .ref (g.chip))] → f_C_kindWithOperand_123 st  = Rv → W p l e rm_C_kindWithOperand s m args below meth c H locs 0 0 Q (F0 m 123 ls []) := by
    intro H locs ls st   hC hl he
    unfold f_C_kindWithOperand_123 at he
    refine lv_aload_n (pc := 123) hx hb d_C_kindWithOperand_123 rfl (lv_at hl 0 rfl) ?_
    refine GC_mode (pc := 124) X hC d_C_kindWithOperand_124 ?_
    refine lv_iconst (pc := 127) (v := 3) hx hb d_C_kindWithOperand_127 (by decide) ?_
    refine lv_icmp_ne (pc := 128) (tgt := 146) hx hb d_C_kindWithOperand_128 (by decide) (fun h12 => ?_) (fun h12 => ?_)
    · replace he := if_no he h12
      exact B146 _ _ _ st   hC (lv_sub hl [] rfl) he
    replace he := if_go he h12
    refine lv_aload_n (pc := 131) hx hb d_C_kindWithOperand_131 rfl (lv_at hl 0 rfl) ?_
    refine GC_operation (pc := 132) X hC d_C_kindWithOperand_132 ?_
    refine lv_bipush (pc := 135) (v := 25) hx hb d_C_kindWithOperand_135 (by decide) ?_
    refine lv_icmp_ne (pc := 137) (tgt := 146) hx hb d_C_kindWithOperand_137 (by decide) (fun h13 => ?_) (fun h13 => ?_)
    · replace he := if_no he h13
      exact B146 _ _ _ st   hC (lv_sub hl [] rfl) he
    replace he := if_go he h13
    refine SC_knd_CALL (pc := 140) X hC d_C_kindWithOperand_140 ?_
    refine lv_goto (pc := 143) (tgt := 149) hx hb d_C_kindWithOperand_143 (by decide) ?_
    exact B149 _ _ _ st (5 : Fin 16)  hC (lv_sub hl [] rfl) he
  have B102 : ∀ (H : Heap) (locs : List Loc) (ls : Array Slot) (st : CS) , HC g A s (wC g rt o st) H locs → lv_has ls 1 [(0, .ref (g.chip))] → f_C_kindWithOperand_102 st  = Rv → W p l e rm_C_kindWithOperand s m args below meth c H locs 0 0 Q (F0 m 102 ls []) := by
    intro H locs ls st   hC hl he
    unfold f_C_kindWithOperand_102 at he
    refine lv_aload_n (pc := 102) hx hb d_C_kindWithOperand_102 rfl (lv_at hl 0 rfl) ?_
    refine GC_mode (pc := 103) X hC d_C_kindWithOperand_103 ?_
    refine lv_iconst (pc := 106) (v := 3) hx hb d_C_kindWithOperand_106 (by decide) ?_
    refine lv_icmp_ne (pc := 107) (tgt := 123) hx hb d_C_kindWithOperand_107 (by decide) (fun h10 => ?_) (fun h10 => ?_)
    · replace he := if_no he h10
      exact B123 _ _ _ st   hC (lv_sub hl [0] rfl) he
    replace he := if_go he h10
    refine lv_aload_n (pc := 110) hx hb d_C_kindWithOperand_110 rfl (lv_at hl 0 rfl) ?_
    refine GC_operation (pc := 111) X hC d_C_kindWithOperand_111 ?_
    refine lv_bipush (pc := 114) (v := 24) hx hb d_C_kindWithOperand_114 (by decide) ?_
    refine lv_icmp_ne (pc := 116) (tgt := 123) hx hb d_C_kindWithOperand_116 (by decide) (fun h11 => ?_) (fun h11 => ?_)
    · replace he := if_no he h11
      exact B123 _ _ _ st   hC (lv_sub hl [0] rfl) he
    replace he := if_go he h11
    refine SC_knd_JUMP (pc := 119) X hC d_C_kindWithOperand_119 ?_
    exact RET (pc := 122) d_C_kindWithOperand_122 hC he
  have B72 : ∀ (H : Heap) (locs : List Loc) (ls : Array Slot) (st : CS) (s0 : Fin 16), HC g A s (wC g rt o st) H locs → lv_has ls 1 [] → f_C_kindWithOperand_72 st s0 = Rv → W p l e rm_C_kindWithOperand s m args below meth c H locs 0 0 Q (F0 m 72 ls [.ref (g.adK (s0).val)]) := by
    intro H locs ls st s0  hC hl he
    unfold f_C_kindWithOperand_72 at he
    exact RET (pc := 72) d_C_kindWithOperand_72 hC he
  have B69 : ∀ (H : Heap) (locs : List Loc) (ls : Array Slot) (st : CS) , HC g A s (wC g rt o st) H locs → lv_has ls 1 [] → f_C_kindWithOperand_69 st  = Rv → W p l e rm_C_kindWithOperand s m args below meth c H locs 0 0 Q (F0 m 69 ls []) := by
    intro H locs ls st   hC hl he
    unfold f_C_kindWithOperand_69 at he
    refine SC_knd_JAM (pc := 69) X hC d_C_kindWithOperand_69 ?_
    exact B72 _ _ _ st (12 : Fin 16)  hC (lv_sub hl [] rfl) he
  have B24 : ∀ (H : Heap) (locs : List Loc) (ls : Array Slot) (st : CS) (s0 : Fin 16), HC g A s (wC g rt o st) H locs → lv_has ls 1 [] → f_C_kindWithOperand_24 st s0 = Rv → W p l e rm_C_kindWithOperand s m args below meth c H locs 0 0 Q (F0 m 24 ls [.ref (g.adK (s0).val)]) := by
    intro H locs ls st s0  hC hl he
    unfold f_C_kindWithOperand_24 at he
    exact RET (pc := 24) d_C_kindWithOperand_24 hC he
  unfold f_C_kindWithOperand at he
  refine lv_aload_n (pc := 0) hx hb d_C_kindWithOperand_0 rfl (lv_at hl 0 rfl) ?_
  refine GC_operation (pc := 1) X hC d_C_kindWithOperand_1 ?_
  refine lv_iconst (pc := 4) (v := 1) hx hb d_C_kindWithOperand_4 (by decide) ?_
  refine lv_icmp_ne (pc := 5) (tgt := 25) hx hb d_C_kindWithOperand_5 (by decide) (fun h1 => ?_) (fun h1 => ?_)
  · replace he := if_no he h1
    refine lv_aload_n (pc := 25) hx hb d_C_kindWithOperand_25 rfl (lv_at hl 0 rfl) ?_
    refine GC_operation (pc := 26) X hC d_C_kindWithOperand_26 ?_
    refine lv_bipush (pc := 29) (v := 9) hx hb d_C_kindWithOperand_29 (by decide) ?_
    refine lv_icmp_gt (pc := 31) (tgt := 38) hx hb d_C_kindWithOperand_31 (by decide) (fun h2 => ?_) (fun h2 => ?_)
    · replace he := if_go he h2
      refine lv_aload_n (pc := 38) hx hb d_C_kindWithOperand_38 rfl (lv_at hl 0 rfl) ?_
      refine GC_operation (pc := 39) X hC d_C_kindWithOperand_39 ?_
      refine lv_bipush (pc := 42) (v := 13) hx hb d_C_kindWithOperand_42 (by decide) ?_
      refine lv_icmp_gt (pc := 44) (tgt := 73) hx hb d_C_kindWithOperand_44 (by decide) (fun h3 => ?_) (fun h3 => ?_)
      · replace he := if_go he h3
        refine lv_aload_n (pc := 73) hx hb d_C_kindWithOperand_73 rfl (lv_at hl 0 rfl) ?_
        refine GC_mode (pc := 74) X hC d_C_kindWithOperand_74 ?_
        refine lv_if_ne (pc := 77) (tgt := 102) hx hb d_C_kindWithOperand_77 (by decide) (fun h4 => ?_) (fun h4 => ?_)
        · replace he := if_no he h4
          exact B102 _ _ _ st   hC (lv_sub hl [0] rfl) he
        replace he := if_go he h4
        refine lv_aload_n (pc := 80) hx hb d_C_kindWithOperand_80 rfl (lv_at hl 0 rfl) ?_
        refine GC_operation (pc := 81) X hC d_C_kindWithOperand_81 ?_
        refine lv_bipush (pc := 84) (v := 16) hx hb d_C_kindWithOperand_84 (by decide) ?_
        refine lv_icmp_lt (pc := 86) (tgt := 102) hx hb d_C_kindWithOperand_86 (by decide) (fun h5 => ?_) (fun h5 => ?_)
        · replace he := if_go he h5
          exact B102 _ _ _ st   hC (lv_sub hl [0] rfl) he
        replace he := if_no he h5
        refine lv_aload_n (pc := 89) hx hb d_C_kindWithOperand_89 rfl (lv_at hl 0 rfl) ?_
        refine GC_operation (pc := 90) X hC d_C_kindWithOperand_90 ?_
        refine lv_bipush (pc := 93) (v := 23) hx hb d_C_kindWithOperand_93 (by decide) ?_
        refine lv_icmp_gt (pc := 95) (tgt := 102) hx hb d_C_kindWithOperand_95 (by decide) (fun h6 => ?_) (fun h6 => ?_)
        · replace he := if_go he h6
          exact B102 _ _ _ st   hC (lv_sub hl [0] rfl) he
        replace he := if_no he h6
        refine SC_knd_BRANCH (pc := 98) X hC d_C_kindWithOperand_98 ?_
        exact RET (pc := 101) d_C_kindWithOperand_101 hC he
      replace he := if_no he h3
      refine lv_aload_n (pc := 47) hx hb d_C_kindWithOperand_47 rfl (lv_at hl 0 rfl) ?_
      refine GC_mode (pc := 48) X hC d_C_kindWithOperand_48 ?_
      refine lv_iconst (pc := 51) (v := 1) hx hb d_C_kindWithOperand_51 (by decide) ?_
      refine lv_icmp_lt (pc := 52) (tgt := 69) hx hb d_C_kindWithOperand_52 (by decide) (fun h7 => ?_) (fun h7 => ?_)
      · replace he := if_go he h7
        exact B69 _ _ _ st   hC (lv_sub hl [] rfl) he
      replace he := if_no he h7
      refine lv_aload_n (pc := 55) hx hb d_C_kindWithOperand_55 rfl (lv_at hl 0 rfl) ?_
      refine GC_mode (pc := 56) X hC d_C_kindWithOperand_56 ?_
      refine lv_iconst (pc := 59) (v := 4) hx hb d_C_kindWithOperand_59 (by decide) ?_
      refine lv_icmp_gt (pc := 60) (tgt := 69) hx hb d_C_kindWithOperand_60 (by decide) (fun h8 => ?_) (fun h8 => ?_)
      · replace he := if_go he h8
        exact B69 _ _ _ st   hC (lv_sub hl [] rfl) he
      replace he := if_no he h8
      refine SC_knd_CHANGE (pc := 63) X hC d_C_kindWithOperand_63 ?_
      refine lv_goto (pc := 66) (tgt := 72) hx hb d_C_kindWithOperand_66 (by decide) ?_
      exact B72 _ _ _ st (2 : Fin 16)  hC (lv_sub hl [] rfl) he
    replace he := if_no he h2
    refine SC_knd_READ (pc := 34) X hC d_C_kindWithOperand_34 ?_
    exact RET (pc := 37) d_C_kindWithOperand_37 hC he
  replace he := if_go he h1
  refine lv_aload_n (pc := 8) hx hb d_C_kindWithOperand_8 rfl (lv_at hl 0 rfl) ?_
  refine GC_mode (pc := 9) X hC d_C_kindWithOperand_9 ?_
  refine lv_if_ne (pc := 12) (tgt := 21) hx hb d_C_kindWithOperand_12 (by decide) (fun h9 => ?_) (fun h9 => ?_)
  · replace he := if_no he h9
    refine SC_knd_STORE (pc := 21) X hC d_C_kindWithOperand_21 ?_
    exact B24 _ _ _ st (1 : Fin 16)  hC (lv_sub hl [] rfl) he
  replace he := if_go he h9
  refine SC_knd_JAM (pc := 15) X hC d_C_kindWithOperand_15 ?_
  refine lv_goto (pc := 18) (tgt := 24) hx hb d_C_kindWithOperand_18 (by decide) ?_
  exact B24 _ _ _ st (12 : Fin 16)  hC (lv_sub hl [] rfl) he
def f_C_secondStepByMode_55 (st : CS) (s0 : Fin 35) : Fin 35 × CS := (s0, st)
def f_C_secondStepByMode_52 (st : CS)  : Fin 35 × CS := f_C_secondStepByMode_55 st (2 : Fin 35)
def f_C_secondStepByMode_46 (st : CS)  : Fin 35 × CS := f_C_secondStepByMode_55 st (6 : Fin 35)
def f_C_secondStepByMode (st : CS)  : Fin 35 × CS := if (st.1 8) = 0 then (f_C_secondStepByMode_55 st (1 : Fin 35)) else (if (st.1 8) = 1 then (f_C_secondStepByMode_52 st ) else (if (st.1 8) = 2 then (f_C_secondStepByMode_52 st ) else (if (st.1 8) = 3 then (f_C_secondStepByMode_46 st ) else (if (st.1 8) = 4 then (f_C_secondStepByMode_46 st ) else (f_C_secondStepByMode_52 st )))))
abbrev rm_C_secondStepByMode : Room := { frames := 0, cells := 0, slots := 0, locals := 0 }
set_option maxHeartbeats 4000000 in
set_option maxRecDepth 100000 in
theorem k_C_secondStepByMode (l : Launch) (g : CG) (rt : MS) (o : Nat → Int64) (st : CS)  : KE g.adS 35 l g y_C_secondStepByMode (Cond.code y_C_secondStepByMode c_C_secondStepByMode 1 (some (.object "ClockedChip$Step")) :: ALL) rm_C_secondStepByMode [.ref (g.chip)] (wC g rt o) st (f_C_secondStepByMode st ) := by
  refine KE.ofW (by decide) (Nat.le_of_ble_eq_true rfl) ?_
  intro p e s m args below meth c A Q ls Rv X he RET hC hl
  obtain ⟨hx, hb⟩ := FX_xb X
  have hl : lv_has ls 1 [(0, .ref (g.chip))] := hl
  have B55 : ∀ (H : Heap) (locs : List Loc) (ls : Array Slot) (st : CS) (s0 : Fin 35), HC g A s (wC g rt o st) H locs → lv_has ls 1 [] → f_C_secondStepByMode_55 st s0 = Rv → W p l e rm_C_secondStepByMode s m args below meth c H locs 0 0 Q (F0 m 55 ls [.ref (g.adS (s0).val)]) := by
    intro H locs ls st s0  hC hl he
    unfold f_C_secondStepByMode_55 at he
    exact RET (pc := 55) d_C_secondStepByMode_55 hC he
  have B52 : ∀ (H : Heap) (locs : List Loc) (ls : Array Slot) (st : CS) , HC g A s (wC g rt o st) H locs → lv_has ls 1 [] → f_C_secondStepByMode_52 st  = Rv → W p l e rm_C_secondStepByMode s m args below meth c H locs 0 0 Q (F0 m 52 ls []) := by
    intro H locs ls st   hC hl he
    unfold f_C_secondStepByMode_52 at he
    refine SC_stp_ZERO_BYTE (pc := 52) X hC d_C_secondStepByMode_52 ?_
    exact B55 _ _ _ st (2 : Fin 35)  hC (lv_sub hl [] rfl) he
  have B46 : ∀ (H : Heap) (locs : List Loc) (ls : Array Slot) (st : CS) , HC g A s (wC g rt o st) H locs → lv_has ls 1 [] → f_C_secondStepByMode_46 st  = Rv → W p l e rm_C_secondStepByMode s m args below meth c H locs 0 0 Q (F0 m 46 ls []) := by
    intro H locs ls st   hC hl he
    unfold f_C_secondStepByMode_46 at he
    refine SC_stp_FAR_LOW (pc := 46) X hC d_C_secondStepByMode_46 ?_
    refine lv_goto (pc := 49) (tgt := 55) hx hb d_C_secondStepByMode_49 (by decide) ?_
    exact B55 _ _ _ st (6 : Fin 35)  hC (lv_sub hl [] rfl) he
  unfold f_C_secondStepByMode at he
  refine lv_aload_n (pc := 0) hx hb d_C_secondStepByMode_0 rfl (lv_at hl 0 rfl) ?_
  refine GC_mode (pc := 1) X hC d_C_secondStepByMode_1 ?_
  by_cases h1 : (st.1 8) = 0
  · replace he := if_go he h1
    refine lv_tableIn (pc := 4) (tgt := 40) hx hb d_C_secondStepByMode_4 (by rw [h1]; decide) (by rw [h1]; decide) (by rw [h1]; rfl) (by decide) ?_
    refine SC_stp_IMMEDIATE (pc := 40) X hC d_C_secondStepByMode_40 ?_
    refine lv_goto (pc := 43) (tgt := 55) hx hb d_C_secondStepByMode_43 (by decide) ?_
    exact B55 _ _ _ st (1 : Fin 35)  hC (lv_sub hl [] rfl) he
  replace he := if_no he h1
  by_cases h2 : (st.1 8) = 1
  · replace he := if_go he h2
    refine lv_tableIn (pc := 4) (tgt := 52) hx hb d_C_secondStepByMode_4 (by rw [h2]; decide) (by rw [h2]; decide) (by rw [h2]; rfl) (by decide) ?_
    exact B52 _ _ _ st   hC (lv_sub hl [] rfl) he
  replace he := if_no he h2
  by_cases h3 : (st.1 8) = 2
  · replace he := if_go he h3
    refine lv_tableIn (pc := 4) (tgt := 52) hx hb d_C_secondStepByMode_4 (by rw [h3]; decide) (by rw [h3]; decide) (by rw [h3]; rfl) (by decide) ?_
    exact B52 _ _ _ st   hC (lv_sub hl [] rfl) he
  replace he := if_no he h3
  by_cases h4 : (st.1 8) = 3
  · replace he := if_go he h4
    refine lv_tableIn (pc := 4) (tgt := 46) hx hb d_C_secondStepByMode_4 (by rw [h4]; decide) (by rw [h4]; decide) (by rw [h4]; rfl) (by decide) ?_
    exact B46 _ _ _ st   hC (lv_sub hl [] rfl) he
  replace he := if_no he h4
  by_cases h5 : (st.1 8) = 4
  · replace he := if_go he h5
    refine lv_tableIn (pc := 4) (tgt := 46) hx hb d_C_secondStepByMode_4 (by rw [h5]; decide) (by rw [h5]; decide) (by rw [h5]; rfl) (by decide) ?_
    exact B46 _ _ _ st   hC (lv_sub hl [] rfl) he
  replace he := if_no he h5
  refine lv_tableOut (pc := 4) (tgt := 52) hx hb d_C_secondStepByMode_4 (by have nh1 := lv_neT (a := 0) h1 (by decide); have nh2 := lv_neT (a := 1) h2 (by decide); have nh3 := lv_neT (a := 2) h3 (by decide); have nh4 := lv_neT (a := 3) h4 (by decide); have nh5 := lv_neT (a := 4) h5 (by decide); omega) (by decide) ?_
  exact B52 _ _ _ st   hC (lv_sub hl [] rfl) he
def f_C_secondStep_90 (st : CS) (s0 : Fin 35) : Fin 35 × CS := (s0, st)
def f_C_secondStep_69 (st : CS)  : Fin 35 × CS := f_C_secondStep_90 st (6 : Fin 35)
def f_C_secondStep_56 (st : CS)  : Fin 35 × CS := bP (f_C_secondStepByMode st ) (fun r10 st9 => f_C_secondStep_90 st9 r10)
def f_C_secondStep (st : CS)  : Fin 35 × CS := if (swK (st.2.2.1)) = 1 then (f_C_secondStep_56 st ) else (if (swK (st.2.2.1)) = 2 then (f_C_secondStep_56 st ) else (if (swK (st.2.2.1)) = 3 then (f_C_secondStep_56 st ) else (if (swK (st.2.2.1)) = 4 then (f_C_secondStep_90 st (14 : Fin 35)) else (if (swK (st.2.2.1)) = 5 then (f_C_secondStep_69 st ) else (if (swK (st.2.2.1)) = 6 then (f_C_secondStep_69 st ) else (if (swK (st.2.2.1)) = 7 then (f_C_secondStep_90 st (17 : Fin 35)) else (if (swK (st.2.2.1)) = 8 then (f_C_secondStep_90 st (34 : Fin 35)) else (f_C_secondStep_90 st (18 : Fin 35)))))))))
abbrev rm_C_secondStep : Room := { frames := 1, cells := 0, slots := 0, locals := 20 }
set_option maxHeartbeats 4000000 in
set_option maxRecDepth 100000 in
theorem k_C_secondStep (l : Launch) (g : CG) (rt : MS) (o : Nat → Int64) (st : CS)  : KE g.adS 35 l g y_C_secondStep (Cond.code y_C_secondStep c_C_secondStep 1 (some (.object "ClockedChip$Step")) :: ALL) rm_C_secondStep [.ref (g.chip)] (wC g rt o) st (f_C_secondStep st ) := by
  refine KE.ofW (by decide) (Nat.le_of_ble_eq_true rfl) ?_
  intro p e s m args below meth c A Q ls Rv X he RET hC hl
  obtain ⟨hx, hb⟩ := FX_xb X
  have hl : lv_has ls 1 [(0, .ref (g.chip))] := hl
  have B90 : ∀ (H : Heap) (locs : List Loc) (ls : Array Slot) (st : CS) (s0 : Fin 35), HC g A s (wC g rt o st) H locs → lv_has ls 1 [] → f_C_secondStep_90 st s0 = Rv → W p l e rm_C_secondStep s m args below meth c H locs 0 0 Q (F0 m 90 ls [.ref (g.adS (s0).val)]) := by
    intro H locs ls st s0  hC hl he
    unfold f_C_secondStep_90 at he
    exact RET (pc := 90) d_C_secondStep_90 hC he
  have B69 : ∀ (H : Heap) (locs : List Loc) (ls : Array Slot) (st : CS) , HC g A s (wC g rt o st) H locs → lv_has ls 1 [] → f_C_secondStep_69 st  = Rv → W p l e rm_C_secondStep s m args below meth c H locs 0 0 Q (F0 m 69 ls []) := by
    intro H locs ls st   hC hl he
    unfold f_C_secondStep_69 at he
    refine SC_stp_FAR_LOW (pc := 69) X hC d_C_secondStep_69 ?_
    refine lv_goto (pc := 72) (tgt := 90) hx hb d_C_secondStep_72 (by decide) ?_
    exact B90 _ _ _ st (6 : Fin 35)  hC (lv_sub hl [] rfl) he
  have B56 : ∀ (H : Heap) (locs : List Loc) (ls : Array Slot) (st : CS) , HC g A s (wC g rt o st) H locs → lv_has ls 1 [(0, .ref (g.chip))] → f_C_secondStep_56 st  = Rv → W p l e rm_C_secondStep s m args below meth c H locs 0 0 Q (F0 m 56 ls []) := by
    intro H locs ls st   hC hl he
    unfold f_C_secondStep_56 at he
    refine lv_aload_n (pc := 56) hx hb d_C_secondStep_56 rfl (lv_at hl 0 rfl) ?_
    refine callEO (q0 := 0) (pc := 57) (As := []) (rest := []) X (k_C_secondStepByMode l g rt o st ) hC (NC_C_secondStepByMode_324 X rfl rfl ⟨by decide, by decide⟩) rfl rfl rfl hl.1 (Nat.le_of_ble_eq_true rfl) rfl d_C_secondStep_57 ⟨Nat.zero_le _, Nat.zero_le _⟩ (fun r10 st9 H locs est9 hC => ?_)
    replace he := bP_go he est9
    refine lv_goto (pc := 60) (tgt := 90) hx hb d_C_secondStep_60 (by decide) ?_
    exact B90 _ _ _ st9 r10  hC (lv_sub hl [] rfl) he
  unfold f_C_secondStep at he
  refine SC_mapK (pc := 0) X hC d_C_secondStep_0 ?_
  refine lv_aload_n (pc := 3) hx hb d_C_secondStep_3 rfl (lv_at hl 0 rfl) ?_
  refine GC_kind (pc := 4) X hC d_C_secondStep_4 ?_
  refine OC_knd (pc := 7) (k := st.2.2.1) (rest := [.ref (g.mapK)]) X hC hl.1 (Nat.le_of_ble_eq_true rfl) ⟨by decide, by decide⟩ ⟨Nat.zero_le _, Nat.zero_le _⟩ d_C_secondStep_7 ?_
  refine AmapK (pc := 10) (k := st.2.2.1) X hC d_C_secondStep_10 ?_
  by_cases h1 : (swK (st.2.2.1)) = 1
  · replace he := if_go he h1
    refine lv_tableIn (pc := 11) (tgt := 56) hx hb d_C_secondStep_11 (by rw [h1]; decide) (by rw [h1]; decide) (by rw [h1]; rfl) (by decide) ?_
    exact B56 _ _ _ st   hC (lv_sub hl [0] rfl) he
  replace he := if_no he h1
  by_cases h2 : (swK (st.2.2.1)) = 2
  · replace he := if_go he h2
    refine lv_tableIn (pc := 11) (tgt := 56) hx hb d_C_secondStep_11 (by rw [h2]; decide) (by rw [h2]; decide) (by rw [h2]; rfl) (by decide) ?_
    exact B56 _ _ _ st   hC (lv_sub hl [0] rfl) he
  replace he := if_no he h2
  by_cases h3 : (swK (st.2.2.1)) = 3
  · replace he := if_go he h3
    refine lv_tableIn (pc := 11) (tgt := 56) hx hb d_C_secondStep_11 (by rw [h3]; decide) (by rw [h3]; decide) (by rw [h3]; rfl) (by decide) ?_
    exact B56 _ _ _ st   hC (lv_sub hl [0] rfl) he
  replace he := if_no he h3
  by_cases h4 : (swK (st.2.2.1)) = 4
  · replace he := if_go he h4
    refine lv_tableIn (pc := 11) (tgt := 63) hx hb d_C_secondStep_11 (by rw [h4]; decide) (by rw [h4]; decide) (by rw [h4]; rfl) (by decide) ?_
    refine SC_stp_BRANCH_DISTANCE (pc := 63) X hC d_C_secondStep_63 ?_
    refine lv_goto (pc := 66) (tgt := 90) hx hb d_C_secondStep_66 (by decide) ?_
    exact B90 _ _ _ st (14 : Fin 35)  hC (lv_sub hl [] rfl) he
  replace he := if_no he h4
  by_cases h5 : (swK (st.2.2.1)) = 5
  · replace he := if_go he h5
    refine lv_tableIn (pc := 11) (tgt := 69) hx hb d_C_secondStep_11 (by rw [h5]; decide) (by rw [h5]; decide) (by rw [h5]; rfl) (by decide) ?_
    exact B69 _ _ _ st   hC (lv_sub hl [] rfl) he
  replace he := if_no he h5
  by_cases h6 : (swK (st.2.2.1)) = 6
  · replace he := if_go he h6
    refine lv_tableIn (pc := 11) (tgt := 69) hx hb d_C_secondStep_11 (by rw [h6]; decide) (by rw [h6]; decide) (by rw [h6]; rfl) (by decide) ?_
    exact B69 _ _ _ st   hC (lv_sub hl [] rfl) he
  replace he := if_no he h6
  by_cases h7 : (swK (st.2.2.1)) = 7
  · replace he := if_go he h7
    refine lv_tableIn (pc := 11) (tgt := 75) hx hb d_C_secondStep_11 (by rw [h7]; decide) (by rw [h7]; decide) (by rw [h7]; rfl) (by decide) ?_
    refine SC_stp_BREAK_NEXT (pc := 75) X hC d_C_secondStep_75 ?_
    refine lv_goto (pc := 78) (tgt := 90) hx hb d_C_secondStep_78 (by decide) ?_
    exact B90 _ _ _ st (17 : Fin 35)  hC (lv_sub hl [] rfl) he
  replace he := if_no he h7
  by_cases h8 : (swK (st.2.2.1)) = 8
  · replace he := if_go he h8
    refine lv_tableIn (pc := 11) (tgt := 81) hx hb d_C_secondStep_11 (by rw [h8]; decide) (by rw [h8]; decide) (by rw [h8]; rfl) (by decide) ?_
    refine SC_stp_JAMMED (pc := 81) X hC d_C_secondStep_81 ?_
    refine lv_goto (pc := 84) (tgt := 90) hx hb d_C_secondStep_84 (by decide) ?_
    exact B90 _ _ _ st (34 : Fin 35)  hC (lv_sub hl [] rfl) he
  replace he := if_no he h8
  refine lv_tableOut (pc := 11) (tgt := 87) hx hb d_C_secondStep_11 (by have nh1 := lv_neT (a := 1) h1 (by decide); have nh2 := lv_neT (a := 2) h2 (by decide); have nh3 := lv_neT (a := 3) h3 (by decide); have nh4 := lv_neT (a := 4) h4 (by decide); have nh5 := lv_neT (a := 5) h5 (by decide); have nh6 := lv_neT (a := 6) h6 (by decide); have nh7 := lv_neT (a := 7) h7 (by decide); have nh8 := lv_neT (a := 8) h8 (by decide); omega) (by decide) ?_
  refine SC_stp_PC_IDLE (pc := 87) X hC d_C_secondStep_87 ?_
  exact B90 _ _ _ st (18 : Fin 35)  hC (lv_sub hl [] rfl) he

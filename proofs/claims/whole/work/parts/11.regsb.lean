/-! contracts of methods (printed by my own program: pure pictures and walks) -/
def f_R_operate_136 (st : CS)  : CS := st
def f_R_operate_131 (st : CS) (v2 : Int32) : CS := bS (f_R_loadY st v2) (fun st18 => f_R_operate_136 st18 )
def f_R_operate (st : CS) (v1 : Int32) (v2 : Int32) : CS := if v1 = 0 then (bS (f_R_loadA st v2) (fun st2 => f_R_operate_136 st2 )) else (if v1 = 1 then (f_R_operate_131 st v2) else (if v1 = 2 then (bS (f_R_add st v2) (fun st5 => f_R_operate_136 st5 )) else (if v1 = 3 then (bS (f_R_subtract st v2) (fun st7 => f_R_operate_136 st7 )) else (if v1 = 4 then (bS (f_R_loadA st ((st.1 0) &&& v2)) (fun st9 => f_R_operate_136 st9 )) else (if v1 = 5 then (bS (f_R_loadA st ((st.1 0) ||| v2)) (fun st11 => f_R_operate_136 st11 )) else (if v1 = 6 then (bS (f_R_loadA st ((st.1 0) ^^^ v2)) (fun st13 => f_R_operate_136 st13 )) else (if v1 = 7 then (bS (f_R_compare st v2) (fun st15 => f_R_operate_136 st15 )) else (if v1 = 8 then (bS (f_R_loadX st v2) (fun st17 => f_R_operate_136 st17 )) else (f_R_operate_131 st v2)))))))))
abbrev rm_R_operate : Room := { frames := 3, cells := 0, slots := 0, locals := 69 }
set_option maxHeartbeats 4000000 in
set_option maxRecDepth 100000 in
theorem k_R_operate (l : Launch) (g : CG) (rt : MS) (o : Nat → Int64) (st : CS) (v1 : Int32) (v2 : Int32) : KV l g y_R_operate (Cond.code y_R_operate c_R_operate 3 none :: ALL) rm_R_operate [.ref (g.regs), .int v1, .int v2] (wC g rt o) st (f_R_operate st v1 v2) := by
  refine KV.ofW (by decide) (Nat.le_of_ble_eq_true rfl) ?_
  intro p e s m args below meth c A Q ls Rv X he RET hC hl
  obtain ⟨hx, hb⟩ := FX_xb X
  have hl : lv_has ls 3 [(0, .ref (g.regs)), (1, .int v1), (2, .int v2)] := hl
  have B136 : ∀ (H : Heap) (locs : List Loc) (ls : Array Slot) (st : CS) , HC g A s (wC g rt o st) H locs → lv_has ls 3 [] → f_R_operate_136 st  = Rv → W p l e rm_R_operate s m args below meth c H locs 0 0 Q (F0 m 136 ls []) := by
    intro H locs ls st   hC hl he
    unfold f_R_operate_136 at he
    exact RET (pc := 136) d_R_operate_136 hC he
  have B131 : ∀ (H : Heap) (locs : List Loc) (ls : Array Slot) (st : CS) (v2 : Int32), HC g A s (wC g rt o st) H locs → lv_has ls 3 [(0, .ref (g.regs)), (2, .int v2)] → f_R_operate_131 st v2 = Rv → W p l e rm_R_operate s m args below meth c H locs 0 0 Q (F0 m 131 ls []) := by
    intro H locs ls st v2  hC hl he
    unfold f_R_operate_131 at he
    refine lv_aload_n (pc := 131) hx hb d_R_operate_131 rfl (lv_at hl 0 rfl) ?_
    refine lv_iload_n (pc := 132) hx hb d_R_operate_132 rfl (lv_at hl 1 rfl) ?_
    refine callVO (q0 := 3) (pc := 133) (As := [.int v2]) (rest := []) X (k_R_loadY l g rt o st v2) hC (NR_R_loadY_54 X rfl rfl ⟨by decide, by decide⟩) rfl rfl rfl hl.1 (Nat.le_of_ble_eq_true rfl) rfl d_R_operate_133 ⟨Nat.zero_le _, Nat.zero_le _⟩ (fun st18 H locs est18 hC => ?_)
    replace he := bS_go he est18
    exact B136 _ _ _ st18   hC (lv_sub hl [] rfl) he
  unfold f_R_operate at he
  refine lv_iload_n (pc := 0) hx hb d_R_operate_0 rfl (lv_at hl 1 rfl) ?_
  by_cases h1 : v1 = 0
  · replace he := if_go he h1
    refine lv_tableIn (pc := 1) (tgt := 52) hx hb d_R_operate_1 (by rw [h1]; decide) (by rw [h1]; decide) (by rw [h1]; rfl) (by decide) ?_
    refine lv_aload_n (pc := 52) hx hb d_R_operate_52 rfl (lv_at hl 0 rfl) ?_
    refine lv_iload_n (pc := 53) hx hb d_R_operate_53 rfl (lv_at hl 2 rfl) ?_
    refine callVO (q0 := 3) (pc := 54) (As := [.int v2]) (rest := []) X (k_R_loadA l g rt o st v2) hC (NR_R_loadA_39 X rfl rfl ⟨by decide, by decide⟩) rfl rfl rfl hl.1 (Nat.le_of_ble_eq_true rfl) rfl d_R_operate_54 ⟨Nat.zero_le _, Nat.zero_le _⟩ (fun st2 H locs est2 hC => ?_)
    replace he := bS_go he est2
    refine lv_goto (pc := 57) (tgt := 136) hx hb d_R_operate_57 (by decide) ?_
    exact B136 _ _ _ st2   hC (lv_sub hl [] rfl) he
  replace he := if_no he h1
  by_cases h3 : v1 = 1
  · replace he := if_go he h3
    refine lv_tableIn (pc := 1) (tgt := 131) hx hb d_R_operate_1 (by rw [h3]; decide) (by rw [h3]; decide) (by rw [h3]; rfl) (by decide) ?_
    exact B131 _ _ _ st v2  hC (lv_sub hl [0, 2] rfl) he
  replace he := if_no he h3
  by_cases h4 : v1 = 2
  · replace he := if_go he h4
    refine lv_tableIn (pc := 1) (tgt := 60) hx hb d_R_operate_1 (by rw [h4]; decide) (by rw [h4]; decide) (by rw [h4]; rfl) (by decide) ?_
    refine lv_aload_n (pc := 60) hx hb d_R_operate_60 rfl (lv_at hl 0 rfl) ?_
    refine lv_iload_n (pc := 61) hx hb d_R_operate_61 rfl (lv_at hl 2 rfl) ?_
    refine callVO (q0 := 3) (pc := 62) (As := [.int v2]) (rest := []) X (k_R_add l g rt o st v2) hC (NR_R_add_42 X rfl rfl ⟨by decide, by decide⟩) rfl rfl rfl hl.1 (Nat.le_of_ble_eq_true rfl) rfl d_R_operate_62 ⟨Nat.zero_le _, Nat.zero_le _⟩ (fun st5 H locs est5 hC => ?_)
    replace he := bS_go he est5
    refine lv_goto (pc := 65) (tgt := 136) hx hb d_R_operate_65 (by decide) ?_
    exact B136 _ _ _ st5   hC (lv_sub hl [] rfl) he
  replace he := if_no he h4
  by_cases h6 : v1 = 3
  · replace he := if_go he h6
    refine lv_tableIn (pc := 1) (tgt := 68) hx hb d_R_operate_1 (by rw [h6]; decide) (by rw [h6]; decide) (by rw [h6]; rfl) (by decide) ?_
    refine lv_aload_n (pc := 68) hx hb d_R_operate_68 rfl (lv_at hl 0 rfl) ?_
    refine lv_iload_n (pc := 69) hx hb d_R_operate_69 rfl (lv_at hl 2 rfl) ?_
    refine callVO (q0 := 3) (pc := 70) (As := [.int v2]) (rest := []) X (k_R_subtract l g rt o st v2) hC (NR_R_subtract_45 X rfl rfl ⟨by decide, by decide⟩) rfl rfl rfl hl.1 (Nat.le_of_ble_eq_true rfl) rfl d_R_operate_70 ⟨Nat.zero_le _, Nat.zero_le _⟩ (fun st7 H locs est7 hC => ?_)
    replace he := bS_go he est7
    refine lv_goto (pc := 73) (tgt := 136) hx hb d_R_operate_73 (by decide) ?_
    exact B136 _ _ _ st7   hC (lv_sub hl [] rfl) he
  replace he := if_no he h6
  by_cases h8 : v1 = 4
  · replace he := if_go he h8
    refine lv_tableIn (pc := 1) (tgt := 76) hx hb d_R_operate_1 (by rw [h8]; decide) (by rw [h8]; decide) (by rw [h8]; rfl) (by decide) ?_
    refine lv_aload_n (pc := 76) hx hb d_R_operate_76 rfl (lv_at hl 0 rfl) ?_
    refine lv_aload_n (pc := 77) hx hb d_R_operate_77 rfl (lv_at hl 0 rfl) ?_
    refine GR_a (pc := 78) X hC d_R_operate_78 ?_
    refine lv_iload_n (pc := 81) hx hb d_R_operate_81 rfl (lv_at hl 2 rfl) ?_
    refine lv_iand (pc := 82) hx hb d_R_operate_82 ?_
    refine callVO (q0 := 3) (pc := 83) (As := [.int ((st.1 0) &&& v2)]) (rest := []) X (k_R_loadA l g rt o st ((st.1 0) &&& v2)) hC (NR_R_loadA_39 X rfl rfl ⟨by decide, by decide⟩) rfl rfl rfl hl.1 (Nat.le_of_ble_eq_true rfl) rfl d_R_operate_83 ⟨Nat.zero_le _, Nat.zero_le _⟩ (fun st9 H locs est9 hC => ?_)
    replace he := bS_go he est9
    refine lv_goto (pc := 86) (tgt := 136) hx hb d_R_operate_86 (by decide) ?_
    exact B136 _ _ _ st9   hC (lv_sub hl [] rfl) he
  replace he := if_no he h8
  by_cases h10 : v1 = 5
  · replace he := if_go he h10
    refine lv_tableIn (pc := 1) (tgt := 89) hx hb d_R_operate_1 (by rw [h10]; decide) (by rw [h10]; decide) (by rw [h10]; rfl) (by decide) ?_
    refine lv_aload_n (pc := 89) hx hb d_R_operate_89 rfl (lv_at hl 0 rfl) ?_
    refine lv_aload_n (pc := 90) hx hb d_R_operate_90 rfl (lv_at hl 0 rfl) ?_
    refine GR_a (pc := 91) X hC d_R_operate_91 ?_
    refine lv_iload_n (pc := 94) hx hb d_R_operate_94 rfl (lv_at hl 2 rfl) ?_
    refine lv_ior (pc := 95) hx hb d_R_operate_95 ?_
    refine callVO (q0 := 3) (pc := 96) (As := [.int ((st.1 0) ||| v2)]) (rest := []) X (k_R_loadA l g rt o st ((st.1 0) ||| v2)) hC (NR_R_loadA_39 X rfl rfl ⟨by decide, by decide⟩) rfl rfl rfl hl.1 (Nat.le_of_ble_eq_true rfl) rfl d_R_operate_96 ⟨Nat.zero_le _, Nat.zero_le _⟩ (fun st11 H locs est11 hC => ?_)
    replace he := bS_go he est11
    refine lv_goto (pc := 99) (tgt := 136) hx hb d_R_operate_99 (by decide) ?_
    exact B136 _ _ _ st11   hC (lv_sub hl [] rfl) he
  replace he := if_no he h10
  by_cases h12 : v1 = 6
  · replace he := if_go he h12
    refine lv_tableIn (pc := 1) (tgt := 102) hx hb d_R_operate_1 (by rw [h12]; decide) (by rw [h12]; decide) (by rw [h12]; rfl) (by decide) ?_
    refine lv_aload_n (pc := 102) hx hb d_R_operate_102 rfl (lv_at hl 0 rfl) ?_
    refine lv_aload_n (pc := 103) hx hb d_R_operate_103 rfl (lv_at hl 0 rfl) ?_
    refine GR_a (pc := 104) X hC d_R_operate_104 ?_
    refine lv_iload_n (pc := 107) hx hb d_R_operate_107 rfl (lv_at hl 2 rfl) ?_
    refine lv_ixor (pc := 108) hx hb d_R_operate_108 ?_
    refine callVO (q0 := 3) (pc := 109) (As := [.int ((st.1 0) ^^^ v2)]) (rest := []) X (k_R_loadA l g rt o st ((st.1 0) ^^^ v2)) hC (NR_R_loadA_39 X rfl rfl ⟨by decide, by decide⟩) rfl rfl rfl hl.1 (Nat.le_of_ble_eq_true rfl) rfl d_R_operate_109 ⟨Nat.zero_le _, Nat.zero_le _⟩ (fun st13 H locs est13 hC => ?_)
    replace he := bS_go he est13
    refine lv_goto (pc := 112) (tgt := 136) hx hb d_R_operate_112 (by decide) ?_
    exact B136 _ _ _ st13   hC (lv_sub hl [] rfl) he
  replace he := if_no he h12
  by_cases h14 : v1 = 7
  · replace he := if_go he h14
    refine lv_tableIn (pc := 1) (tgt := 115) hx hb d_R_operate_1 (by rw [h14]; decide) (by rw [h14]; decide) (by rw [h14]; rfl) (by decide) ?_
    refine lv_aload_n (pc := 115) hx hb d_R_operate_115 rfl (lv_at hl 0 rfl) ?_
    refine lv_iload_n (pc := 116) hx hb d_R_operate_116 rfl (lv_at hl 2 rfl) ?_
    refine callVO (q0 := 3) (pc := 117) (As := [.int v2]) (rest := []) X (k_R_compare l g rt o st v2) hC (NR_R_compare_48 X rfl rfl ⟨by decide, by decide⟩) rfl rfl rfl hl.1 (Nat.le_of_ble_eq_true rfl) rfl d_R_operate_117 ⟨Nat.zero_le _, Nat.zero_le _⟩ (fun st15 H locs est15 hC => ?_)
    replace he := bS_go he est15
    refine lv_goto (pc := 120) (tgt := 136) hx hb d_R_operate_120 (by decide) ?_
    exact B136 _ _ _ st15   hC (lv_sub hl [] rfl) he
  replace he := if_no he h14
  by_cases h16 : v1 = 8
  · replace he := if_go he h16
    refine lv_tableIn (pc := 1) (tgt := 123) hx hb d_R_operate_1 (by rw [h16]; decide) (by rw [h16]; decide) (by rw [h16]; rfl) (by decide) ?_
    refine lv_aload_n (pc := 123) hx hb d_R_operate_123 rfl (lv_at hl 0 rfl) ?_
    refine lv_iload_n (pc := 124) hx hb d_R_operate_124 rfl (lv_at hl 2 rfl) ?_
    refine callVO (q0 := 3) (pc := 125) (As := [.int v2]) (rest := []) X (k_R_loadX l g rt o st v2) hC (NR_R_loadX_51 X rfl rfl ⟨by decide, by decide⟩) rfl rfl rfl hl.1 (Nat.le_of_ble_eq_true rfl) rfl d_R_operate_125 ⟨Nat.zero_le _, Nat.zero_le _⟩ (fun st17 H locs est17 hC => ?_)
    replace he := bS_go he est17
    refine lv_goto (pc := 128) (tgt := 136) hx hb d_R_operate_128 (by decide) ?_
    exact B136 _ _ _ st17   hC (lv_sub hl [] rfl) he
  replace he := if_no he h16
  refine lv_tableOut (pc := 1) (tgt := 131) hx hb d_R_operate_1 (by have nh1 := lv_neT (a := 0) h1 (by decide); have nh3 := lv_neT (a := 1) h3 (by decide); have nh4 := lv_neT (a := 2) h4 (by decide); have nh6 := lv_neT (a := 3) h6 (by decide); have nh8 := lv_neT (a := 4) h8 (by decide); have nh10 := lv_neT (a := 5) h10 (by decide); have nh12 := lv_neT (a := 6) h12 (by decide); have nh14 := lv_neT (a := 7) h14 (by decide); have nh16 := lv_neT (a := 8) h16 (by decide); omega) (by decide) ?_
  exact B131 _ _ _ st v2  hC (lv_sub hl [0, 2] rfl) he
def f_R_takesBranch_112 (st : CS) (s0 : Int32) : Int32 × CS := (s0, st)
def f_R_takesBranch_12 (st : CS) (v1 : Int32) (s0 : Int32) : Int32 × CS := if ((v1 - 16) >>> ((1 : Int32) &&& 31)) = 0 then (bP (f_R_has st 128) (fun r4 st3 => if r4 = s0 then (f_R_takesBranch_112 st3 1) else (f_R_takesBranch_112 st3 0))) else (if ((v1 - 16) >>> ((1 : Int32) &&& 31)) = 1 then (bP (f_R_has st 64) (fun r8 st7 => if r8 = s0 then (f_R_takesBranch_112 st7 1) else (f_R_takesBranch_112 st7 0))) else (if ((v1 - 16) >>> ((1 : Int32) &&& 31)) = 2 then (bP (f_R_has st 1) (fun r12 st11 => if r12 = s0 then (f_R_takesBranch_112 st11 1) else (f_R_takesBranch_112 st11 0))) else (bP (f_R_has st 2) (fun r15 st14 => if r15 = s0 then (f_R_takesBranch_112 st14 1) else (f_R_takesBranch_112 st14 0)))))
def f_R_takesBranch (st : CS) (v1 : Int32) : Int32 × CS := if (v1 &&& 1) = 1 then (f_R_takesBranch_12 st v1 1) else (f_R_takesBranch_12 st v1 0)
abbrev rm_R_takesBranch : Room := { frames := 1, cells := 0, slots := 0, locals := 21 }
set_option maxHeartbeats 4000000 in
set_option maxRecDepth 100000 in
theorem k_R_takesBranch (l : Launch) (g : CG) (rt : MS) (o : Nat → Int64) (st : CS) (v1 : Int32) : KZ l g y_R_takesBranch (Cond.code y_R_takesBranch c_R_takesBranch 3 (some .boolean) :: ALL) rm_R_takesBranch [.ref (g.regs), .int v1] (wC g rt o) st (f_R_takesBranch st v1) := by
  refine KZ.ofW (by decide) (Nat.le_of_ble_eq_true rfl) ?_
  intro p e s m args below meth c A Q ls Rv X he RET hC hl
  obtain ⟨hx, hb⟩ := FX_xb X
  have hl : lv_has ls 3 [(0, .ref (g.regs)), (1, .int v1)] := hl
  have B112 : ∀ (H : Heap) (locs : List Loc) (ls : Array Slot) (st : CS) (s0 : Int32) (hs0 : s0 = 0 ∨ s0 = 1), HC g A s (wC g rt o st) H locs → lv_has ls 3 [] → f_R_takesBranch_112 st s0 = Rv → W p l e rm_R_takesBranch s m args below meth c H locs 0 0 Q (F0 m 112 ls [.int s0]) := by
    intro H locs ls st s0 hs0 hC hl he
    unfold f_R_takesBranch_112 at he
    exact RET (pc := 112) d_R_takesBranch_112 hs0 hC he
  have B12 : ∀ (H : Heap) (locs : List Loc) (ls : Array Slot) (st : CS) (v1 : Int32) (s0 : Int32) (hs0 : s0 = 0 ∨ s0 = 1), HC g A s (wC g rt o st) H locs → lv_has ls 3 [(0, .ref (g.regs)), (1, .int v1)] → f_R_takesBranch_12 st v1 s0 = Rv → W p l e rm_R_takesBranch s m args below meth c H locs 0 0 Q (F0 m 12 ls [.int s0]) := by
    intro H locs ls st v1 s0 hs0 hC hl he
    unfold f_R_takesBranch_12 at he
    refine lv_istore_n (pc := 12) (nL := 3) (lv' := [(2, .int s0), (0, .ref (g.regs)), (1, .int v1)]) hx hb d_R_takesBranch_12 rfl hl (by decide) rfl (fun ls hl => ?_)
    refine lv_iload_n (pc := 13) hx hb d_R_takesBranch_13 rfl (lv_at hl 2 rfl) ?_
    refine lv_bipush (pc := 14) (v := 16) hx hb d_R_takesBranch_14 (by decide) ?_
    refine lv_isub (pc := 16) hx hb d_R_takesBranch_16 ?_
    refine lv_iconst (pc := 17) (v := 1) hx hb d_R_takesBranch_17 (by decide) ?_
    refine lv_ishr (pc := 18) hx hb d_R_takesBranch_18 ?_
    by_cases h2 : ((v1 - 16) >>> ((1 : Int32) &&& 31)) = 0
    · replace he := if_go he h2
      refine lv_tableIn (pc := 19) (tgt := 44) hx hb d_R_takesBranch_19 (by rw [h2]; decide) (by rw [h2]; decide) (by rw [h2]; rfl) (by decide) ?_
      refine lv_aload_n (pc := 44) hx hb d_R_takesBranch_44 rfl (lv_at hl 1 rfl) ?_
      refine lv_sipush (pc := 45) (v := 128) hx hb d_R_takesBranch_45 (by decide) ?_
      refine callZO (q0 := 3) (pc := 48) (As := [.int 128]) (rest := []) X (k_R_has l g rt o st 128) hC (NR_R_has_35 X rfl rfl ⟨by decide, by decide⟩) rfl rfl rfl hl.1 (Nat.le_of_ble_eq_true rfl) rfl d_R_takesBranch_48 ⟨Nat.zero_le _, Nat.zero_le _⟩ (fun r4 st3 H locs est3 br4 hC => ?_)
      replace he := bP_go he est3
      refine lv_iload_n (pc := 51) hx hb d_R_takesBranch_51 rfl (lv_at hl 0 rfl) ?_
      refine lv_icmp_ne (pc := 52) (tgt := 59) hx hb d_R_takesBranch_52 (by decide) (fun h5 => ?_) (fun h5 => ?_)
      · replace he := if_no he h5
        refine lv_iconst (pc := 59) (v := 0) hx hb d_R_takesBranch_59 (by decide) ?_
        refine lv_goto (pc := 60) (tgt := 112) hx hb d_R_takesBranch_60 (by decide) ?_
        exact B112 _ _ _ st3 0 b0 hC (lv_sub hl [] rfl) he
      replace he := if_go he h5
      refine lv_iconst (pc := 55) (v := 1) hx hb d_R_takesBranch_55 (by decide) ?_
      refine lv_goto (pc := 56) (tgt := 112) hx hb d_R_takesBranch_56 (by decide) ?_
      exact B112 _ _ _ st3 1 b1 hC (lv_sub hl [] rfl) he
    replace he := if_no he h2
    by_cases h6 : ((v1 - 16) >>> ((1 : Int32) &&& 31)) = 1
    · replace he := if_go he h6
      refine lv_tableIn (pc := 19) (tgt := 63) hx hb d_R_takesBranch_19 (by rw [h6]; decide) (by rw [h6]; decide) (by rw [h6]; rfl) (by decide) ?_
      refine lv_aload_n (pc := 63) hx hb d_R_takesBranch_63 rfl (lv_at hl 1 rfl) ?_
      refine lv_bipush (pc := 64) (v := 64) hx hb d_R_takesBranch_64 (by decide) ?_
      refine callZO (q0 := 3) (pc := 66) (As := [.int 64]) (rest := []) X (k_R_has l g rt o st 64) hC (NR_R_has_35 X rfl rfl ⟨by decide, by decide⟩) rfl rfl rfl hl.1 (Nat.le_of_ble_eq_true rfl) rfl d_R_takesBranch_66 ⟨Nat.zero_le _, Nat.zero_le _⟩ (fun r8 st7 H locs est7 br8 hC => ?_)
      replace he := bP_go he est7
      refine lv_iload_n (pc := 69) hx hb d_R_takesBranch_69 rfl (lv_at hl 0 rfl) ?_
      refine lv_icmp_ne (pc := 70) (tgt := 77) hx hb d_R_takesBranch_70 (by decide) (fun h9 => ?_) (fun h9 => ?_)
      · replace he := if_no he h9
        refine lv_iconst (pc := 77) (v := 0) hx hb d_R_takesBranch_77 (by decide) ?_
        refine lv_goto (pc := 78) (tgt := 112) hx hb d_R_takesBranch_78 (by decide) ?_
        exact B112 _ _ _ st7 0 b0 hC (lv_sub hl [] rfl) he
      replace he := if_go he h9
      refine lv_iconst (pc := 73) (v := 1) hx hb d_R_takesBranch_73 (by decide) ?_
      refine lv_goto (pc := 74) (tgt := 112) hx hb d_R_takesBranch_74 (by decide) ?_
      exact B112 _ _ _ st7 1 b1 hC (lv_sub hl [] rfl) he
    replace he := if_no he h6
    by_cases h10 : ((v1 - 16) >>> ((1 : Int32) &&& 31)) = 2
    · replace he := if_go he h10
      refine lv_tableIn (pc := 19) (tgt := 81) hx hb d_R_takesBranch_19 (by rw [h10]; decide) (by rw [h10]; decide) (by rw [h10]; rfl) (by decide) ?_
      refine lv_aload_n (pc := 81) hx hb d_R_takesBranch_81 rfl (lv_at hl 1 rfl) ?_
      refine lv_iconst (pc := 82) (v := 1) hx hb d_R_takesBranch_82 (by decide) ?_
      refine callZO (q0 := 3) (pc := 83) (As := [.int 1]) (rest := []) X (k_R_has l g rt o st 1) hC (NR_R_has_35 X rfl rfl ⟨by decide, by decide⟩) rfl rfl rfl hl.1 (Nat.le_of_ble_eq_true rfl) rfl d_R_takesBranch_83 ⟨Nat.zero_le _, Nat.zero_le _⟩ (fun r12 st11 H locs est11 br12 hC => ?_)
      replace he := bP_go he est11
      refine lv_iload_n (pc := 86) hx hb d_R_takesBranch_86 rfl (lv_at hl 0 rfl) ?_
      refine lv_icmp_ne (pc := 87) (tgt := 94) hx hb d_R_takesBranch_87 (by decide) (fun h13 => ?_) (fun h13 => ?_)
      · replace he := if_no he h13
        refine lv_iconst (pc := 94) (v := 0) hx hb d_R_takesBranch_94 (by decide) ?_
        refine lv_goto (pc := 95) (tgt := 112) hx hb d_R_takesBranch_95 (by decide) ?_
        exact B112 _ _ _ st11 0 b0 hC (lv_sub hl [] rfl) he
      replace he := if_go he h13
      refine lv_iconst (pc := 90) (v := 1) hx hb d_R_takesBranch_90 (by decide) ?_
      refine lv_goto (pc := 91) (tgt := 112) hx hb d_R_takesBranch_91 (by decide) ?_
      exact B112 _ _ _ st11 1 b1 hC (lv_sub hl [] rfl) he
    replace he := if_no he h10
    refine lv_tableOut (pc := 19) (tgt := 98) hx hb d_R_takesBranch_19 (by have nh2 := lv_neT (a := 0) h2 (by decide); have nh6 := lv_neT (a := 1) h6 (by decide); have nh10 := lv_neT (a := 2) h10 (by decide); omega) (by decide) ?_
    refine lv_aload_n (pc := 98) hx hb d_R_takesBranch_98 rfl (lv_at hl 1 rfl) ?_
    refine lv_iconst (pc := 99) (v := 2) hx hb d_R_takesBranch_99 (by decide) ?_
    refine callZO (q0 := 3) (pc := 100) (As := [.int 2]) (rest := []) X (k_R_has l g rt o st 2) hC (NR_R_has_35 X rfl rfl ⟨by decide, by decide⟩) rfl rfl rfl hl.1 (Nat.le_of_ble_eq_true rfl) rfl d_R_takesBranch_100 ⟨Nat.zero_le _, Nat.zero_le _⟩ (fun r15 st14 H locs est14 br15 hC => ?_)
    replace he := bP_go he est14
    refine lv_iload_n (pc := 103) hx hb d_R_takesBranch_103 rfl (lv_at hl 0 rfl) ?_
    refine lv_icmp_ne (pc := 104) (tgt := 111) hx hb d_R_takesBranch_104 (by decide) (fun h16 => ?_) (fun h16 => ?_)
    · replace he := if_no he h16
      refine lv_iconst (pc := 111) (v := 0) hx hb d_R_takesBranch_111 (by decide) ?_
      exact B112 _ _ _ st14 0 b0 hC (lv_sub hl [] rfl) he
    replace he := if_go he h16
    refine lv_iconst (pc := 107) (v := 1) hx hb d_R_takesBranch_107 (by decide) ?_
    refine lv_goto (pc := 108) (tgt := 112) hx hb d_R_takesBranch_108 (by decide) ?_
    exact B112 _ _ _ st14 1 b1 hC (lv_sub hl [] rfl) he
  unfold f_R_takesBranch at he
  refine lv_iload_n (pc := 0) hx hb d_R_takesBranch_0 rfl (lv_at hl 1 rfl) ?_
  refine lv_iconst (pc := 1) (v := 1) hx hb d_R_takesBranch_1 (by decide) ?_
  refine lv_iand (pc := 2) hx hb d_R_takesBranch_2 ?_
  refine lv_iconst (pc := 3) (v := 1) hx hb d_R_takesBranch_3 (by decide) ?_
  refine lv_icmp_ne (pc := 4) (tgt := 11) hx hb d_R_takesBranch_4 (by decide) (fun h1 => ?_) (fun h1 => ?_)
  · replace he := if_no he h1
    refine lv_iconst (pc := 11) (v := 0) hx hb d_R_takesBranch_11 (by decide) ?_
    exact B12 _ _ _ st v1 0 b0 hC (lv_sub hl [0, 1] rfl) he
  replace he := if_go he h1
  refine lv_iconst (pc := 7) (v := 1) hx hb d_R_takesBranch_7 (by decide) ?_
  refine lv_goto (pc := 8) (tgt := 12) hx hb d_R_takesBranch_8 (by decide) ?_
  exact B12 _ _ _ st v1 1 b1 hC (lv_sub hl [0, 1] rfl) he
def f_R_operateAlone_239 (st : CS)  : CS := st
def f_R_operateAlone (st : CS) (v1 : Int32) : CS := if v1 = 1 then (bS (f_R_loadX st ((st.1 1) + 1)) (fun st2 => f_R_operateAlone_239 st2 )) else (if v1 = 2 then (bS (f_R_loadX st ((st.1 1) - 1)) (fun st4 => f_R_operateAlone_239 st4 )) else (if v1 = 3 then (bS (f_R_loadY st ((st.1 2) + 1)) (fun st6 => f_R_operateAlone_239 st6 )) else (if v1 = 4 then (bS (f_R_loadY st ((st.1 2) - 1)) (fun st8 => f_R_operateAlone_239 st8 )) else (if v1 = 5 then (bS (f_R_loadX st (st.1 0)) (fun st10 => f_R_operateAlone_239 st10 )) else (if v1 = 6 then (bS (f_R_loadA st (st.1 1)) (fun st12 => f_R_operateAlone_239 st12 )) else (if v1 = 7 then (bS (f_R_loadY st (st.1 0)) (fun st14 => f_R_operateAlone_239 st14 )) else (if v1 = 8 then (bS (f_R_loadA st (st.1 2)) (fun st16 => f_R_operateAlone_239 st16 )) else (if v1 = 9 then (bS (f_R_put st 1 0) (fun st18 => f_R_operateAlone_239 st18 )) else (if v1 = 10 then (bS (f_R_put st 1 1) (fun st20 => f_R_operateAlone_239 st20 )) else (if v1 = 11 then (bS (f_R_put st 4 0) (fun st22 => f_R_operateAlone_239 st22 )) else (if v1 = 12 then (bS (f_R_put st 4 1) (fun st24 => f_R_operateAlone_239 st24 )) else (if v1 = 13 then (bS (f_R_put st 8 0) (fun st26 => f_R_operateAlone_239 st26 )) else (if v1 = 14 then (bS (f_R_put st 8 1) (fun st28 => f_R_operateAlone_239 st28 )) else (if v1 = 15 then (bS (sV st 3 (st.1 1)) (fun st30 => f_R_operateAlone_239 st30 )) else (f_R_operateAlone_239 st )))))))))))))))
abbrev rm_R_operateAlone : Room := { frames := 2, cells := 0, slots := 0, locals := 43 }
set_option maxHeartbeats 4000000 in
set_option maxRecDepth 100000 in
theorem k_R_operateAlone (l : Launch) (g : CG) (rt : MS) (o : Nat → Int64) (st : CS) (v1 : Int32) : KV l g y_R_operateAlone (Cond.code y_R_operateAlone c_R_operateAlone 2 none :: ALL) rm_R_operateAlone [.ref (g.regs), .int v1] (wC g rt o) st (f_R_operateAlone st v1) := by
  refine KV.ofW (by decide) (Nat.le_of_ble_eq_true rfl) ?_
  intro p e s m args below meth c A Q ls Rv X he RET hC hl
  obtain ⟨hx, hb⟩ := FX_xb X
  have hl : lv_has ls 2 [(0, .ref (g.regs)), (1, .int v1)] := hl
  have B239 : ∀ (H : Heap) (locs : List Loc) (ls : Array Slot) (st : CS) , HC g A s (wC g rt o st) H locs → lv_has ls 2 [] → f_R_operateAlone_239 st  = Rv → W p l e rm_R_operateAlone s m args below meth c H locs 0 0 Q (F0 m 239 ls []) := by
    intro H locs ls st   hC hl he
    unfold f_R_operateAlone_239 at he
    exact RET (pc := 239) d_R_operateAlone_239 hC he
  unfold f_R_operateAlone at he
  refine lv_iload_n (pc := 0) hx hb d_R_operateAlone_0 rfl (lv_at hl 1 rfl) ?_
  by_cases h1 : v1 = 1
  · replace he := if_go he h1
    refine lv_tableIn (pc := 1) (tgt := 76) hx hb d_R_operateAlone_1 (by rw [h1]; decide) (by rw [h1]; decide) (by rw [h1]; rfl) (by decide) ?_
    refine lv_aload_n (pc := 76) hx hb d_R_operateAlone_76 rfl (lv_at hl 0 rfl) ?_
    refine lv_aload_n (pc := 77) hx hb d_R_operateAlone_77 rfl (lv_at hl 0 rfl) ?_
    refine GR_x (pc := 78) X hC d_R_operateAlone_78 ?_
    refine lv_iconst (pc := 81) (v := 1) hx hb d_R_operateAlone_81 (by decide) ?_
    refine lv_iadd (pc := 82) hx hb d_R_operateAlone_82 ?_
    refine callVO (q0 := 3) (pc := 83) (As := [.int ((st.1 1) + 1)]) (rest := []) X (k_R_loadX l g rt o st ((st.1 1) + 1)) hC (NR_R_loadX_51 X rfl rfl ⟨by decide, by decide⟩) rfl rfl rfl hl.1 (Nat.le_of_ble_eq_true rfl) rfl d_R_operateAlone_83 ⟨Nat.zero_le _, Nat.zero_le _⟩ (fun st2 H locs est2 hC => ?_)
    replace he := bS_go he est2
    refine lv_goto (pc := 86) (tgt := 239) hx hb d_R_operateAlone_86 (by decide) ?_
    exact B239 _ _ _ st2   hC (lv_sub hl [] rfl) he
  replace he := if_no he h1
  by_cases h3 : v1 = 2
  · replace he := if_go he h3
    refine lv_tableIn (pc := 1) (tgt := 89) hx hb d_R_operateAlone_1 (by rw [h3]; decide) (by rw [h3]; decide) (by rw [h3]; rfl) (by decide) ?_
    refine lv_aload_n (pc := 89) hx hb d_R_operateAlone_89 rfl (lv_at hl 0 rfl) ?_
    refine lv_aload_n (pc := 90) hx hb d_R_operateAlone_90 rfl (lv_at hl 0 rfl) ?_
    refine GR_x (pc := 91) X hC d_R_operateAlone_91 ?_
    refine lv_iconst (pc := 94) (v := 1) hx hb d_R_operateAlone_94 (by decide) ?_
    refine lv_isub (pc := 95) hx hb d_R_operateAlone_95 ?_
    refine callVO (q0 := 3) (pc := 96) (As := [.int ((st.1 1) - 1)]) (rest := []) X (k_R_loadX l g rt o st ((st.1 1) - 1)) hC (NR_R_loadX_51 X rfl rfl ⟨by decide, by decide⟩) rfl rfl rfl hl.1 (Nat.le_of_ble_eq_true rfl) rfl d_R_operateAlone_96 ⟨Nat.zero_le _, Nat.zero_le _⟩ (fun st4 H locs est4 hC => ?_)
    replace he := bS_go he est4
    refine lv_goto (pc := 99) (tgt := 239) hx hb d_R_operateAlone_99 (by decide) ?_
    exact B239 _ _ _ st4   hC (lv_sub hl [] rfl) he
  replace he := if_no he h3
  by_cases h5 : v1 = 3
  · replace he := if_go he h5
    refine lv_tableIn (pc := 1) (tgt := 102) hx hb d_R_operateAlone_1 (by rw [h5]; decide) (by rw [h5]; decide) (by rw [h5]; rfl) (by decide) ?_
    refine lv_aload_n (pc := 102) hx hb d_R_operateAlone_102 rfl (lv_at hl 0 rfl) ?_
    refine lv_aload_n (pc := 103) hx hb d_R_operateAlone_103 rfl (lv_at hl 0 rfl) ?_
    refine GR_y (pc := 104) X hC d_R_operateAlone_104 ?_
    refine lv_iconst (pc := 107) (v := 1) hx hb d_R_operateAlone_107 (by decide) ?_
    refine lv_iadd (pc := 108) hx hb d_R_operateAlone_108 ?_
    refine callVO (q0 := 3) (pc := 109) (As := [.int ((st.1 2) + 1)]) (rest := []) X (k_R_loadY l g rt o st ((st.1 2) + 1)) hC (NR_R_loadY_54 X rfl rfl ⟨by decide, by decide⟩) rfl rfl rfl hl.1 (Nat.le_of_ble_eq_true rfl) rfl d_R_operateAlone_109 ⟨Nat.zero_le _, Nat.zero_le _⟩ (fun st6 H locs est6 hC => ?_)
    replace he := bS_go he est6
    refine lv_goto (pc := 112) (tgt := 239) hx hb d_R_operateAlone_112 (by decide) ?_
    exact B239 _ _ _ st6   hC (lv_sub hl [] rfl) he
  replace he := if_no he h5
  by_cases h7 : v1 = 4
  · replace he := if_go he h7
    refine lv_tableIn (pc := 1) (tgt := 115) hx hb d_R_operateAlone_1 (by rw [h7]; decide) (by rw [h7]; decide) (by rw [h7]; rfl) (by decide) ?_
    refine lv_aload_n (pc := 115) hx hb d_R_operateAlone_115 rfl (lv_at hl 0 rfl) ?_
    refine lv_aload_n (pc := 116) hx hb d_R_operateAlone_116 rfl (lv_at hl 0 rfl) ?_
    refine GR_y (pc := 117) X hC d_R_operateAlone_117 ?_
    refine lv_iconst (pc := 120) (v := 1) hx hb d_R_operateAlone_120 (by decide) ?_
    refine lv_isub (pc := 121) hx hb d_R_operateAlone_121 ?_
    refine callVO (q0 := 3) (pc := 122) (As := [.int ((st.1 2) - 1)]) (rest := []) X (k_R_loadY l g rt o st ((st.1 2) - 1)) hC (NR_R_loadY_54 X rfl rfl ⟨by decide, by decide⟩) rfl rfl rfl hl.1 (Nat.le_of_ble_eq_true rfl) rfl d_R_operateAlone_122 ⟨Nat.zero_le _, Nat.zero_le _⟩ (fun st8 H locs est8 hC => ?_)
    replace he := bS_go he est8
    refine lv_goto (pc := 125) (tgt := 239) hx hb d_R_operateAlone_125 (by decide) ?_
    exact B239 _ _ _ st8   hC (lv_sub hl [] rfl) he
  replace he := if_no he h7
  by_cases h9 : v1 = 5
  · replace he := if_go he h9
    refine lv_tableIn (pc := 1) (tgt := 128) hx hb d_R_operateAlone_1 (by rw [h9]; decide) (by rw [h9]; decide) (by rw [h9]; rfl) (by decide) ?_
    refine lv_aload_n (pc := 128) hx hb d_R_operateAlone_128 rfl (lv_at hl 0 rfl) ?_
    refine lv_aload_n (pc := 129) hx hb d_R_operateAlone_129 rfl (lv_at hl 0 rfl) ?_
    refine GR_a (pc := 130) X hC d_R_operateAlone_130 ?_
    refine callVO (q0 := 3) (pc := 133) (As := [.int (st.1 0)]) (rest := []) X (k_R_loadX l g rt o st (st.1 0)) hC (NR_R_loadX_51 X rfl rfl ⟨by decide, by decide⟩) rfl rfl rfl hl.1 (Nat.le_of_ble_eq_true rfl) rfl d_R_operateAlone_133 ⟨Nat.zero_le _, Nat.zero_le _⟩ (fun st10 H locs est10 hC => ?_)
    replace he := bS_go he est10
    refine lv_goto (pc := 136) (tgt := 239) hx hb d_R_operateAlone_136 (by decide) ?_
    exact B239 _ _ _ st10   hC (lv_sub hl [] rfl) he
  replace he := if_no he h9
  by_cases h11 : v1 = 6
  · replace he := if_go he h11
    refine lv_tableIn (pc := 1) (tgt := 139) hx hb d_R_operateAlone_1 (by rw [h11]; decide) (by rw [h11]; decide) (by rw [h11]; rfl) (by decide) ?_
    refine lv_aload_n (pc := 139) hx hb d_R_operateAlone_139 rfl (lv_at hl 0 rfl) ?_
    refine lv_aload_n (pc := 140) hx hb d_R_operateAlone_140 rfl (lv_at hl 0 rfl) ?_
    refine GR_x (pc := 141) X hC d_R_operateAlone_141 ?_
    refine callVO (q0 := 3) (pc := 144) (As := [.int (st.1 1)]) (rest := []) X (k_R_loadA l g rt o st (st.1 1)) hC (NR_R_loadA_39 X rfl rfl ⟨by decide, by decide⟩) rfl rfl rfl hl.1 (Nat.le_of_ble_eq_true rfl) rfl d_R_operateAlone_144 ⟨Nat.zero_le _, Nat.zero_le _⟩ (fun st12 H locs est12 hC => ?_)
    replace he := bS_go he est12
    refine lv_goto (pc := 147) (tgt := 239) hx hb d_R_operateAlone_147 (by decide) ?_
    exact B239 _ _ _ st12   hC (lv_sub hl [] rfl) he
  replace he := if_no he h11
  by_cases h13 : v1 = 7
  · replace he := if_go he h13
    refine lv_tableIn (pc := 1) (tgt := 150) hx hb d_R_operateAlone_1 (by rw [h13]; decide) (by rw [h13]; decide) (by rw [h13]; rfl) (by decide) ?_
    refine lv_aload_n (pc := 150) hx hb d_R_operateAlone_150 rfl (lv_at hl 0 rfl) ?_
    refine lv_aload_n (pc := 151) hx hb d_R_operateAlone_151 rfl (lv_at hl 0 rfl) ?_
    refine GR_a (pc := 152) X hC d_R_operateAlone_152 ?_
    refine callVO (q0 := 3) (pc := 155) (As := [.int (st.1 0)]) (rest := []) X (k_R_loadY l g rt o st (st.1 0)) hC (NR_R_loadY_54 X rfl rfl ⟨by decide, by decide⟩) rfl rfl rfl hl.1 (Nat.le_of_ble_eq_true rfl) rfl d_R_operateAlone_155 ⟨Nat.zero_le _, Nat.zero_le _⟩ (fun st14 H locs est14 hC => ?_)
    replace he := bS_go he est14
    refine lv_goto (pc := 158) (tgt := 239) hx hb d_R_operateAlone_158 (by decide) ?_
    exact B239 _ _ _ st14   hC (lv_sub hl [] rfl) he
  replace he := if_no he h13
  by_cases h15 : v1 = 8
  · replace he := if_go he h15
    refine lv_tableIn (pc := 1) (tgt := 161) hx hb d_R_operateAlone_1 (by rw [h15]; decide) (by rw [h15]; decide) (by rw [h15]; rfl) (by decide) ?_
    refine lv_aload_n (pc := 161) hx hb d_R_operateAlone_161 rfl (lv_at hl 0 rfl) ?_
    refine lv_aload_n (pc := 162) hx hb d_R_operateAlone_162 rfl (lv_at hl 0 rfl) ?_
    refine GR_y (pc := 163) X hC d_R_operateAlone_163 ?_
    refine callVO (q0 := 3) (pc := 166) (As := [.int (st.1 2)]) (rest := []) X (k_R_loadA l g rt o st (st.1 2)) hC (NR_R_loadA_39 X rfl rfl ⟨by decide, by decide⟩) rfl rfl rfl hl.1 (Nat.le_of_ble_eq_true rfl) rfl d_R_operateAlone_166 ⟨Nat.zero_le _, Nat.zero_le _⟩ (fun st16 H locs est16 hC => ?_)
    replace he := bS_go he est16
    refine lv_goto (pc := 169) (tgt := 239) hx hb d_R_operateAlone_169 (by decide) ?_
    exact B239 _ _ _ st16   hC (lv_sub hl [] rfl) he
  replace he := if_no he h15
  by_cases h17 : v1 = 9
  · replace he := if_go he h17
    refine lv_tableIn (pc := 1) (tgt := 172) hx hb d_R_operateAlone_1 (by rw [h17]; decide) (by rw [h17]; decide) (by rw [h17]; rfl) (by decide) ?_
    refine lv_aload_n (pc := 172) hx hb d_R_operateAlone_172 rfl (lv_at hl 0 rfl) ?_
    refine lv_iconst (pc := 173) (v := 1) hx hb d_R_operateAlone_173 (by decide) ?_
    refine lv_iconst (pc := 174) (v := 0) hx hb d_R_operateAlone_174 (by decide) ?_
    refine callVO (q0 := 3) (pc := 175) (As := [.int 1, .int 0]) (rest := []) X (k_R_put l g rt o st 1 0) hC (NR_R_put_57 X rfl rfl ⟨by decide, by decide⟩) rfl rfl rfl hl.1 (Nat.le_of_ble_eq_true rfl) rfl d_R_operateAlone_175 ⟨Nat.zero_le _, Nat.zero_le _⟩ (fun st18 H locs est18 hC => ?_)
    replace he := bS_go he est18
    refine lv_goto (pc := 178) (tgt := 239) hx hb d_R_operateAlone_178 (by decide) ?_
    exact B239 _ _ _ st18   hC (lv_sub hl [] rfl) he
  replace he := if_no he h17
  by_cases h19 : v1 = 10
  · replace he := if_go he h19
    refine lv_tableIn (pc := 1) (tgt := 181) hx hb d_R_operateAlone_1 (by rw [h19]; decide) (by rw [h19]; decide) (by rw [h19]; rfl) (by decide) ?_
    refine lv_aload_n (pc := 181) hx hb d_R_operateAlone_181 rfl (lv_at hl 0 rfl) ?_
    refine lv_iconst (pc := 182) (v := 1) hx hb d_R_operateAlone_182 (by decide) ?_
    refine lv_iconst (pc := 183) (v := 1) hx hb d_R_operateAlone_183 (by decide) ?_
    refine callVO (q0 := 3) (pc := 184) (As := [.int 1, .int 1]) (rest := []) X (k_R_put l g rt o st 1 1) hC (NR_R_put_57 X rfl rfl ⟨by decide, by decide⟩) rfl rfl rfl hl.1 (Nat.le_of_ble_eq_true rfl) rfl d_R_operateAlone_184 ⟨Nat.zero_le _, Nat.zero_le _⟩ (fun st20 H locs est20 hC => ?_)
    replace he := bS_go he est20
    refine lv_goto (pc := 187) (tgt := 239) hx hb d_R_operateAlone_187 (by decide) ?_
    exact B239 _ _ _ st20   hC (lv_sub hl [] rfl) he
  replace he := if_no he h19
  by_cases h21 : v1 = 11
  · replace he := if_go he h21
    refine lv_tableIn (pc := 1) (tgt := 190) hx hb d_R_operateAlone_1 (by rw [h21]; decide) (by rw [h21]; decide) (by rw [h21]; rfl) (by decide) ?_
    refine lv_aload_n (pc := 190) hx hb d_R_operateAlone_190 rfl (lv_at hl 0 rfl) ?_
    refine lv_iconst (pc := 191) (v := 4) hx hb d_R_operateAlone_191 (by decide) ?_
    refine lv_iconst (pc := 192) (v := 0) hx hb d_R_operateAlone_192 (by decide) ?_
    refine callVO (q0 := 3) (pc := 193) (As := [.int 4, .int 0]) (rest := []) X (k_R_put l g rt o st 4 0) hC (NR_R_put_57 X rfl rfl ⟨by decide, by decide⟩) rfl rfl rfl hl.1 (Nat.le_of_ble_eq_true rfl) rfl d_R_operateAlone_193 ⟨Nat.zero_le _, Nat.zero_le _⟩ (fun st22 H locs est22 hC => ?_)
    replace he := bS_go he est22
    refine lv_goto (pc := 196) (tgt := 239) hx hb d_R_operateAlone_196 (by decide) ?_
    exact B239 _ _ _ st22   hC (lv_sub hl [] rfl) he
  replace he := if_no he h21
  by_cases h23 : v1 = 12
  · replace he := if_go he h23
    refine lv_tableIn (pc := 1) (tgt := 199) hx hb d_R_operateAlone_1 (by rw [h23]; decide) (by rw [h23]; decide) (by rw [h23]; rfl) (by decide) ?_
    refine lv_aload_n (pc := 199) hx hb d_R_operateAlone_199 rfl (lv_at hl 0 rfl) ?_
    refine lv_iconst (pc := 200) (v := 4) hx hb d_R_operateAlone_200 (by decide) ?_
    refine lv_iconst (pc := 201) (v := 1) hx hb d_R_operateAlone_201 (by decide) ?_
    refine callVO (q0 := 3) (pc := 202) (As := [.int 4, .int 1]) (rest := []) X (k_R_put l g rt o st 4 1) hC (NR_R_put_57 X rfl rfl ⟨by decide, by decide⟩) rfl rfl rfl hl.1 (Nat.le_of_ble_eq_true rfl) rfl d_R_operateAlone_202 ⟨Nat.zero_le _, Nat.zero_le _⟩ (fun st24 H locs est24 hC => ?_)
    replace he := bS_go he est24
    refine lv_goto (pc := 205) (tgt := 239) hx hb d_R_operateAlone_205 (by decide) ?_
    exact B239 _ _ _ st24   hC (lv_sub hl [] rfl) he
  replace he := if_no he h23
  by_cases h25 : v1 = 13
  · replace he := if_go he h25
    refine lv_tableIn (pc := 1) (tgt := 208) hx hb d_R_operateAlone_1 (by rw [h25]; decide) (by rw [h25]; decide) (by rw [h25]; rfl) (by decide) ?_
    refine lv_aload_n (pc := 208) hx hb d_R_operateAlone_208 rfl (lv_at hl 0 rfl) ?_
    refine lv_bipush (pc := 209) (v := 8) hx hb d_R_operateAlone_209 (by decide) ?_
    refine lv_iconst (pc := 211) (v := 0) hx hb d_R_operateAlone_211 (by decide) ?_
    refine callVO (q0 := 3) (pc := 212) (As := [.int 8, .int 0]) (rest := []) X (k_R_put l g rt o st 8 0) hC (NR_R_put_57 X rfl rfl ⟨by decide, by decide⟩) rfl rfl rfl hl.1 (Nat.le_of_ble_eq_true rfl) rfl d_R_operateAlone_212 ⟨Nat.zero_le _, Nat.zero_le _⟩ (fun st26 H locs est26 hC => ?_)
    replace he := bS_go he est26
    refine lv_goto (pc := 215) (tgt := 239) hx hb d_R_operateAlone_215 (by decide) ?_
    exact B239 _ _ _ st26   hC (lv_sub hl [] rfl) he
  replace he := if_no he h25
  by_cases h27 : v1 = 14
  · replace he := if_go he h27
    refine lv_tableIn (pc := 1) (tgt := 218) hx hb d_R_operateAlone_1 (by rw [h27]; decide) (by rw [h27]; decide) (by rw [h27]; rfl) (by decide) ?_
    refine lv_aload_n (pc := 218) hx hb d_R_operateAlone_218 rfl (lv_at hl 0 rfl) ?_
    refine lv_bipush (pc := 219) (v := 8) hx hb d_R_operateAlone_219 (by decide) ?_
    refine lv_iconst (pc := 221) (v := 1) hx hb d_R_operateAlone_221 (by decide) ?_
    refine callVO (q0 := 3) (pc := 222) (As := [.int 8, .int 1]) (rest := []) X (k_R_put l g rt o st 8 1) hC (NR_R_put_57 X rfl rfl ⟨by decide, by decide⟩) rfl rfl rfl hl.1 (Nat.le_of_ble_eq_true rfl) rfl d_R_operateAlone_222 ⟨Nat.zero_le _, Nat.zero_le _⟩ (fun st28 H locs est28 hC => ?_)
    replace he := bS_go he est28
    refine lv_goto (pc := 225) (tgt := 239) hx hb d_R_operateAlone_225 (by decide) ?_
    exact B239 _ _ _ st28   hC (lv_sub hl [] rfl) he
  replace he := if_no he h27
  by_cases h29 : v1 = 15
  · replace he := if_go he h29
    refine lv_tableIn (pc := 1) (tgt := 228) hx hb d_R_operateAlone_1 (by rw [h29]; decide) (by rw [h29]; decide) (by rw [h29]; rfl) (by decide) ?_
    refine lv_aload_n (pc := 228) hx hb d_R_operateAlone_228 rfl (lv_at hl 0 rfl) ?_
    refine lv_aload_n (pc := 229) hx hb d_R_operateAlone_229 rfl (lv_at hl 0 rfl) ?_
    refine GR_x (pc := 230) X hC d_R_operateAlone_230 ?_
    refine PR_s (pc := 233) X hC d_R_operateAlone_233 (fun st30 H locs est30 hC => ?_)
    replace he := bS_go he est30
    refine lv_goto (pc := 236) (tgt := 239) hx hb d_R_operateAlone_236 (by decide) ?_
    exact B239 _ _ _ st30   hC (lv_sub hl [] rfl) he
  replace he := if_no he h29
  refine lv_tableOut (pc := 1) (tgt := 239) hx hb d_R_operateAlone_1 (by have nh1 := lv_neT (a := 1) h1 (by decide); have nh3 := lv_neT (a := 2) h3 (by decide); have nh5 := lv_neT (a := 3) h5 (by decide); have nh7 := lv_neT (a := 4) h7 (by decide); have nh9 := lv_neT (a := 5) h9 (by decide); have nh11 := lv_neT (a := 6) h11 (by decide); have nh13 := lv_neT (a := 7) h13 (by decide); have nh15 := lv_neT (a := 8) h15 (by decide); have nh17 := lv_neT (a := 9) h17 (by decide); have nh19 := lv_neT (a := 10) h19 (by decide); have nh21 := lv_neT (a := 11) h21 (by decide); have nh23 := lv_neT (a := 12) h23 (by decide); have nh25 := lv_neT (a := 13) h25 (by decide); have nh27 := lv_neT (a := 14) h27 (by decide); have nh29 := lv_neT (a := 15) h29 (by decide); omega) (by decide) ?_
  exact B239 _ _ _ st   hC (lv_sub hl [] rfl) he
def f_R_takeFlags (st : CS) (v1 : Int32) : CS := bS (sV st 5 (v1 &&& 207)) (fun st1 => st1)
abbrev rm_R_takeFlags : Room := { frames := 0, cells := 0, slots := 0, locals := 0 }
set_option maxHeartbeats 4000000 in
set_option maxRecDepth 100000 in
theorem k_R_takeFlags (l : Launch) (g : CG) (rt : MS) (o : Nat → Int64) (st : CS) (v1 : Int32) : KV l g y_R_takeFlags (Cond.code y_R_takeFlags c_R_takeFlags 2 none :: ALL) rm_R_takeFlags [.ref (g.regs), .int v1] (wC g rt o) st (f_R_takeFlags st v1) := by
  refine KV.ofW (by decide) (Nat.le_of_ble_eq_true rfl) ?_
  intro p e s m args below meth c A Q ls Rv X he RET hC hl
  obtain ⟨hx, hb⟩ := FX_xb X
  have hl : lv_has ls 2 [(0, .ref (g.regs)), (1, .int v1)] := hl
  unfold f_R_takeFlags at he
  refine lv_aload_n (pc := 0) hx hb d_R_takeFlags_0 rfl (lv_at hl 0 rfl) ?_
  refine lv_iload_n (pc := 1) hx hb d_R_takeFlags_1 rfl (lv_at hl 1 rfl) ?_
  refine lv_sipush (pc := 2) (v := 207) hx hb d_R_takeFlags_2 (by decide) ?_
  refine lv_iand (pc := 5) hx hb d_R_takeFlags_5 ?_
  refine PR_flags (pc := 6) X hC d_R_takeFlags_6 (fun st1 H locs est1 hC => ?_)
  replace he := bS_go he est1
  exact RET (pc := 9) d_R_takeFlags_9 hC he

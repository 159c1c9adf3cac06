/-! contracts of methods (printed by my own program) -/
def f_C_pin_44 (st : CS) (v3 : Int32) : Int32 × CS := (v3, st)
def f_C_pin (st : CS) (v1 : Int32) (v2 : Int32) : Int32 × CS := bS ((rP st v1) : Int32) (fun y3 => bS (sP st v1 v2) (fun st4 => if v2 = 0 then (f_C_pin_44 st4 y3) else (if y3 = 0 then (bS (f_C_pinWentOn st4 v1) (fun st7 => f_C_pin_44 st7 y3)) else (f_C_pin_44 st4 y3))))
abbrev rm_C_pin : Room := { frames := 2, cells := 0, slots := 0, locals := 43 }
set_option maxHeartbeats 4000000 in
set_option maxRecDepth 100000 in
theorem k_C_pin (l : Launch) (g : CG) (rt : MS) (o : Nat → Int64) (st : CS) (v1 : Int32) (v2 : Int32) (hq1 : ¬ v1 < 0) (hq2 : v1 < 4) (hpin : vp_in v1 4) (hpb : rP st v1 = 0 ∨ rP st v1 = 1) : KZ l g y_C_pin (Cond.code y_C_pin c_C_pin 4 (some .boolean) :: ALL) rm_C_pin [.ref (g.chip), .int v1, .int v2] (wC g rt o) st (f_C_pin st v1 v2) := by
  refine KZ.ofW (by decide) (Nat.le_of_ble_eq_true rfl) ?_
  intro p e s m args below meth c A Q ls Rv X he RET hC hl
  obtain ⟨hx, hb⟩ := FX_xb X
  have hl : lv_has ls 4 [(0, .ref (g.chip)), (1, .int v1), (2, .int v2)] := hl
  have B44 : ∀ (H : Heap) (locs : List Loc) (ls : Array Slot) (st : CS) (v3 : Int32) (hv3 : v3 = 0 ∨ v3 = 1), HC g A s (wC g rt o st) H locs → lv_has ls 4 [(3, .int v3)] → f_C_pin_44 st v3 = Rv → W p l e rm_C_pin s m args below meth c H locs 0 0 Q (F0 m 44 ls []) := by
    intro H locs ls st v3 hv3 hC hl he
    unfold f_C_pin_44 at he
    refine lv_iload_n (pc := 44) hx hb d_C_pin_44 rfl (lv_at hl 0 rfl) ?_
    exact RET (pc := 45) d_C_pin_45 hv3 hC he
  unfold f_C_pin at he
  refine lv_iload_n (pc := 0) hx hb d_C_pin_0 rfl (lv_at hl 1 rfl) ?_
  refine lv_if_lt (pc := 1) (tgt := 9) hx hb d_C_pin_1 (by decide) (fun h1 => ?_) (fun h1 => ?_)
  · first | exact absurd (by assumption) hq1 | exact absurd hq2 (by assumption) | exact absurd (by assumption) hq2 | exact absurd hq3 (by assumption) | exact absurd (by assumption) hq3
  refine lv_iload_n (pc := 4) hx hb d_C_pin_4 rfl (lv_at hl 1 rfl) ?_
  refine lv_iconst (pc := 5) (v := 4) hx hb d_C_pin_5 (by decide) ?_
  refine lv_icmp_lt (pc := 6) (tgt := 17) hx hb d_C_pin_6 (by decide) (fun h2 => ?_) (fun h2 => ?_)
  · skip
    refine lv_aload_n (pc := 17) hx hb d_C_pin_17 rfl (lv_at hl 0 rfl) ?_
    refine GC_pins (pc := 18) X hC d_C_pin_18 ?_
    refine lv_iload_n (pc := 21) hx hb d_C_pin_21 rfl (lv_at hl 1 rfl) ?_
    refine Apins (pc := 22) (i := v1) X hC hpin d_C_pin_22 ?_
    refine lv_topi (fun y3 ey3 => ?_)
    replace he := bS_go he ey3.symm
    refine lv_istore_n (pc := 23) (nL := 4) (lv' := [(3, .int y3), (0, .ref (g.chip)), (1, .int v1), (2, .int v2)]) hx hb d_C_pin_23 rfl hl (by decide) rfl (fun ls hl => ?_)
    refine lv_aload_n (pc := 24) hx hb d_C_pin_24 rfl (lv_at hl 1 rfl) ?_
    refine GC_pins (pc := 25) X hC d_C_pin_25 ?_
    refine lv_iload_n (pc := 28) hx hb d_C_pin_28 rfl (lv_at hl 2 rfl) ?_
    refine lv_iload_n (pc := 29) hx hb d_C_pin_29 rfl (lv_at hl 3 rfl) ?_
    refine Bpins (pc := 30) (i := v1) X hC hpin d_C_pin_30 (fun st4 H locs est4 hC => ?_)
    replace he := bS_go he est4
    refine lv_iload_n (pc := 31) hx hb d_C_pin_31 rfl (lv_at hl 3 rfl) ?_
    refine lv_if_eq (pc := 32) (tgt := 44) hx hb d_C_pin_32 (by decide) (fun h5 => ?_) (fun h5 => ?_)
    · replace he := if_go he h5
      exact B44 _ _ _ st4 y3 (ey3 ▸ hpb) hC (lv_sub hl [0] rfl) he
    replace he := if_no he h5
    refine lv_iload_n (pc := 35) hx hb d_C_pin_35 rfl (lv_at hl 0 rfl) ?_
    refine lv_if_ne (pc := 36) (tgt := 44) hx hb d_C_pin_36 (by decide) (fun h6 => ?_) (fun h6 => ?_)
    · replace he := if_no he h6
      exact B44 _ _ _ st4 y3 (ey3 ▸ hpb) hC (lv_sub hl [0] rfl) he
    replace he := if_go he h6
    refine lv_aload_n (pc := 39) hx hb d_C_pin_39 rfl (lv_at hl 1 rfl) ?_
    refine lv_iload_n (pc := 40) hx hb d_C_pin_40 rfl (lv_at hl 2 rfl) ?_
    refine callVO (q0 := 0) (pc := 41) (As := [.int v1]) (rest := []) X (k_C_pinWentOn l g rt o st4 v1) hC (NC_C_pinWentOn_56 X rfl rfl ⟨by decide, by decide⟩) rfl rfl rfl hl.1 (Nat.le_of_ble_eq_true rfl) rfl d_C_pin_41 ⟨Nat.zero_le _, Nat.zero_le _⟩ (fun st7 H locs est7 hC => ?_)
    replace he := bS_go he est7
    exact B44 _ _ _ st7 y3 (ey3 ▸ hpb) hC (lv_sub hl [0] rfl) he
  first | exact absurd (by assumption) hq1 | exact absurd hq2 (by assumption) | exact absurd (by assumption) hq2 | exact absurd hq3 (by assumption) | exact absurd (by assumption) hq3
def f_C_register_142 (st : CS) (s0 : Int32) : Int32 × CS := (s0, st)
def f_C_register (st : CS) (v1 : Int32) : Int32 × CS := if v1 = 0 then (f_C_register_142 st (st.1 0)) else (if v1 = 1 then (f_C_register_142 st (st.1 1)) else (if v1 = 2 then (f_C_register_142 st (st.1 2)) else (if v1 = 3 then (f_C_register_142 st (st.1 3)) else (if v1 = 4 then (f_C_register_142 st (st.1 4)) else (if v1 = 5 then (bP (f_R_p st ) (fun r10 st9 => f_C_register_142 st9 r10)) else (if v1 = 6 then (if st.2.1 = (34 : Fin 35) then (f_C_register_142 st 1) else (f_C_register_142 st 0)) else (f_C_register_142 st (st.1 9))))))))
abbrev rm_C_register : Room := { frames := 1, cells := 0, slots := 0, locals := 20 }
set_option maxHeartbeats 4000000 in
set_option maxRecDepth 100000 in
theorem k_C_register (l : Launch) (g : CG) (rt : MS) (o : Nat → Int64) (st : CS) (v1 : Int32) (hq1 : ¬ v1 < 0) (hq2 : v1 ≤ 7) : KI l g y_C_register (Cond.code y_C_register c_C_register 2 (some .int) :: ALL) rm_C_register [.ref (g.chip), .int v1] (wC g rt o) st (f_C_register st v1) := by
  refine KI.ofW (by decide) (Nat.le_of_ble_eq_true rfl) ?_
  intro p e s m args below meth c A Q ls Rv X he RET hC hl
  obtain ⟨hx, hb⟩ := FX_xb X
  have hl : lv_has ls 2 [(0, .ref (g.chip)), (1, .int v1)] := hl
  have B142 : ∀ (H : Heap) (locs : List Loc) (ls : Array Slot) (st : CS) (s0 : Int32), HC g A s (wC g rt o st) H locs → lv_has ls 2 [] → f_C_register_142 st s0 = Rv → W p l e rm_C_register s m args below meth c H locs 0 0 Q (F0 m 142 ls [.int s0]) := by
    intro H locs ls st s0  hC hl he
    unfold f_C_register_142 at he
    exact RET (pc := 142) d_C_register_142 hC he
  unfold f_C_register at he
  refine lv_iload_n (pc := 0) hx hb d_C_register_0 rfl (lv_at hl 1 rfl) ?_
  refine lv_if_lt (pc := 1) (tgt := 10) hx hb d_C_register_1 (by decide) (fun h1 => ?_) (fun h1 => ?_)
  · first | exact absurd (by assumption) hq1 | exact absurd hq2 (by assumption) | exact absurd (by assumption) hq2 | exact absurd hq3 (by assumption) | exact absurd (by assumption) hq3
  refine lv_iload_n (pc := 4) hx hb d_C_register_4 rfl (lv_at hl 1 rfl) ?_
  refine lv_bipush (pc := 5) (v := 7) hx hb d_C_register_5 (by decide) ?_
  refine lv_icmp_le (pc := 7) (tgt := 18) hx hb d_C_register_7 (by decide) (fun h2 => ?_) (fun h2 => ?_)
  · skip
    refine lv_iload_n (pc := 18) hx hb d_C_register_18 rfl (lv_at hl 1 rfl) ?_
    by_cases h3 : v1 = 0
    · replace he := if_go he h3
      refine lv_tableIn (pc := 19) (tgt := 60) hx hb d_C_register_19 (by rw [h3]; decide) (by rw [h3]; decide) (by rw [h3]; rfl) (by decide) ?_
      refine lv_aload_n (pc := 60) hx hb d_C_register_60 rfl (lv_at hl 0 rfl) ?_
      refine GC_registers (pc := 61) X hC d_C_register_61 ?_
      refine GCR_a (pc := 64) X hC d_C_register_64 ?_
      refine lv_goto (pc := 67) (tgt := 142) hx hb d_C_register_67 (by decide) ?_
      exact B142 _ _ _ st (st.1 0)  hC (lv_sub hl [] rfl) he
    replace he := if_no he h3
    by_cases h4 : v1 = 1
    · replace he := if_go he h4
      refine lv_tableIn (pc := 19) (tgt := 70) hx hb d_C_register_19 (by rw [h4]; decide) (by rw [h4]; decide) (by rw [h4]; rfl) (by decide) ?_
      refine lv_aload_n (pc := 70) hx hb d_C_register_70 rfl (lv_at hl 0 rfl) ?_
      refine GC_registers (pc := 71) X hC d_C_register_71 ?_
      refine GCR_x (pc := 74) X hC d_C_register_74 ?_
      refine lv_goto (pc := 77) (tgt := 142) hx hb d_C_register_77 (by decide) ?_
      exact B142 _ _ _ st (st.1 1)  hC (lv_sub hl [] rfl) he
    replace he := if_no he h4
    by_cases h5 : v1 = 2
    · replace he := if_go he h5
      refine lv_tableIn (pc := 19) (tgt := 80) hx hb d_C_register_19 (by rw [h5]; decide) (by rw [h5]; decide) (by rw [h5]; rfl) (by decide) ?_
      refine lv_aload_n (pc := 80) hx hb d_C_register_80 rfl (lv_at hl 0 rfl) ?_
      refine GC_registers (pc := 81) X hC d_C_register_81 ?_
      refine GCR_y (pc := 84) X hC d_C_register_84 ?_
      refine lv_goto (pc := 87) (tgt := 142) hx hb d_C_register_87 (by decide) ?_
      exact B142 _ _ _ st (st.1 2)  hC (lv_sub hl [] rfl) he
    replace he := if_no he h5
    by_cases h6 : v1 = 3
    · replace he := if_go he h6
      refine lv_tableIn (pc := 19) (tgt := 90) hx hb d_C_register_19 (by rw [h6]; decide) (by rw [h6]; decide) (by rw [h6]; rfl) (by decide) ?_
      refine lv_aload_n (pc := 90) hx hb d_C_register_90 rfl (lv_at hl 0 rfl) ?_
      refine GC_registers (pc := 91) X hC d_C_register_91 ?_
      refine GCR_s (pc := 94) X hC d_C_register_94 ?_
      refine lv_goto (pc := 97) (tgt := 142) hx hb d_C_register_97 (by decide) ?_
      exact B142 _ _ _ st (st.1 3)  hC (lv_sub hl [] rfl) he
    replace he := if_no he h6
    by_cases h7 : v1 = 4
    · replace he := if_go he h7
      refine lv_tableIn (pc := 19) (tgt := 100) hx hb d_C_register_19 (by rw [h7]; decide) (by rw [h7]; decide) (by rw [h7]; rfl) (by decide) ?_
      refine lv_aload_n (pc := 100) hx hb d_C_register_100 rfl (lv_at hl 0 rfl) ?_
      refine GC_registers (pc := 101) X hC d_C_register_101 ?_
      refine GCR_pc (pc := 104) X hC d_C_register_104 ?_
      refine lv_goto (pc := 107) (tgt := 142) hx hb d_C_register_107 (by decide) ?_
      exact B142 _ _ _ st (st.1 4)  hC (lv_sub hl [] rfl) he
    replace he := if_no he h7
    by_cases h8 : v1 = 5
    · replace he := if_go he h8
      refine lv_tableIn (pc := 19) (tgt := 110) hx hb d_C_register_19 (by rw [h8]; decide) (by rw [h8]; decide) (by rw [h8]; rfl) (by decide) ?_
      refine lv_aload_n (pc := 110) hx hb d_C_register_110 rfl (lv_at hl 0 rfl) ?_
      refine GC_registers (pc := 111) X hC d_C_register_111 ?_
      refine callIN (q0 := 3) (pc := 114) (As := []) (rest := []) X (k_R_p l g rt o st ) hC (NC_R_p_89 X rfl rfl ⟨by decide, by decide⟩) rfl rfl rfl hl.1 (Nat.le_of_ble_eq_true rfl) rfl d_C_register_114 ⟨Nat.zero_le _, Nat.zero_le _⟩ (fun r10 st9 H locs est9 hC => ?_)
      replace he := bP_go he est9
      refine lv_goto (pc := 117) (tgt := 142) hx hb d_C_register_117 (by decide) ?_
      exact B142 _ _ _ st9 r10  hC (lv_sub hl [] rfl) he
    replace he := if_no he h8
    by_cases h11 : v1 = 6
    · replace he := if_go he h11
      refine lv_tableIn (pc := 19) (tgt := 120) hx hb d_C_register_19 (by rw [h11]; decide) (by rw [h11]; decide) (by rw [h11]; rfl) (by decide) ?_
      refine lv_aload_n (pc := 120) hx hb d_C_register_120 rfl (lv_at hl 0 rfl) ?_
      refine GC_step (pc := 121) X hC d_C_register_121 ?_
      refine SC_stp_JAMMED (pc := 124) X hC d_C_register_124 ?_
      refine acS_ne (pc := 127) (tgt := 134) (i := st.2.1) (j := (34 : Fin 35)) X d_C_register_127 (by decide) (fun h12 => ?_) (fun h12 => ?_)
      · replace he := if_no he h12
        refine lv_iconst (pc := 134) (v := 0) hx hb d_C_register_134 (by decide) ?_
        refine lv_goto (pc := 135) (tgt := 142) hx hb d_C_register_135 (by decide) ?_
        exact B142 _ _ _ st 0  hC (lv_sub hl [] rfl) he
      replace he := if_go he h12
      refine lv_iconst (pc := 130) (v := 1) hx hb d_C_register_130 (by decide) ?_
      refine lv_goto (pc := 131) (tgt := 142) hx hb d_C_register_131 (by decide) ?_
      exact B142 _ _ _ st 1  hC (lv_sub hl [] rfl) he
    replace he := if_no he h11
    refine lv_tableOut (pc := 19) (tgt := 138) hx hb d_C_register_19 (by have nh3 := lv_neT (a := 0) h3 (by decide); have nh4 := lv_neT (a := 1) h4 (by decide); have nh5 := lv_neT (a := 2) h5 (by decide); have nh6 := lv_neT (a := 3) h6 (by decide); have nh7 := lv_neT (a := 4) h7 (by decide); have nh8 := lv_neT (a := 5) h8 (by decide); have nh11 := lv_neT (a := 6) h11 (by decide); omega) (by decide) ?_
    refine lv_aload_n (pc := 138) hx hb d_C_register_138 rfl (lv_at hl 0 rfl) ?_
    refine GC_done (pc := 139) X hC d_C_register_139 ?_
    exact B142 _ _ _ st (st.1 9)  hC (lv_sub hl [] rfl) he
  first | exact absurd (by assumption) hq1 | exact absurd hq2 (by assumption) | exact absurd (by assumption) hq2 | exact absurd hq3 (by assumption) | exact absurd (by assumption) hq3
def f_C_set_154 (st : CS)  : CS := st
def f_C_set (st : CS) (v1 : Int32) (v2 : Int32) : CS := if v1 = 0 then (bS (sV st 0 (v2 &&& 255)) (fun st5 => f_C_set_154 st5 )) else (if v1 = 1 then (bS (sV st 1 (v2 &&& 255)) (fun st7 => f_C_set_154 st7 )) else (if v1 = 2 then (bS (sV st 2 (v2 &&& 255)) (fun st9 => f_C_set_154 st9 )) else (if v1 = 3 then (bS (sV st 3 (v2 &&& 255)) (fun st11 => f_C_set_154 st11 )) else (if v1 = 4 then (bS (sV st 4 (v2 &&& 65535)) (fun st13 => f_C_set_154 st13 )) else (bS (f_R_takeFlags st v2) (fun st14 => f_C_set_154 st14 ))))))
abbrev rm_C_set : Room := { frames := 1, cells := 0, slots := 0, locals := 21 }
set_option maxHeartbeats 4000000 in
set_option maxRecDepth 100000 in
theorem k_C_set (l : Launch) (g : CG) (rt : MS) (o : Nat → Int64) (st : CS) (v1 : Int32) (v2 : Int32) (hq1 : ¬ v1 < 0) (hq2 : v1 ≤ 5) (hq3 : st.2.1 = (0 : Fin 35)) : KV l g y_C_set (Cond.code y_C_set c_C_set 3 none :: ALL) rm_C_set [.ref (g.chip), .int v1, .int v2] (wC g rt o) st (f_C_set st v1 v2) := by
  refine KV.ofW (by decide) (Nat.le_of_ble_eq_true rfl) ?_
  intro p e s m args below meth c A Q ls Rv X he RET hC hl
  obtain ⟨hx, hb⟩ := FX_xb X
  have hl : lv_has ls 3 [(0, .ref (g.chip)), (1, .int v1), (2, .int v2)] := hl
  have B154 : ∀ (H : Heap) (locs : List Loc) (ls : Array Slot) (st : CS) , HC g A s (wC g rt o st) H locs → lv_has ls 3 [] → f_C_set_154 st  = Rv → W p l e rm_C_set s m args below meth c H locs 0 0 Q (F0 m 154 ls []) := by
    intro H locs ls st   hC hl he
    unfold f_C_set_154 at he
    exact RET (pc := 154) d_C_set_154 hC he
  unfold f_C_set at he
  refine lv_iload_n (pc := 0) hx hb d_C_set_0 rfl (lv_at hl 1 rfl) ?_
  refine lv_if_lt (pc := 1) (tgt := 9) hx hb d_C_set_1 (by decide) (fun h1 => ?_) (fun h1 => ?_)
  · first | exact absurd (by assumption) hq1 | exact absurd hq2 (by assumption) | exact absurd (by assumption) hq2 | exact absurd hq3 (by assumption) | exact absurd (by assumption) hq3
  refine lv_iload_n (pc := 4) hx hb d_C_set_4 rfl (lv_at hl 1 rfl) ?_
  refine lv_iconst (pc := 5) (v := 5) hx hb d_C_set_5 (by decide) ?_
  refine lv_icmp_le (pc := 6) (tgt := 17) hx hb d_C_set_6 (by decide) (fun h2 => ?_) (fun h2 => ?_)
  · skip
    refine lv_aload_n (pc := 17) hx hb d_C_set_17 rfl (lv_at hl 0 rfl) ?_
    refine GC_step (pc := 18) X hC d_C_set_18 ?_
    refine SC_stp_FETCH (pc := 21) X hC d_C_set_21 ?_
    refine acS_eq (pc := 24) (tgt := 35) (i := st.2.1) (j := (0 : Fin 35)) X d_C_set_24 (by decide) (fun h3 => ?_) (fun h3 => ?_)
    · skip
      refine lv_iload_n (pc := 35) hx hb d_C_set_35 rfl (lv_at hl 1 rfl) ?_
      by_cases h4 : v1 = 0
      · replace he := if_go he h4
        refine lv_tableIn (pc := 36) (tgt := 72) hx hb d_C_set_36 (by rw [h4]; decide) (by rw [h4]; decide) (by rw [h4]; rfl) (by decide) ?_
        refine lv_aload_n (pc := 72) hx hb d_C_set_72 rfl (lv_at hl 0 rfl) ?_
        refine GC_registers (pc := 73) X hC d_C_set_73 ?_
        refine lv_iload_n (pc := 76) hx hb d_C_set_76 rfl (lv_at hl 2 rfl) ?_
        refine lv_sipush (pc := 77) (v := 255) hx hb d_C_set_77 (by decide) ?_
        refine lv_iand (pc := 80) hx hb d_C_set_80 ?_
        refine PCR_a (pc := 81) X hC d_C_set_81 (fun st5 H locs est5 hC => ?_)
        replace he := bS_go he est5
        refine lv_goto (pc := 84) (tgt := 154) hx hb d_C_set_84 (by decide) ?_
        exact B154 _ _ _ st5   hC (lv_sub hl [] rfl) he
      replace he := if_no he h4
      by_cases h6 : v1 = 1
      · replace he := if_go he h6
        refine lv_tableIn (pc := 36) (tgt := 87) hx hb d_C_set_36 (by rw [h6]; decide) (by rw [h6]; decide) (by rw [h6]; rfl) (by decide) ?_
        refine lv_aload_n (pc := 87) hx hb d_C_set_87 rfl (lv_at hl 0 rfl) ?_
        refine GC_registers (pc := 88) X hC d_C_set_88 ?_
        refine lv_iload_n (pc := 91) hx hb d_C_set_91 rfl (lv_at hl 2 rfl) ?_
        refine lv_sipush (pc := 92) (v := 255) hx hb d_C_set_92 (by decide) ?_
        refine lv_iand (pc := 95) hx hb d_C_set_95 ?_
        refine PCR_x (pc := 96) X hC d_C_set_96 (fun st7 H locs est7 hC => ?_)
        replace he := bS_go he est7
        refine lv_goto (pc := 99) (tgt := 154) hx hb d_C_set_99 (by decide) ?_
        exact B154 _ _ _ st7   hC (lv_sub hl [] rfl) he
      replace he := if_no he h6
      by_cases h8 : v1 = 2
      · replace he := if_go he h8
        refine lv_tableIn (pc := 36) (tgt := 102) hx hb d_C_set_36 (by rw [h8]; decide) (by rw [h8]; decide) (by rw [h8]; rfl) (by decide) ?_
        refine lv_aload_n (pc := 102) hx hb d_C_set_102 rfl (lv_at hl 0 rfl) ?_
        refine GC_registers (pc := 103) X hC d_C_set_103 ?_
        refine lv_iload_n (pc := 106) hx hb d_C_set_106 rfl (lv_at hl 2 rfl) ?_
        refine lv_sipush (pc := 107) (v := 255) hx hb d_C_set_107 (by decide) ?_
        refine lv_iand (pc := 110) hx hb d_C_set_110 ?_
        refine PCR_y (pc := 111) X hC d_C_set_111 (fun st9 H locs est9 hC => ?_)
        replace he := bS_go he est9
        refine lv_goto (pc := 114) (tgt := 154) hx hb d_C_set_114 (by decide) ?_
        exact B154 _ _ _ st9   hC (lv_sub hl [] rfl) he
      replace he := if_no he h8
      by_cases h10 : v1 = 3
      · replace he := if_go he h10
        refine lv_tableIn (pc := 36) (tgt := 117) hx hb d_C_set_36 (by rw [h10]; decide) (by rw [h10]; decide) (by rw [h10]; rfl) (by decide) ?_
        refine lv_aload_n (pc := 117) hx hb d_C_set_117 rfl (lv_at hl 0 rfl) ?_
        refine GC_registers (pc := 118) X hC d_C_set_118 ?_
        refine lv_iload_n (pc := 121) hx hb d_C_set_121 rfl (lv_at hl 2 rfl) ?_
        refine lv_sipush (pc := 122) (v := 255) hx hb d_C_set_122 (by decide) ?_
        refine lv_iand (pc := 125) hx hb d_C_set_125 ?_
        refine PCR_s (pc := 126) X hC d_C_set_126 (fun st11 H locs est11 hC => ?_)
        replace he := bS_go he est11
        refine lv_goto (pc := 129) (tgt := 154) hx hb d_C_set_129 (by decide) ?_
        exact B154 _ _ _ st11   hC (lv_sub hl [] rfl) he
      replace he := if_no he h10
      by_cases h12 : v1 = 4
      · replace he := if_go he h12
        refine lv_tableIn (pc := 36) (tgt := 132) hx hb d_C_set_36 (by rw [h12]; decide) (by rw [h12]; decide) (by rw [h12]; rfl) (by decide) ?_
        refine lv_aload_n (pc := 132) hx hb d_C_set_132 rfl (lv_at hl 0 rfl) ?_
        refine GC_registers (pc := 133) X hC d_C_set_133 ?_
        refine lv_iload_n (pc := 136) hx hb d_C_set_136 rfl (lv_at hl 2 rfl) ?_
        refine LC_101 (pc := 137) X d_C_set_137 ?_
        refine lv_iand (pc := 139) hx hb d_C_set_139 ?_
        refine PCR_pc (pc := 140) X hC d_C_set_140 (fun st13 H locs est13 hC => ?_)
        replace he := bS_go he est13
        refine lv_goto (pc := 143) (tgt := 154) hx hb d_C_set_143 (by decide) ?_
        exact B154 _ _ _ st13   hC (lv_sub hl [] rfl) he
      replace he := if_no he h12
      refine lv_tableOut (pc := 36) (tgt := 146) hx hb d_C_set_36 (by have nh4 := lv_neT (a := 0) h4 (by decide); have nh6 := lv_neT (a := 1) h6 (by decide); have nh8 := lv_neT (a := 2) h8 (by decide); have nh10 := lv_neT (a := 3) h10 (by decide); have nh12 := lv_neT (a := 4) h12 (by decide); omega) (by decide) ?_
      refine lv_aload_n (pc := 146) hx hb d_C_set_146 rfl (lv_at hl 0 rfl) ?_
      refine GC_registers (pc := 147) X hC d_C_set_147 ?_
      refine lv_iload_n (pc := 150) hx hb d_C_set_150 rfl (lv_at hl 2 rfl) ?_
      refine callVN (q0 := 3) (pc := 151) (As := [.int v2]) (rest := []) X (k_R_takeFlags l g rt o st v2) hC (NC_R_takeFlags_102 X rfl rfl ⟨by decide, by decide⟩) rfl rfl rfl hl.1 (Nat.le_of_ble_eq_true rfl) rfl d_C_set_151 ⟨Nat.zero_le _, Nat.zero_le _⟩ (fun st14 H locs est14 hC => ?_)
      replace he := bS_go he est14
      exact B154 _ _ _ st14   hC (lv_sub hl [] rfl) he
    first | exact absurd (by assumption) hq1 | exact absurd hq2 (by assumption) | exact absurd (by assumption) hq2 | exact absurd hq3 (by assumption) | exact absurd (by assumption) hq3
  first | exact absurd (by assumption) hq1 | exact absurd hq2 (by assumption) | exact absurd (by assumption) hq2 | exact absurd hq3 (by assumption) | exact absurd (by assumption) hq3
def f_M_pin_169 (st : MS) (v3 : Int32) : Int32 × MS := (v3, st)
def f_M_pin_166 (st : MS) (v3 : Int32) (s0 : Int32) : Int32 × MS := bS (tV st 5 s0) (fun st21 => f_M_pin_169 st21 v3)
def f_M_pin_109 (st : MS) (v3 : Int32) (s0 : Int32) : Int32 × MS := bS (tV st 10 s0) (fun st20 => f_M_pin_169 st20 v3)
def f_M_pin_104 (st : MS) (v3 : Int32) : Int32 × MS := f_M_pin_109 st v3 1
def f_M_pin_80 (st : MS) (v1 : Int32) (v2 : Int32) (v3 : Int32) (s0 : Int32) : Int32 × MS := if v1 = 0 then (bS (tV st 6 v2) (fun st17 => if (st17.1 10) = 0 then (if s0 = 0 then (f_M_pin_109 st17 v3 0) else (f_M_pin_104 st17 v3)) else (f_M_pin_104 st17 v3))) else (if v1 = 1 then (bS (tV st 7 v2) (fun st16 => f_M_pin_169 st16 v3)) else (if v1 = 2 then (bS (tV st 8 v2) (fun st15 => f_M_pin_169 st15 v3)) else (bS (tV st 9 v2) (fun st13 => if s0 = 0 then (f_M_pin_166 st13 v3 (st13.1 5)) else (f_M_pin_166 st13 v3 ((st13.1 5) ||| 64))))))
def f_M_pin_79 (st : MS) (v1 : Int32) (v2 : Int32) (v3 : Int32) : Int32 × MS := f_M_pin_80 st v1 v2 v3 0
def f_M_pin_66 (st : MS) (v1 : Int32) (v2 : Int32) (s0 : Int32) : Int32 × MS := if v2 = 0 then (f_M_pin_79 st v1 v2 s0) else (if s0 = 0 then (f_M_pin_80 st v1 v2 s0 1) else (f_M_pin_79 st v1 v2 s0))
def f_M_pin_15 (st : MS) (v1 : Int32) (v2 : Int32) (s0 : Int32) : Int32 × MS := bS (tV st 27 s0) (fun st3 => if (st3.1 27) = 0 then (if v1 = 0 then (f_M_pin_66 st3 v1 v2 (st3.1 6)) else (if v1 = 1 then (f_M_pin_66 st3 v1 v2 (st3.1 7)) else (if v1 = 2 then (f_M_pin_66 st3 v1 v2 (st3.1 8)) else (f_M_pin_66 st3 v1 v2 (st3.1 9))))) else ((0, st3)))
def f_M_pin_10 (st : MS) (v1 : Int32) (v2 : Int32) : Int32 × MS := f_M_pin_15 st v1 v2 1
def f_M_pin (st : MS) (v1 : Int32) (v2 : Int32) : Int32 × MS := if v1 < 0 then (f_M_pin_10 st v1 v2) else (if v1 ≤ 3 then (f_M_pin_15 st v1 v2 0) else (f_M_pin_10 st v1 v2))
abbrev rm_M_pin : Room := { frames := 0, cells := 0, slots := 0, locals := 0 }
set_option maxHeartbeats 4000000 in
set_option maxRecDepth 100000 in
theorem k_M_pin (l : Launch) (g : CG) (cs : CS) (o : Nat → Int64) (st : MS) (v1 : Int32) (v2 : Int32) (hon : v2 = 0 ∨ v2 = 1) (hI : SBm st) : KZ l g y_M_pin (Cond.code y_M_pin c_M_pin 5 (some .boolean) :: ALL) rm_M_pin [.ref (g.model), .int v1, .int v2] (wM g cs o) st (f_M_pin st v1 v2) := by
  refine KZ.ofW (by decide) (Nat.le_of_ble_eq_true rfl) ?_
  intro p e s m args below meth c A Q ls Rv X he RET hC hl
  obtain ⟨hx, hb⟩ := FX_xb X
  have hl : lv_has ls 5 [(0, .ref (g.model)), (1, .int v1), (2, .int v2)] := hl
  have B169 : ∀ (H : Heap) (locs : List Loc) (ls : Array Slot) (st : MS) (v3 : Int32) (hv3 : v3 = 0 ∨ v3 = 1) (hI : SBm st), HC g A s (wM g cs o st) H locs → lv_has ls 5 [(3, .int v3)] → f_M_pin_169 st v3 = Rv → W p l e rm_M_pin s m args below meth c H locs 0 0 Q (F0 m 169 ls []) := by
    intro H locs ls st v3 hv3 hI hC hl he
    unfold f_M_pin_169 at he
    refine lv_iload_n (pc := 169) hx hb d_M_pin_169 rfl (lv_at hl 0 rfl) ?_
    exact RET (pc := 170) d_M_pin_170 hv3 hC he
  have B166 : ∀ (H : Heap) (locs : List Loc) (ls : Array Slot) (st : MS) (v3 : Int32) (s0 : Int32) (hv3 : v3 = 0 ∨ v3 = 1) (hI : SBm st), HC g A s (wM g cs o st) H locs → lv_has ls 5 [(3, .int v3)] → f_M_pin_166 st v3 s0 = Rv → W p l e rm_M_pin s m args below meth c H locs 0 0 Q (F0 m 166 ls [.int s0, .ref (g.model)]) := by
    intro H locs ls st v3 s0 hv3 hI hC hl he
    unfold f_M_pin_166 at he
    refine PM_flags (pc := 166) X hC d_M_pin_166 (fun st21 H locs est21 hC => ?_)
    replace he := bS_go he est21
    replace hI := SB_tV est21 hI (Or.inl (by decide))
    exact B169 _ _ _ st21 v3 hv3 hI hC (lv_sub hl [0] rfl) he
  have B109 : ∀ (H : Heap) (locs : List Loc) (ls : Array Slot) (st : MS) (v3 : Int32) (s0 : Int32) (hv3 : v3 = 0 ∨ v3 = 1) (hs0 : s0 = 0 ∨ s0 = 1) (hI : SBm st), HC g A s (wM g cs o st) H locs → lv_has ls 5 [(3, .int v3)] → f_M_pin_109 st v3 s0 = Rv → W p l e rm_M_pin s m args below meth c H locs 0 0 Q (F0 m 109 ls [.int s0, .ref (g.model)]) := by
    intro H locs ls st v3 s0 hv3 hs0 hI hC hl he
    unfold f_M_pin_109 at he
    refine PM_wanted (pc := 109) X hC hs0 d_M_pin_109 (fun st20 H locs est20 hC => ?_)
    replace he := bS_go he est20
    replace hI := SB_tV est20 hI (Or.inr hs0)
    refine lv_goto (pc := 112) (tgt := 169) hx hb d_M_pin_112 (by decide) ?_
    exact B169 _ _ _ st20 v3 hv3 hI hC (lv_sub hl [0] rfl) he
  have B104 : ∀ (H : Heap) (locs : List Loc) (ls : Array Slot) (st : MS) (v3 : Int32) (hv3 : v3 = 0 ∨ v3 = 1) (hI : SBm st), HC g A s (wM g cs o st) H locs → lv_has ls 5 [(3, .int v3)] → f_M_pin_104 st v3 = Rv → W p l e rm_M_pin s m args below meth c H locs 0 0 Q (F0 m 104 ls [.ref (g.model)]) := by
    intro H locs ls st v3 hv3 hI hC hl he
    unfold f_M_pin_104 at he
    refine lv_iconst (pc := 104) (v := 1) hx hb d_M_pin_104 (by decide) ?_
    refine lv_goto (pc := 105) (tgt := 109) hx hb d_M_pin_105 (by decide) ?_
    exact B109 _ _ _ st v3 1 hv3 b1 hI hC (lv_sub hl [0] rfl) he
  have B80 : ∀ (H : Heap) (locs : List Loc) (ls : Array Slot) (st : MS) (v1 : Int32) (v2 : Int32) (v3 : Int32) (s0 : Int32) (hv2 : v2 = 0 ∨ v2 = 1) (hv3 : v3 = 0 ∨ v3 = 1) (hs0 : s0 = 0 ∨ s0 = 1) (hI : SBm st), HC g A s (wM g cs o st) H locs → lv_has ls 5 [(0, .ref (g.model)), (1, .int v1), (2, .int v2), (3, .int v3)] → f_M_pin_80 st v1 v2 v3 s0 = Rv → W p l e rm_M_pin s m args below meth c H locs 0 0 Q (F0 m 80 ls [.int s0]) := by
    intro H locs ls st v1 v2 v3 s0 hv2 hv3 hs0 hI hC hl he
    unfold f_M_pin_80 at he
    refine lv_istore (pc := 80) (nL := 5) (lv' := [(4, .int s0), (0, .ref (g.model)), (1, .int v1), (2, .int v2), (3, .int v3)]) hx hb d_M_pin_80 hl (by decide) rfl (fun ls hl => ?_)
    refine lv_iload_n (pc := 82) hx hb d_M_pin_82 rfl (lv_at hl 2 rfl) ?_
    refine lv_if_ne (pc := 83) (tgt := 115) hx hb d_M_pin_83 (by decide) (fun h10 => ?_) (fun h10 => ?_)
    · replace he := if_no he h10
      refine lv_iload_n (pc := 115) hx hb d_M_pin_115 rfl (lv_at hl 2 rfl) ?_
      refine lv_iconst (pc := 116) (v := 1) hx hb d_M_pin_116 (by decide) ?_
      refine lv_icmp_ne (pc := 117) (tgt := 128) hx hb d_M_pin_117 (by decide) (fun h11 => ?_) (fun h11 => ?_)
      · replace he := if_no he h11
        refine lv_iload_n (pc := 128) hx hb d_M_pin_128 rfl (lv_at hl 2 rfl) ?_
        refine lv_iconst (pc := 129) (v := 2) hx hb d_M_pin_129 (by decide) ?_
        refine lv_icmp_ne (pc := 130) (tgt := 141) hx hb d_M_pin_130 (by decide) (fun h12 => ?_) (fun h12 => ?_)
        · replace he := if_no he h12
          refine lv_aload_n (pc := 141) hx hb d_M_pin_141 rfl (lv_at hl 1 rfl) ?_
          refine lv_iload_n (pc := 142) hx hb d_M_pin_142 rfl (lv_at hl 3 rfl) ?_
          refine PM_so (pc := 143) X hC hv2 d_M_pin_143 (fun st13 H locs est13 hC => ?_)
          replace he := bS_go he est13
          replace hI := SB_tV est13 hI (Or.inr hv2)
          refine lv_aload_n (pc := 146) hx hb d_M_pin_146 rfl (lv_at hl 1 rfl) ?_
          refine lv_iload (pc := 147) hx hb d_M_pin_147 (lv_at hl 0 rfl) ?_
          refine lv_if_eq (pc := 149) (tgt := 162) hx hb d_M_pin_149 (by decide) (fun h14 => ?_) (fun h14 => ?_)
          · replace he := if_go he h14
            refine lv_aload_n (pc := 162) hx hb d_M_pin_162 rfl (lv_at hl 1 rfl) ?_
            refine GM_flags (pc := 163) X hC d_M_pin_163 ?_
            exact B166 _ _ _ st13 v3 (st13.1 5) hv3 hI hC (lv_sub hl [4] rfl) he
          replace he := if_no he h14
          refine lv_aload_n (pc := 152) hx hb d_M_pin_152 rfl (lv_at hl 1 rfl) ?_
          refine GM_flags (pc := 153) X hC d_M_pin_153 ?_
          refine lv_bipush (pc := 156) (v := 64) hx hb d_M_pin_156 (by decide) ?_
          refine lv_ior (pc := 158) hx hb d_M_pin_158 ?_
          refine lv_goto (pc := 159) (tgt := 166) hx hb d_M_pin_159 (by decide) ?_
          exact B166 _ _ _ st13 v3 ((st13.1 5) ||| 64) hv3 hI hC (lv_sub hl [4] rfl) he
        replace he := if_go he h12
        refine lv_aload_n (pc := 133) hx hb d_M_pin_133 rfl (lv_at hl 1 rfl) ?_
        refine lv_iload_n (pc := 134) hx hb d_M_pin_134 rfl (lv_at hl 3 rfl) ?_
        refine PM_ready (pc := 135) X hC hv2 d_M_pin_135 (fun st15 H locs est15 hC => ?_)
        replace he := bS_go he est15
        replace hI := SB_tV est15 hI (Or.inr hv2)
        refine lv_goto (pc := 138) (tgt := 169) hx hb d_M_pin_138 (by decide) ?_
        exact B169 _ _ _ st15 v3 hv3 hI hC (lv_sub hl [4] rfl) he
      replace he := if_go he h11
      refine lv_aload_n (pc := 120) hx hb d_M_pin_120 rfl (lv_at hl 1 rfl) ?_
      refine lv_iload_n (pc := 121) hx hb d_M_pin_121 rfl (lv_at hl 3 rfl) ?_
      refine PM_irq (pc := 122) X hC hv2 d_M_pin_122 (fun st16 H locs est16 hC => ?_)
      replace he := bS_go he est16
      replace hI := SB_tV est16 hI (Or.inr hv2)
      refine lv_goto (pc := 125) (tgt := 169) hx hb d_M_pin_125 (by decide) ?_
      exact B169 _ _ _ st16 v3 hv3 hI hC (lv_sub hl [4] rfl) he
    replace he := if_go he h10
    refine lv_aload_n (pc := 86) hx hb d_M_pin_86 rfl (lv_at hl 1 rfl) ?_
    refine lv_iload_n (pc := 87) hx hb d_M_pin_87 rfl (lv_at hl 3 rfl) ?_
    refine PM_nmi (pc := 88) X hC hv2 d_M_pin_88 (fun st17 H locs est17 hC => ?_)
    replace he := bS_go he est17
    replace hI := SB_tV est17 hI (Or.inr hv2)
    refine lv_aload_n (pc := 91) hx hb d_M_pin_91 rfl (lv_at hl 1 rfl) ?_
    refine lv_aload_n (pc := 92) hx hb d_M_pin_92 rfl (lv_at hl 1 rfl) ?_
    refine GM_wanted (pc := 93) X hC d_M_pin_93 ?_
    refine lv_if_ne (pc := 96) (tgt := 104) hx hb d_M_pin_96 (by decide) (fun h18 => ?_) (fun h18 => ?_)
    · replace he := if_no he h18
      exact B104 _ _ _ st17 v3 hv3 hI hC (lv_sub hl [4] rfl) he
    replace he := if_go he h18
    refine lv_iload (pc := 99) hx hb d_M_pin_99 (lv_at hl 0 rfl) ?_
    refine lv_if_eq (pc := 101) (tgt := 108) hx hb d_M_pin_101 (by decide) (fun h19 => ?_) (fun h19 => ?_)
    · replace he := if_go he h19
      refine lv_iconst (pc := 108) (v := 0) hx hb d_M_pin_108 (by decide) ?_
      exact B109 _ _ _ st17 v3 0 hv3 b0 hI hC (lv_sub hl [4] rfl) he
    replace he := if_no he h19
    exact B104 _ _ _ st17 v3 hv3 hI hC (lv_sub hl [4] rfl) he
  have B79 : ∀ (H : Heap) (locs : List Loc) (ls : Array Slot) (st : MS) (v1 : Int32) (v2 : Int32) (v3 : Int32) (hv2 : v2 = 0 ∨ v2 = 1) (hv3 : v3 = 0 ∨ v3 = 1) (hI : SBm st), HC g A s (wM g cs o st) H locs → lv_has ls 5 [(0, .ref (g.model)), (1, .int v1), (2, .int v2), (3, .int v3)] → f_M_pin_79 st v1 v2 v3 = Rv → W p l e rm_M_pin s m args below meth c H locs 0 0 Q (F0 m 79 ls []) := by
    intro H locs ls st v1 v2 v3 hv2 hv3 hI hC hl he
    unfold f_M_pin_79 at he
    refine lv_iconst (pc := 79) (v := 0) hx hb d_M_pin_79 (by decide) ?_
    exact B80 _ _ _ st v1 v2 v3 0 hv2 hv3 b0 hI hC (lv_sub hl [0, 1, 2, 3] rfl) he
  have B66 : ∀ (H : Heap) (locs : List Loc) (ls : Array Slot) (st : MS) (v1 : Int32) (v2 : Int32) (s0 : Int32) (hv2 : v2 = 0 ∨ v2 = 1) (hs0 : s0 = 0 ∨ s0 = 1) (hI : SBm st), HC g A s (wM g cs o st) H locs → lv_has ls 5 [(0, .ref (g.model)), (1, .int v1), (2, .int v2)] → f_M_pin_66 st v1 v2 s0 = Rv → W p l e rm_M_pin s m args below meth c H locs 0 0 Q (F0 m 66 ls [.int s0]) := by
    intro H locs ls st v1 v2 s0 hv2 hs0 hI hC hl he
    unfold f_M_pin_66 at he
    refine lv_istore_n (pc := 66) (nL := 5) (lv' := [(3, .int s0), (0, .ref (g.model)), (1, .int v1), (2, .int v2)]) hx hb d_M_pin_66 rfl hl (by decide) rfl (fun ls hl => ?_)
    refine lv_iload_n (pc := 67) hx hb d_M_pin_67 rfl (lv_at hl 3 rfl) ?_
    refine lv_if_eq (pc := 68) (tgt := 79) hx hb d_M_pin_68 (by decide) (fun h8 => ?_) (fun h8 => ?_)
    · replace he := if_go he h8
      exact B79 _ _ _ st v1 v2 s0 hv2 hs0 hI hC (lv_sub hl [1, 2, 3, 0] rfl) he
    replace he := if_no he h8
    refine lv_iload_n (pc := 71) hx hb d_M_pin_71 rfl (lv_at hl 0 rfl) ?_
    refine lv_if_ne (pc := 72) (tgt := 79) hx hb d_M_pin_72 (by decide) (fun h9 => ?_) (fun h9 => ?_)
    · replace he := if_no he h9
      exact B79 _ _ _ st v1 v2 s0 hv2 hs0 hI hC (lv_sub hl [1, 2, 3, 0] rfl) he
    replace he := if_go he h9
    refine lv_iconst (pc := 75) (v := 1) hx hb d_M_pin_75 (by decide) ?_
    refine lv_goto (pc := 76) (tgt := 80) hx hb d_M_pin_76 (by decide) ?_
    exact B80 _ _ _ st v1 v2 s0 1 hv2 hs0 b1 hI hC (lv_sub hl [1, 2, 3, 0] rfl) he
  have B15 : ∀ (H : Heap) (locs : List Loc) (ls : Array Slot) (st : MS) (v1 : Int32) (v2 : Int32) (s0 : Int32) (hv2 : v2 = 0 ∨ v2 = 1) (hs0 : s0 = 0 ∨ s0 = 1) (hI : SBm st), HC g A s (wM g cs o st) H locs → lv_has ls 5 [(0, .ref (g.model)), (1, .int v1), (2, .int v2)] → f_M_pin_15 st v1 v2 s0 = Rv → W p l e rm_M_pin s m args below meth c H locs 0 0 Q (F0 m 15 ls [.int s0, .ref (g.model)]) := by
    intro H locs ls st v1 v2 s0 hv2 hs0 hI hC hl he
    unfold f_M_pin_15 at he
    refine PM_thrown (pc := 15) X hC d_M_pin_15 (fun st3 H locs est3 hC => ?_)
    replace he := bS_go he est3
    replace hI := SB_tV est3 hI (Or.inl (by decide))
    refine lv_aload_n (pc := 18) hx hb d_M_pin_18 rfl (lv_at hl 0 rfl) ?_
    refine GM_thrown (pc := 19) X hC d_M_pin_19 ?_
    refine lv_if_eq (pc := 22) (tgt := 27) hx hb d_M_pin_22 (by decide) (fun h4 => ?_) (fun h4 => ?_)
    · replace he := if_go he h4
      refine lv_iload_n (pc := 27) hx hb d_M_pin_27 rfl (lv_at hl 1 rfl) ?_
      refine lv_if_ne (pc := 28) (tgt := 38) hx hb d_M_pin_28 (by decide) (fun h5 => ?_) (fun h5 => ?_)
      · replace he := if_no he h5
        refine lv_iload_n (pc := 38) hx hb d_M_pin_38 rfl (lv_at hl 1 rfl) ?_
        refine lv_iconst (pc := 39) (v := 1) hx hb d_M_pin_39 (by decide) ?_
        refine lv_icmp_ne (pc := 40) (tgt := 50) hx hb d_M_pin_40 (by decide) (fun h6 => ?_) (fun h6 => ?_)
        · replace he := if_no he h6
          refine lv_iload_n (pc := 50) hx hb d_M_pin_50 rfl (lv_at hl 1 rfl) ?_
          refine lv_iconst (pc := 51) (v := 2) hx hb d_M_pin_51 (by decide) ?_
          refine lv_icmp_ne (pc := 52) (tgt := 62) hx hb d_M_pin_52 (by decide) (fun h7 => ?_) (fun h7 => ?_)
          · replace he := if_no he h7
            refine lv_aload_n (pc := 62) hx hb d_M_pin_62 rfl (lv_at hl 0 rfl) ?_
            refine GM_so (pc := 63) X hC d_M_pin_63 ?_
            exact B66 _ _ _ st3 v1 v2 (st3.1 9) hv2 (hI.2.2.2) hI hC (lv_sub hl [0, 1, 2] rfl) he
          replace he := if_go he h7
          refine lv_aload_n (pc := 55) hx hb d_M_pin_55 rfl (lv_at hl 0 rfl) ?_
          refine GM_ready (pc := 56) X hC d_M_pin_56 ?_
          refine lv_goto (pc := 59) (tgt := 66) hx hb d_M_pin_59 (by decide) ?_
          exact B66 _ _ _ st3 v1 v2 (st3.1 8) hv2 (hI.2.2.1) hI hC (lv_sub hl [0, 1, 2] rfl) he
        replace he := if_go he h6
        refine lv_aload_n (pc := 43) hx hb d_M_pin_43 rfl (lv_at hl 0 rfl) ?_
        refine GM_irq (pc := 44) X hC d_M_pin_44 ?_
        refine lv_goto (pc := 47) (tgt := 66) hx hb d_M_pin_47 (by decide) ?_
        exact B66 _ _ _ st3 v1 v2 (st3.1 7) hv2 (hI.2.1) hI hC (lv_sub hl [0, 1, 2] rfl) he
      replace he := if_go he h5
      refine lv_aload_n (pc := 31) hx hb d_M_pin_31 rfl (lv_at hl 0 rfl) ?_
      refine GM_nmi (pc := 32) X hC d_M_pin_32 ?_
      refine lv_goto (pc := 35) (tgt := 66) hx hb d_M_pin_35 (by decide) ?_
      exact B66 _ _ _ st3 v1 v2 (st3.1 6) hv2 (hI.1) hI hC (lv_sub hl [0, 1, 2] rfl) he
    replace he := if_no he h4
    refine lv_iconst (pc := 25) (v := 0) hx hb d_M_pin_25 (by decide) ?_
    exact RET (pc := 26) d_M_pin_26 b0 hC he
  have B10 : ∀ (H : Heap) (locs : List Loc) (ls : Array Slot) (st : MS) (v1 : Int32) (v2 : Int32) (hv2 : v2 = 0 ∨ v2 = 1) (hI : SBm st), HC g A s (wM g cs o st) H locs → lv_has ls 5 [(0, .ref (g.model)), (1, .int v1), (2, .int v2)] → f_M_pin_10 st v1 v2 = Rv → W p l e rm_M_pin s m args below meth c H locs 0 0 Q (F0 m 10 ls [.ref (g.model)]) := by
    intro H locs ls st v1 v2 hv2 hI hC hl he
    unfold f_M_pin_10 at he
    refine lv_iconst (pc := 10) (v := 1) hx hb d_M_pin_10 (by decide) ?_
    refine lv_goto (pc := 11) (tgt := 15) hx hb d_M_pin_11 (by decide) ?_
    exact B15 _ _ _ st v1 v2 1 hv2 b1 hI hC (lv_sub hl [0, 1, 2] rfl) he
  unfold f_M_pin at he
  refine lv_aload_n (pc := 0) hx hb d_M_pin_0 rfl (lv_at hl 0 rfl) ?_
  refine lv_iload_n (pc := 1) hx hb d_M_pin_1 rfl (lv_at hl 1 rfl) ?_
  refine lv_if_lt (pc := 2) (tgt := 10) hx hb d_M_pin_2 (by decide) (fun h1 => ?_) (fun h1 => ?_)
  · replace he := if_go he h1
    exact B10 _ _ _ st v1 v2 hon hI hC (lv_sub hl [0, 1, 2] rfl) he
  replace he := if_no he h1
  refine lv_iload_n (pc := 5) hx hb d_M_pin_5 rfl (lv_at hl 1 rfl) ?_
  refine lv_iconst (pc := 6) (v := 3) hx hb d_M_pin_6 (by decide) ?_
  refine lv_icmp_le (pc := 7) (tgt := 14) hx hb d_M_pin_7 (by decide) (fun h2 => ?_) (fun h2 => ?_)
  · replace he := if_go he h2
    refine lv_iconst (pc := 14) (v := 0) hx hb d_M_pin_14 (by decide) ?_
    exact B15 _ _ _ st v1 v2 0 hon b0 hI hC (lv_sub hl [0, 1, 2] rfl) he
  replace he := if_no he h2
  exact B10 _ _ _ st v1 v2 hon hI hC (lv_sub hl [0, 1, 2] rfl) he

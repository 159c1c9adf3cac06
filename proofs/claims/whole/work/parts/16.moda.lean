/-! contracts of methods (printed by my own program: pure pictures and walks) -/
def f_M_thrown (st : MS)  : Int32 × MS := ((st.1 27), st)
abbrev rm_M_thrown : Room := { frames := 0, cells := 0, slots := 0, locals := 0 }
set_option maxHeartbeats 4000000 in
set_option maxRecDepth 100000 in
theorem k_M_thrown (l : Launch) (g : CG) (cs : CS) (o : Nat → Int64) (st : MS)  : KI l g y_M_thrown (Cond.code y_M_thrown c_M_thrown 1 (some .int) :: ALL) rm_M_thrown [.ref (g.model)] (wM g cs o) st (f_M_thrown st ) := by
  refine KI.ofW (by decide) (Nat.le_of_ble_eq_true rfl) ?_
  intro p e s m args below meth c A Q ls Rv X he RET hC hl
  obtain ⟨hx, hb⟩ := FX_xb X
  have hl : lv_has ls 1 [(0, .ref (g.model))] := hl
  unfold f_M_thrown at he
  refine lv_aload_n (pc := 0) hx hb d_M_thrown_0 rfl (lv_at hl 0 rfl) ?_
  refine GM_thrown (pc := 1) X hC d_M_thrown_1 ?_
  exact RET (pc := 4) d_M_thrown_4 hC he
def f_M_poke (st : MS) (v1 : Int32) (v2 : Int32) : Int32 × MS := bS (tV st 27 0) (fun st1 => bS ((uM st1 v1) : Int32) (fun y2 => bS (tM st1 v1 (v2 &&& 255)) (fun st3 => (y2, st3))))
abbrev rm_M_poke : Room := { frames := 0, cells := 0, slots := 0, locals := 0 }
set_option maxHeartbeats 4000000 in
set_option maxRecDepth 100000 in
theorem k_M_poke (l : Launch) (g : CG) (cs : CS) (o : Nat → Int64) (st : MS) (v1 : Int32) (v2 : Int32) : KI l g y_M_poke (Cond.code y_M_poke c_M_poke 4 (some .int) :: ALL) rm_M_poke [.ref (g.model), .int v1, .int v2] (wM g cs o) st (f_M_poke st v1 v2) := by
  refine KI.ofW (by decide) (Nat.le_of_ble_eq_true rfl) ?_
  intro p e s m args below meth c A Q ls Rv X he RET hC hl
  obtain ⟨hx, hb⟩ := FX_xb X
  have hl : lv_has ls 4 [(0, .ref (g.model)), (1, .int v1), (2, .int v2)] := hl
  unfold f_M_poke at he
  refine lv_aload_n (pc := 0) hx hb d_M_poke_0 rfl (lv_at hl 0 rfl) ?_
  refine lv_iconst (pc := 1) (v := 0) hx hb d_M_poke_1 (by decide) ?_
  refine PM_thrown (pc := 2) X hC d_M_poke_2 (fun st1 H locs est1 hC => ?_)
  replace he := bS_go he est1
  refine lv_aload_n (pc := 5) hx hb d_M_poke_5 rfl (lv_at hl 0 rfl) ?_
  refine GM_memory (pc := 6) X hC d_M_poke_6 ?_
  refine lv_iload_n (pc := 9) hx hb d_M_poke_9 rfl (lv_at hl 1 rfl) ?_
  refine lv_sipush (pc := 10) (v := 1023) hx hb d_M_poke_10 (by decide) ?_
  refine lv_iand (pc := 13) hx hb d_M_poke_13 ?_
  refine Ammem (pc := 14) (i := v1) X hC d_M_poke_14 ?_
  refine lv_topi (fun y2 ey2 => ?_)
  replace he := bS_go he ey2.symm
  refine lv_istore_n (pc := 15) (nL := 4) (lv' := [(3, .int y2), (0, .ref (g.model)), (1, .int v1), (2, .int v2)]) hx hb d_M_poke_15 rfl hl (by decide) rfl (fun ls hl => ?_)
  refine lv_aload_n (pc := 16) hx hb d_M_poke_16 rfl (lv_at hl 1 rfl) ?_
  refine GM_memory (pc := 17) X hC d_M_poke_17 ?_
  refine lv_iload_n (pc := 20) hx hb d_M_poke_20 rfl (lv_at hl 2 rfl) ?_
  refine lv_sipush (pc := 21) (v := 1023) hx hb d_M_poke_21 (by decide) ?_
  refine lv_iand (pc := 24) hx hb d_M_poke_24 ?_
  refine lv_iload_n (pc := 25) hx hb d_M_poke_25 rfl (lv_at hl 3 rfl) ?_
  refine lv_sipush (pc := 26) (v := 255) hx hb d_M_poke_26 (by decide) ?_
  refine lv_iand (pc := 29) hx hb d_M_poke_29 ?_
  refine Bmmem (pc := 30) (i := v1) X hC d_M_poke_30 (fun st3 H locs est3 hC => ?_)
  replace he := bS_go he est3
  refine lv_iload_n (pc := 31) hx hb d_M_poke_31 rfl (lv_at hl 0 rfl) ?_
  exact RET (pc := 32) d_M_poke_32 hC he
def f_M_peek (st : MS) (v1 : Int32) : Int32 × MS := bS (tV st 27 0) (fun st1 => ((uM st1 v1), st1))
abbrev rm_M_peek : Room := { frames := 0, cells := 0, slots := 0, locals := 0 }
set_option maxHeartbeats 4000000 in
set_option maxRecDepth 100000 in
theorem k_M_peek (l : Launch) (g : CG) (cs : CS) (o : Nat → Int64) (st : MS) (v1 : Int32) : KI l g y_M_peek (Cond.code y_M_peek c_M_peek 2 (some .int) :: ALL) rm_M_peek [.ref (g.model), .int v1] (wM g cs o) st (f_M_peek st v1) := by
  refine KI.ofW (by decide) (Nat.le_of_ble_eq_true rfl) ?_
  intro p e s m args below meth c A Q ls Rv X he RET hC hl
  obtain ⟨hx, hb⟩ := FX_xb X
  have hl : lv_has ls 2 [(0, .ref (g.model)), (1, .int v1)] := hl
  unfold f_M_peek at he
  refine lv_aload_n (pc := 0) hx hb d_M_peek_0 rfl (lv_at hl 0 rfl) ?_
  refine lv_iconst (pc := 1) (v := 0) hx hb d_M_peek_1 (by decide) ?_
  refine PM_thrown (pc := 2) X hC d_M_peek_2 (fun st1 H locs est1 hC => ?_)
  replace he := bS_go he est1
  refine lv_aload_n (pc := 5) hx hb d_M_peek_5 rfl (lv_at hl 0 rfl) ?_
  refine GM_memory (pc := 6) X hC d_M_peek_6 ?_
  refine lv_iload_n (pc := 9) hx hb d_M_peek_9 rfl (lv_at hl 1 rfl) ?_
  refine lv_sipush (pc := 10) (v := 1023) hx hb d_M_peek_10 (by decide) ?_
  refine lv_iand (pc := 13) hx hb d_M_peek_13 ?_
  refine Ammem (pc := 14) (i := v1) X hC d_M_peek_14 ?_
  exact RET (pc := 15) d_M_peek_15 hC he
def f_M_reset (st : MS)  : MS := bS (tV st 27 0) (fun st1 => bS (tV st1 11 2) (fun st2 => bS (tV st2 12 0) (fun st3 => bS (tV st3 13 0) (fun st4 => bS (tV st4 10 0) (fun st5 => st5)))))
abbrev rm_M_reset : Room := { frames := 0, cells := 0, slots := 0, locals := 0 }
set_option maxHeartbeats 4000000 in
set_option maxRecDepth 100000 in
theorem k_M_reset (l : Launch) (g : CG) (cs : CS) (o : Nat → Int64) (st : MS)  : KV l g y_M_reset (Cond.code y_M_reset c_M_reset 1 none :: ALL) rm_M_reset [.ref (g.model)] (wM g cs o) st (f_M_reset st ) := by
  refine KV.ofW (by decide) (Nat.le_of_ble_eq_true rfl) ?_
  intro p e s m args below meth c A Q ls Rv X he RET hC hl
  obtain ⟨hx, hb⟩ := FX_xb X
  have hl : lv_has ls 1 [(0, .ref (g.model))] := hl
  unfold f_M_reset at he
  refine lv_aload_n (pc := 0) hx hb d_M_reset_0 rfl (lv_at hl 0 rfl) ?_
  refine lv_iconst (pc := 1) (v := 0) hx hb d_M_reset_1 (by decide) ?_
  refine PM_thrown (pc := 2) X hC d_M_reset_2 (fun st1 H locs est1 hC => ?_)
  replace he := bS_go he est1
  refine lv_aload_n (pc := 5) hx hb d_M_reset_5 rfl (lv_at hl 0 rfl) ?_
  refine lv_iconst (pc := 6) (v := 2) hx hb d_M_reset_6 (by decide) ?_
  refine PM_going (pc := 7) X hC d_M_reset_7 (fun st2 H locs est2 hC => ?_)
  replace he := bS_go he est2
  refine lv_aload_n (pc := 10) hx hb d_M_reset_10 rfl (lv_at hl 0 rfl) ?_
  refine lv_iconst (pc := 11) (v := 0) hx hb d_M_reset_11 (by decide) ?_
  refine PM_done (pc := 12) X hC d_M_reset_12 (fun st3 H locs est3 hC => ?_)
  replace he := bS_go he est3
  refine lv_aload_n (pc := 15) hx hb d_M_reset_15 rfl (lv_at hl 0 rfl) ?_
  refine lv_iconst (pc := 16) (v := 0) hx hb d_M_reset_16 (by decide) ?_
  refine PM_jam (pc := 17) X hC b0 d_M_reset_17 (fun st4 H locs est4 hC => ?_)
  replace he := bS_go he est4
  refine lv_aload_n (pc := 20) hx hb d_M_reset_20 rfl (lv_at hl 0 rfl) ?_
  refine lv_iconst (pc := 21) (v := 0) hx hb d_M_reset_21 (by decide) ?_
  refine PM_wanted (pc := 22) X hC b0 d_M_reset_22 (fun st5 H locs est5 hC => ?_)
  replace he := bS_go he est5
  exact RET (pc := 25) d_M_reset_25 hC he
def f_M_target_24 (st : MS) (s0 : Int32) : Int32 × MS := ((((st.1 4) + s0) &&& 65535), st)
def f_M_target (st : MS)  : Int32 × MS := if (st.1 16) ≤ 127 then (f_M_target_24 st (st.1 16)) else (f_M_target_24 st ((st.1 16) - 256))
abbrev rm_M_target : Room := { frames := 0, cells := 0, slots := 0, locals := 0 }
set_option maxHeartbeats 4000000 in
set_option maxRecDepth 100000 in
theorem k_M_target (l : Launch) (g : CG) (cs : CS) (o : Nat → Int64) (st : MS)  : KI l g y_M_target (Cond.code y_M_target c_M_target 2 (some .int) :: ALL) rm_M_target [.ref (g.model)] (wM g cs o) st (f_M_target st ) := by
  refine KI.ofW (by decide) (Nat.le_of_ble_eq_true rfl) ?_
  intro p e s m args below meth c A Q ls Rv X he RET hC hl
  obtain ⟨hx, hb⟩ := FX_xb X
  have hl : lv_has ls 2 [(0, .ref (g.model))] := hl
  have B24 : ∀ (H : Heap) (locs : List Loc) (ls : Array Slot) (st : MS) (s0 : Int32), HC g A s (wM g cs o st) H locs → lv_has ls 2 [(0, .ref (g.model))] → f_M_target_24 st s0 = Rv → W p l e rm_M_target s m args below meth c H locs 0 0 Q (F0 m 24 ls [.int s0]) := by
    intro H locs ls st s0  hC hl he
    unfold f_M_target_24 at he
    refine lv_istore_n (pc := 24) (nL := 2) (lv' := [(1, .int s0), (0, .ref (g.model))]) hx hb d_M_target_24 rfl hl (by decide) rfl (fun ls hl => ?_)
    refine lv_aload_n (pc := 25) hx hb d_M_target_25 rfl (lv_at hl 1 rfl) ?_
    refine GM_pc (pc := 26) X hC d_M_target_26 ?_
    refine lv_iload_n (pc := 29) hx hb d_M_target_29 rfl (lv_at hl 0 rfl) ?_
    refine lv_iadd (pc := 30) hx hb d_M_target_30 ?_
    refine LM_71 (pc := 31) X d_M_target_31 ?_
    refine lv_iand (pc := 33) hx hb d_M_target_33 ?_
    exact RET (pc := 34) d_M_target_34 hC he
  unfold f_M_target at he
  refine lv_aload_n (pc := 0) hx hb d_M_target_0 rfl (lv_at hl 0 rfl) ?_
  refine GM_z (pc := 1) X hC d_M_target_1 ?_
  refine lv_bipush (pc := 4) (v := 127) hx hb d_M_target_4 (by decide) ?_
  refine lv_icmp_le (pc := 6) (tgt := 20) hx hb d_M_target_6 (by decide) (fun h1 => ?_) (fun h1 => ?_)
  · replace he := if_go he h1
    refine lv_aload_n (pc := 20) hx hb d_M_target_20 rfl (lv_at hl 0 rfl) ?_
    refine GM_z (pc := 21) X hC d_M_target_21 ?_
    exact B24 _ _ _ st (st.1 16)  hC (lv_sub hl [0] rfl) he
  replace he := if_no he h1
  refine lv_aload_n (pc := 9) hx hb d_M_target_9 rfl (lv_at hl 0 rfl) ?_
  refine GM_z (pc := 10) X hC d_M_target_10 ?_
  refine lv_sipush (pc := 13) (v := 256) hx hb d_M_target_13 (by decide) ?_
  refine lv_isub (pc := 16) hx hb d_M_target_16 ?_
  refine lv_goto (pc := 17) (tgt := 24) hx hb d_M_target_17 (by decide) ?_
  exact B24 _ _ _ st ((st.1 16) - 256)  hC (lv_sub hl [0] rfl) he
def f_M_plainRow_163 (st : MS) (s0 : Int64) : Int64 × MS := (s0, st)
def f_M_plainRow_162 (st : MS) (s0 : Int64) (s1 : Int64) : Int64 × MS := f_M_plainRow_163 st (s1 + s0)
def f_M_plainRow_161 (st : MS) (s0 : Int64) : Int64 × MS := f_M_plainRow_162 st 0 s0
def f_M_plainRow (st : MS)  : Int64 × MS := if (st.1 15) = 7 then (if (st.1 14) = 16 then ((1905, st)) else (if (st.1 14) = 17 then ((210705, st)) else (if (st.1 14) = 18 then ((2005, st)) else (if (st.1 14) = 19 then ((220705, st)) else (if (st.1 14) = 20 then ((2524230705, st)) else (if (st.1 14) = 21 then ((2423220705, st)) else (if (st.1 14) = 22 then ((292818171604, st)) else ((5, st))))))))) else (if (st.1 14) = 24 then ((2702, st)) else (if (st.1 14) = 25 then ((2617160702, st)) else (if (st.1 21) = 0 then (f_M_plainRow_163 st 2) else (if (st.1 12) ≤ 1 then (f_M_plainRow_161 st 502) else (bP (f_M_target st ) (fun r7 st6 => if (r7 >>> ((8 : Int32) &&& 31)) = ((st6.1 4) >>> ((8 : Int32) &&& 31)) then (f_M_plainRow_161 st6 502) else (f_M_plainRow_162 st6 310000 502)))))))
abbrev rm_M_plainRow : Room := { frames := 1, cells := 0, slots := 0, locals := 21 }
set_option maxHeartbeats 4000000 in
set_option maxRecDepth 100000 in
theorem k_M_plainRow (l : Launch) (g : CG) (cs : CS) (o : Nat → Int64) (st : MS)  : KJ l g y_M_plainRow (Cond.code y_M_plainRow c_M_plainRow 1 (some .long) :: ALL) rm_M_plainRow [.ref (g.model)] (wM g cs o) st (f_M_plainRow st ) := by
  refine KJ.ofW (by decide) (Nat.le_of_ble_eq_true rfl) ?_
  intro p e s m args below meth c A Q ls Rv X he RET hC hl
  obtain ⟨hx, hb⟩ := FX_xb X
  have hl : lv_has ls 1 [(0, .ref (g.model))] := hl
  have B163 : ∀ (H : Heap) (locs : List Loc) (ls : Array Slot) (st : MS) (s0 : Int64), HC g A s (wM g cs o st) H locs → lv_has ls 1 [] → f_M_plainRow_163 st s0 = Rv → W p l e rm_M_plainRow s m args below meth c H locs 0 0 Q (F0 m 163 ls [.long s0]) := by
    intro H locs ls st s0  hC hl he
    unfold f_M_plainRow_163 at he
    exact RET (pc := 163) d_M_plainRow_163 hC he
  have B162 : ∀ (H : Heap) (locs : List Loc) (ls : Array Slot) (st : MS) (s0 : Int64) (s1 : Int64), HC g A s (wM g cs o st) H locs → lv_has ls 1 [] → f_M_plainRow_162 st s0 s1 = Rv → W p l e rm_M_plainRow s m args below meth c H locs 0 0 Q (F0 m 162 ls [.long s0, .long s1]) := by
    intro H locs ls st s0 s1  hC hl he
    unfold f_M_plainRow_162 at he
    refine lv_ladd (pc := 162) hx hb d_M_plainRow_162 ?_
    exact B163 _ _ _ st (s1 + s0)  hC (lv_sub hl [] rfl) he
  have B161 : ∀ (H : Heap) (locs : List Loc) (ls : Array Slot) (st : MS) (s0 : Int64), HC g A s (wM g cs o st) H locs → lv_has ls 1 [] → f_M_plainRow_161 st s0 = Rv → W p l e rm_M_plainRow s m args below meth c H locs 0 0 Q (F0 m 161 ls [.long s0]) := by
    intro H locs ls st s0  hC hl he
    unfold f_M_plainRow_161 at he
    refine lv_lconst (pc := 161) (v := 0) hx hb d_M_plainRow_161 (by decide) ?_
    exact B162 _ _ _ st 0 s0  hC (lv_sub hl [] rfl) he
  unfold f_M_plainRow at he
  refine lv_aload_n (pc := 0) hx hb d_M_plainRow_0 rfl (lv_at hl 0 rfl) ?_
  refine GM_mode (pc := 1) X hC d_M_plainRow_1 ?_
  refine lv_bipush (pc := 4) (v := 7) hx hb d_M_plainRow_4 (by decide) ?_
  refine lv_icmp_ne (pc := 6) (tgt := 88) hx hb d_M_plainRow_6 (by decide) (fun h1 => ?_) (fun h1 => ?_)
  · replace he := if_no he h1
    refine lv_aload_n (pc := 88) hx hb d_M_plainRow_88 rfl (lv_at hl 0 rfl) ?_
    refine GM_operation (pc := 89) X hC d_M_plainRow_89 ?_
    refine lv_bipush (pc := 92) (v := 24) hx hb d_M_plainRow_92 (by decide) ?_
    refine lv_icmp_ne (pc := 94) (tgt := 101) hx hb d_M_plainRow_94 (by decide) (fun h2 => ?_) (fun h2 => ?_)
    · replace he := if_no he h2
      refine lv_aload_n (pc := 101) hx hb d_M_plainRow_101 rfl (lv_at hl 0 rfl) ?_
      refine GM_operation (pc := 102) X hC d_M_plainRow_102 ?_
      refine lv_bipush (pc := 105) (v := 25) hx hb d_M_plainRow_105 (by decide) ?_
      refine lv_icmp_ne (pc := 107) (tgt := 114) hx hb d_M_plainRow_107 (by decide) (fun h3 => ?_) (fun h3 => ?_)
      · replace he := if_no he h3
        refine lv_aload_n (pc := 114) hx hb d_M_plainRow_114 rfl (lv_at hl 0 rfl) ?_
        refine GM_taken (pc := 115) X hC d_M_plainRow_115 ?_
        refine lv_if_ne (pc := 118) (tgt := 127) hx hb d_M_plainRow_118 (by decide) (fun h4 => ?_) (fun h4 => ?_)
        · replace he := if_no he h4
          refine LM_113 (pc := 127) X d_M_plainRow_127 ?_
          refine lv_aload_n (pc := 130) hx hb d_M_plainRow_130 rfl (lv_at hl 0 rfl) ?_
          refine GM_done (pc := 131) X hC d_M_plainRow_131 ?_
          refine lv_iconst (pc := 134) (v := 1) hx hb d_M_plainRow_134 (by decide) ?_
          refine lv_icmp_le (pc := 135) (tgt := 161) hx hb d_M_plainRow_135 (by decide) (fun h5 => ?_) (fun h5 => ?_)
          · replace he := if_go he h5
            exact B161 _ _ _ st 502  hC (lv_sub hl [] rfl) he
          replace he := if_no he h5
          refine lv_aload_n (pc := 138) hx hb d_M_plainRow_138 rfl (lv_at hl 0 rfl) ?_
          refine callIO (q0 := 4) (pc := 139) (As := []) (rest := [.long 502]) X (k_M_target l g cs o st ) hC (NM_M_target_115 X rfl rfl ⟨by decide, by decide⟩) rfl rfl rfl hl.1 (Nat.le_of_ble_eq_true rfl) rfl d_M_plainRow_139 ⟨Nat.zero_le _, Nat.zero_le _⟩ (fun r7 st6 H locs est6 hC => ?_)
          replace he := bP_go he est6
          refine lv_bipush (pc := 142) (v := 8) hx hb d_M_plainRow_142 (by decide) ?_
          refine lv_ishr (pc := 144) hx hb d_M_plainRow_144 ?_
          refine lv_aload_n (pc := 145) hx hb d_M_plainRow_145 rfl (lv_at hl 0 rfl) ?_
          refine GM_pc (pc := 146) X hC d_M_plainRow_146 ?_
          refine lv_bipush (pc := 149) (v := 8) hx hb d_M_plainRow_149 (by decide) ?_
          refine lv_ishr (pc := 151) hx hb d_M_plainRow_151 ?_
          refine lv_icmp_eq (pc := 152) (tgt := 161) hx hb d_M_plainRow_152 (by decide) (fun h8 => ?_) (fun h8 => ?_)
          · replace he := if_go he h8
            exact B161 _ _ _ st6 502  hC (lv_sub hl [] rfl) he
          replace he := if_no he h8
          refine LM_118 (pc := 155) X d_M_plainRow_155 ?_
          refine lv_goto (pc := 158) (tgt := 162) hx hb d_M_plainRow_158 (by decide) ?_
          exact B162 _ _ _ st6 310000 502  hC (lv_sub hl [] rfl) he
        replace he := if_go he h4
        refine LM_111 (pc := 121) X d_M_plainRow_121 ?_
        refine lv_goto (pc := 124) (tgt := 163) hx hb d_M_plainRow_124 (by decide) ?_
        exact B163 _ _ _ st 2  hC (lv_sub hl [] rfl) he
      replace he := if_go he h3
      refine LM_106 (pc := 110) X d_M_plainRow_110 ?_
      exact RET (pc := 113) d_M_plainRow_113 hC he
    replace he := if_go he h2
    refine LM_104 (pc := 97) X d_M_plainRow_97 ?_
    exact RET (pc := 100) d_M_plainRow_100 hC he
  replace he := if_go he h1
  refine lv_aload_n (pc := 9) hx hb d_M_plainRow_9 rfl (lv_at hl 0 rfl) ?_
  refine GM_operation (pc := 10) X hC d_M_plainRow_10 ?_
  by_cases h9 : (st.1 14) = 16
  · replace he := if_go he h9
    refine lv_tableIn (pc := 13) (tgt := 56) hx hb d_M_plainRow_13 (by rw [h9]; decide) (by rw [h9]; decide) (by rw [h9]; rfl) (by decide) ?_
    refine LM_88 (pc := 56) X d_M_plainRow_56 ?_
    exact RET (pc := 59) d_M_plainRow_59 hC he
  replace he := if_no he h9
  by_cases h10 : (st.1 14) = 17
  · replace he := if_go he h10
    refine lv_tableIn (pc := 13) (tgt := 60) hx hb d_M_plainRow_13 (by rw [h10]; decide) (by rw [h10]; decide) (by rw [h10]; rfl) (by decide) ?_
    refine LM_90 (pc := 60) X d_M_plainRow_60 ?_
    exact RET (pc := 63) d_M_plainRow_63 hC he
  replace he := if_no he h10
  by_cases h11 : (st.1 14) = 18
  · replace he := if_go he h11
    refine lv_tableIn (pc := 13) (tgt := 64) hx hb d_M_plainRow_13 (by rw [h11]; decide) (by rw [h11]; decide) (by rw [h11]; rfl) (by decide) ?_
    refine LM_92 (pc := 64) X d_M_plainRow_64 ?_
    exact RET (pc := 67) d_M_plainRow_67 hC he
  replace he := if_no he h11
  by_cases h12 : (st.1 14) = 19
  · replace he := if_go he h12
    refine lv_tableIn (pc := 13) (tgt := 68) hx hb d_M_plainRow_13 (by rw [h12]; decide) (by rw [h12]; decide) (by rw [h12]; rfl) (by decide) ?_
    refine LM_94 (pc := 68) X d_M_plainRow_68 ?_
    exact RET (pc := 71) d_M_plainRow_71 hC he
  replace he := if_no he h12
  by_cases h13 : (st.1 14) = 20
  · replace he := if_go he h13
    refine lv_tableIn (pc := 13) (tgt := 72) hx hb d_M_plainRow_13 (by rw [h13]; decide) (by rw [h13]; decide) (by rw [h13]; rfl) (by decide) ?_
    refine LM_96 (pc := 72) X d_M_plainRow_72 ?_
    exact RET (pc := 75) d_M_plainRow_75 hC he
  replace he := if_no he h13
  by_cases h14 : (st.1 14) = 21
  · replace he := if_go he h14
    refine lv_tableIn (pc := 13) (tgt := 76) hx hb d_M_plainRow_13 (by rw [h14]; decide) (by rw [h14]; decide) (by rw [h14]; rfl) (by decide) ?_
    refine LM_98 (pc := 76) X d_M_plainRow_76 ?_
    exact RET (pc := 79) d_M_plainRow_79 hC he
  replace he := if_no he h14
  by_cases h15 : (st.1 14) = 22
  · replace he := if_go he h15
    refine lv_tableIn (pc := 13) (tgt := 80) hx hb d_M_plainRow_13 (by rw [h15]; decide) (by rw [h15]; decide) (by rw [h15]; rfl) (by decide) ?_
    refine LM_100 (pc := 80) X d_M_plainRow_80 ?_
    exact RET (pc := 83) d_M_plainRow_83 hC he
  replace he := if_no he h15
  refine lv_tableOut (pc := 13) (tgt := 84) hx hb d_M_plainRow_13 (by have nh9 := lv_neT (a := 16) h9 (by decide); have nh10 := lv_neT (a := 17) h10 (by decide); have nh11 := lv_neT (a := 18) h11 (by decide); have nh12 := lv_neT (a := 19) h12 (by decide); have nh13 := lv_neT (a := 20) h13 (by decide); have nh14 := lv_neT (a := 21) h14 (by decide); have nh15 := lv_neT (a := 22) h15 (by decide); omega) (by decide) ?_
  refine LM_102 (pc := 84) X d_M_plainRow_84 ?_
  exact RET (pc := 87) d_M_plainRow_87 hC he
def f_M_addressRow_54 (st : MS)  : Int64 × MS := (302, st)
def f_M_addressRow (st : MS)  : Int64 × MS := if (st.1 15) = 0 then ((0, st)) else (if (st.1 15) = 1 then ((2, st)) else (if (st.1 15) = 2 then ((602, st)) else (if (st.1 15) = 3 then (f_M_addressRow_54 st ) else (if (st.1 15) = 4 then (f_M_addressRow_54 st ) else (if (st.1 15) = 5 then ((10090602, st)) else ((100902, st)))))))
abbrev rm_M_addressRow : Room := { frames := 0, cells := 0, slots := 0, locals := 0 }
set_option maxHeartbeats 4000000 in
set_option maxRecDepth 100000 in
theorem k_M_addressRow (l : Launch) (g : CG) (cs : CS) (o : Nat → Int64) (st : MS)  : KJ l g y_M_addressRow (Cond.code y_M_addressRow c_M_addressRow 1 (some .long) :: ALL) rm_M_addressRow [.ref (g.model)] (wM g cs o) st (f_M_addressRow st ) := by
  refine KJ.ofW (by decide) (Nat.le_of_ble_eq_true rfl) ?_
  intro p e s m args below meth c A Q ls Rv X he RET hC hl
  obtain ⟨hx, hb⟩ := FX_xb X
  have hl : lv_has ls 1 [(0, .ref (g.model))] := hl
  have B54 : ∀ (H : Heap) (locs : List Loc) (ls : Array Slot) (st : MS) , HC g A s (wM g cs o st) H locs → lv_has ls 1 [] → f_M_addressRow_54 st  = Rv → W p l e rm_M_addressRow s m args below meth c H locs 0 0 Q (F0 m 54 ls []) := by
    intro H locs ls st   hC hl he
    unfold f_M_addressRow_54 at he
    refine LM_122 (pc := 54) X d_M_addressRow_54 ?_
    exact RET (pc := 57) d_M_addressRow_57 hC he
  unfold f_M_addressRow at he
  refine lv_aload_n (pc := 0) hx hb d_M_addressRow_0 rfl (lv_at hl 0 rfl) ?_
  refine GM_mode (pc := 1) X hC d_M_addressRow_1 ?_
  by_cases h1 : (st.1 15) = 0
  · replace he := if_go he h1
    refine lv_tableIn (pc := 4) (tgt := 44) hx hb d_M_addressRow_4 (by rw [h1]; decide) (by rw [h1]; decide) (by rw [h1]; rfl) (by decide) ?_
    refine lv_lconst (pc := 44) (v := 0) hx hb d_M_addressRow_44 (by decide) ?_
    exact RET (pc := 45) d_M_addressRow_45 hC he
  replace he := if_no he h1
  by_cases h2 : (st.1 15) = 1
  · replace he := if_go he h2
    refine lv_tableIn (pc := 4) (tgt := 46) hx hb d_M_addressRow_4 (by rw [h2]; decide) (by rw [h2]; decide) (by rw [h2]; rfl) (by decide) ?_
    refine LM_111 (pc := 46) X d_M_addressRow_46 ?_
    exact RET (pc := 49) d_M_addressRow_49 hC he
  replace he := if_no he h2
  by_cases h3 : (st.1 15) = 2
  · replace he := if_go he h3
    refine lv_tableIn (pc := 4) (tgt := 50) hx hb d_M_addressRow_4 (by rw [h3]; decide) (by rw [h3]; decide) (by rw [h3]; rfl) (by decide) ?_
    refine LM_120 (pc := 50) X d_M_addressRow_50 ?_
    exact RET (pc := 53) d_M_addressRow_53 hC he
  replace he := if_no he h3
  by_cases h4 : (st.1 15) = 3
  · replace he := if_go he h4
    refine lv_tableIn (pc := 4) (tgt := 54) hx hb d_M_addressRow_4 (by rw [h4]; decide) (by rw [h4]; decide) (by rw [h4]; rfl) (by decide) ?_
    exact B54 _ _ _ st   hC (lv_sub hl [] rfl) he
  replace he := if_no he h4
  by_cases h5 : (st.1 15) = 4
  · replace he := if_go he h5
    refine lv_tableIn (pc := 4) (tgt := 54) hx hb d_M_addressRow_4 (by rw [h5]; decide) (by rw [h5]; decide) (by rw [h5]; rfl) (by decide) ?_
    exact B54 _ _ _ st   hC (lv_sub hl [] rfl) he
  replace he := if_no he h5
  by_cases h6 : (st.1 15) = 5
  · replace he := if_go he h6
    refine lv_tableIn (pc := 4) (tgt := 58) hx hb d_M_addressRow_4 (by rw [h6]; decide) (by rw [h6]; decide) (by rw [h6]; rfl) (by decide) ?_
    refine LM_124 (pc := 58) X d_M_addressRow_58 ?_
    exact RET (pc := 61) d_M_addressRow_61 hC he
  replace he := if_no he h6
  refine lv_tableOut (pc := 4) (tgt := 62) hx hb d_M_addressRow_4 (by have nh1 := lv_neT (a := 0) h1 (by decide); have nh2 := lv_neT (a := 1) h2 (by decide); have nh3 := lv_neT (a := 2) h3 (by decide); have nh4 := lv_neT (a := 3) h4 (by decide); have nh5 := lv_neT (a := 4) h5 (by decide); have nh6 := lv_neT (a := 5) h6 (by decide); omega) (by decide) ?_
  refine LM_126 (pc := 62) X d_M_addressRow_62 ?_
  exact RET (pc := 65) d_M_addressRow_65 hC he
def f_M_isChange_23 (st : MS) (s0 : Int32) : Int32 × MS := (s0, st)
def f_M_isChange_22 (st : MS)  : Int32 × MS := f_M_isChange_23 st 0
def f_M_isChange (st : MS)  : Int32 × MS := if (st.1 14) < 10 then (f_M_isChange_22 st ) else (if 13 < (st.1 14) then (f_M_isChange_22 st ) else (f_M_isChange_23 st 1))
abbrev rm_M_isChange : Room := { frames := 0, cells := 0, slots := 0, locals := 0 }
set_option maxHeartbeats 4000000 in
set_option maxRecDepth 100000 in
theorem k_M_isChange (l : Launch) (g : CG) (cs : CS) (o : Nat → Int64) (st : MS)  : KZ l g y_M_isChange (Cond.code y_M_isChange c_M_isChange 1 (some .boolean) :: ALL) rm_M_isChange [.ref (g.model)] (wM g cs o) st (f_M_isChange st ) := by
  refine KZ.ofW (by decide) (Nat.le_of_ble_eq_true rfl) ?_
  intro p e s m args below meth c A Q ls Rv X he RET hC hl
  obtain ⟨hx, hb⟩ := FX_xb X
  have hl : lv_has ls 1 [(0, .ref (g.model))] := hl
  have B23 : ∀ (H : Heap) (locs : List Loc) (ls : Array Slot) (st : MS) (s0 : Int32) (hs0 : s0 = 0 ∨ s0 = 1), HC g A s (wM g cs o st) H locs → lv_has ls 1 [] → f_M_isChange_23 st s0 = Rv → W p l e rm_M_isChange s m args below meth c H locs 0 0 Q (F0 m 23 ls [.int s0]) := by
    intro H locs ls st s0 hs0 hC hl he
    unfold f_M_isChange_23 at he
    exact RET (pc := 23) d_M_isChange_23 hs0 hC he
  have B22 : ∀ (H : Heap) (locs : List Loc) (ls : Array Slot) (st : MS) , HC g A s (wM g cs o st) H locs → lv_has ls 1 [] → f_M_isChange_22 st  = Rv → W p l e rm_M_isChange s m args below meth c H locs 0 0 Q (F0 m 22 ls []) := by
    intro H locs ls st   hC hl he
    unfold f_M_isChange_22 at he
    refine lv_iconst (pc := 22) (v := 0) hx hb d_M_isChange_22 (by decide) ?_
    exact B23 _ _ _ st 0 b0 hC (lv_sub hl [] rfl) he
  unfold f_M_isChange at he
  refine lv_aload_n (pc := 0) hx hb d_M_isChange_0 rfl (lv_at hl 0 rfl) ?_
  refine GM_operation (pc := 1) X hC d_M_isChange_1 ?_
  refine lv_bipush (pc := 4) (v := 10) hx hb d_M_isChange_4 (by decide) ?_
  refine lv_icmp_lt (pc := 6) (tgt := 22) hx hb d_M_isChange_6 (by decide) (fun h1 => ?_) (fun h1 => ?_)
  · replace he := if_go he h1
    exact B22 _ _ _ st   hC (lv_sub hl [] rfl) he
  replace he := if_no he h1
  refine lv_aload_n (pc := 9) hx hb d_M_isChange_9 rfl (lv_at hl 0 rfl) ?_
  refine GM_operation (pc := 10) X hC d_M_isChange_10 ?_
  refine lv_bipush (pc := 13) (v := 13) hx hb d_M_isChange_13 (by decide) ?_
  refine lv_icmp_gt (pc := 15) (tgt := 22) hx hb d_M_isChange_15 (by decide) (fun h2 => ?_) (fun h2 => ?_)
  · replace he := if_go he h2
    exact B22 _ _ _ st   hC (lv_sub hl [] rfl) he
  replace he := if_no he h2
  refine lv_iconst (pc := 18) (v := 1) hx hb d_M_isChange_18 (by decide) ?_
  refine lv_goto (pc := 19) (tgt := 23) hx hb d_M_isChange_19 (by decide) ?_
  exact B23 _ _ _ st 1 b1 hC (lv_sub hl [] rfl) he
def f_M_access_67 (st : MS) (s0 : Int32) : Int32 × MS := (s0, st)
def f_M_access_56 (st : MS) (s0 : Int32) : Int32 × MS := (s0, st)
def f_M_access_18 (st : MS) (s0 : Int32) : Int32 × MS := (s0, st)
def f_M_access (st : MS) (v1 : Int32) : Int32 × MS := if (st.1 14) = 1 then (if v1 = 0 then (f_M_access_18 st 12) else (f_M_access_18 st 0)) else (bP (f_M_isChange st ) (fun r3 st2 => if r3 = 0 then (if v1 = 0 then (f_M_access_67 st2 11) else (f_M_access_67 st2 0)) else (if v1 = 0 then (f_M_access_56 st2 13) else (if v1 = 1 then (f_M_access_56 st2 14) else (if v1 = 2 then (f_M_access_56 st2 15) else (f_M_access_56 st2 0))))))
abbrev rm_M_access : Room := { frames := 1, cells := 0, slots := 0, locals := 20 }
set_option maxHeartbeats 4000000 in
set_option maxRecDepth 100000 in
theorem k_M_access (l : Launch) (g : CG) (cs : CS) (o : Nat → Int64) (st : MS) (v1 : Int32) : KI l g y_M_access (Cond.code y_M_access c_M_access 2 (some .int) :: ALL) rm_M_access [.ref (g.model), .int v1] (wM g cs o) st (f_M_access st v1) := by
  refine KI.ofW (by decide) (Nat.le_of_ble_eq_true rfl) ?_
  intro p e s m args below meth c A Q ls Rv X he RET hC hl
  obtain ⟨hx, hb⟩ := FX_xb X
  have hl : lv_has ls 2 [(0, .ref (g.model)), (1, .int v1)] := hl
  have B67 : ∀ (H : Heap) (locs : List Loc) (ls : Array Slot) (st : MS) (s0 : Int32), HC g A s (wM g cs o st) H locs → lv_has ls 2 [] → f_M_access_67 st s0 = Rv → W p l e rm_M_access s m args below meth c H locs 0 0 Q (F0 m 67 ls [.int s0]) := by
    intro H locs ls st s0  hC hl he
    unfold f_M_access_67 at he
    exact RET (pc := 67) d_M_access_67 hC he
  have B56 : ∀ (H : Heap) (locs : List Loc) (ls : Array Slot) (st : MS) (s0 : Int32), HC g A s (wM g cs o st) H locs → lv_has ls 2 [] → f_M_access_56 st s0 = Rv → W p l e rm_M_access s m args below meth c H locs 0 0 Q (F0 m 56 ls [.int s0]) := by
    intro H locs ls st s0  hC hl he
    unfold f_M_access_56 at he
    exact RET (pc := 56) d_M_access_56 hC he
  have B18 : ∀ (H : Heap) (locs : List Loc) (ls : Array Slot) (st : MS) (s0 : Int32), HC g A s (wM g cs o st) H locs → lv_has ls 2 [] → f_M_access_18 st s0 = Rv → W p l e rm_M_access s m args below meth c H locs 0 0 Q (F0 m 18 ls [.int s0]) := by
    intro H locs ls st s0  hC hl he
    unfold f_M_access_18 at he
    exact RET (pc := 18) d_M_access_18 hC he
  unfold f_M_access at he
  refine lv_aload_n (pc := 0) hx hb d_M_access_0 rfl (lv_at hl 0 rfl) ?_
  refine GM_operation (pc := 1) X hC d_M_access_1 ?_
  refine lv_iconst (pc := 4) (v := 1) hx hb d_M_access_4 (by decide) ?_
  refine lv_icmp_ne (pc := 5) (tgt := 19) hx hb d_M_access_5 (by decide) (fun h1 => ?_) (fun h1 => ?_)
  · replace he := if_no he h1
    refine lv_aload_n (pc := 19) hx hb d_M_access_19 rfl (lv_at hl 0 rfl) ?_
    refine callZO (q0 := 4) (pc := 20) (As := []) (rest := []) X (k_M_isChange l g cs o st ) hC (NM_M_isChange_55 X rfl rfl ⟨by decide, by decide⟩) rfl rfl rfl hl.1 (Nat.le_of_ble_eq_true rfl) rfl d_M_access_20 ⟨Nat.zero_le _, Nat.zero_le _⟩ (fun r3 st2 H locs est2 br3 hC => ?_)
    replace he := bP_go he est2
    refine lv_if_eq (pc := 23) (tgt := 57) hx hb d_M_access_23 (by decide) (fun h4 => ?_) (fun h4 => ?_)
    · replace he := if_go he h4
      refine lv_iload_n (pc := 57) hx hb d_M_access_57 rfl (lv_at hl 1 rfl) ?_
      refine lv_if_ne (pc := 58) (tgt := 66) hx hb d_M_access_58 (by decide) (fun h5 => ?_) (fun h5 => ?_)
      · replace he := if_no he h5
        refine lv_iconst (pc := 66) (v := 0) hx hb d_M_access_66 (by decide) ?_
        exact B67 _ _ _ st2 0  hC (lv_sub hl [] rfl) he
      replace he := if_go he h5
      refine lv_bipush (pc := 61) (v := 11) hx hb d_M_access_61 (by decide) ?_
      refine lv_goto (pc := 63) (tgt := 67) hx hb d_M_access_63 (by decide) ?_
      exact B67 _ _ _ st2 11  hC (lv_sub hl [] rfl) he
    replace he := if_no he h4
    refine lv_iload_n (pc := 26) hx hb d_M_access_26 rfl (lv_at hl 1 rfl) ?_
    refine lv_if_ne (pc := 27) (tgt := 35) hx hb d_M_access_27 (by decide) (fun h6 => ?_) (fun h6 => ?_)
    · replace he := if_no he h6
      refine lv_iload_n (pc := 35) hx hb d_M_access_35 rfl (lv_at hl 1 rfl) ?_
      refine lv_iconst (pc := 36) (v := 1) hx hb d_M_access_36 (by decide) ?_
      refine lv_icmp_ne (pc := 37) (tgt := 45) hx hb d_M_access_37 (by decide) (fun h7 => ?_) (fun h7 => ?_)
      · replace he := if_no he h7
        refine lv_iload_n (pc := 45) hx hb d_M_access_45 rfl (lv_at hl 1 rfl) ?_
        refine lv_iconst (pc := 46) (v := 2) hx hb d_M_access_46 (by decide) ?_
        refine lv_icmp_ne (pc := 47) (tgt := 55) hx hb d_M_access_47 (by decide) (fun h8 => ?_) (fun h8 => ?_)
        · replace he := if_no he h8
          refine lv_iconst (pc := 55) (v := 0) hx hb d_M_access_55 (by decide) ?_
          exact B56 _ _ _ st2 0  hC (lv_sub hl [] rfl) he
        replace he := if_go he h8
        refine lv_bipush (pc := 50) (v := 15) hx hb d_M_access_50 (by decide) ?_
        refine lv_goto (pc := 52) (tgt := 56) hx hb d_M_access_52 (by decide) ?_
        exact B56 _ _ _ st2 15  hC (lv_sub hl [] rfl) he
      replace he := if_go he h7
      refine lv_bipush (pc := 40) (v := 14) hx hb d_M_access_40 (by decide) ?_
      refine lv_goto (pc := 42) (tgt := 56) hx hb d_M_access_42 (by decide) ?_
      exact B56 _ _ _ st2 14  hC (lv_sub hl [] rfl) he
    replace he := if_go he h6
    refine lv_bipush (pc := 30) (v := 13) hx hb d_M_access_30 (by decide) ?_
    refine lv_goto (pc := 32) (tgt := 56) hx hb d_M_access_32 (by decide) ?_
    exact B56 _ _ _ st2 13  hC (lv_sub hl [] rfl) he
  replace he := if_go he h1
  refine lv_iload_n (pc := 8) hx hb d_M_access_8 rfl (lv_at hl 1 rfl) ?_
  refine lv_if_ne (pc := 9) (tgt := 17) hx hb d_M_access_9 (by decide) (fun h9 => ?_) (fun h9 => ?_)
  · replace he := if_no he h9
    refine lv_iconst (pc := 17) (v := 0) hx hb d_M_access_17 (by decide) ?_
    exact B18 _ _ _ st 0  hC (lv_sub hl [] rfl) he
  replace he := if_go he h9
  refine lv_bipush (pc := 12) (v := 12) hx hb d_M_access_12 (by decide) ?_
  refine lv_goto (pc := 14) (tgt := 18) hx hb d_M_access_14 (by decide) ?_
  exact B18 _ _ _ st 12  hC (lv_sub hl [] rfl) he
def f_M_action_168 (st : MS) (s0 : Int32) : Int32 × MS := (s0, st)
def f_M_action_153 (st : MS) (v3 : Int32) (v4 : Int32) : Int32 × MS := bP (f_M_access st ((((st.1 12) - v3) - v4) - 1)) (fun r26 st25 => f_M_action_168 st25 r26)
def f_M_action_130 (st : MS) (v3 : Int32) (s0 : Int32) : Int32 × MS := if s0 = 1 then (if (st.1 12) = (v3 + 1) then (f_M_action_168 st 8) else (f_M_action_153 st v3 s0)) else (f_M_action_153 st v3 s0)
def f_M_action_75 (st : MS)  : Int32 × MS := bP (f_M_plainRow st ) (fun r20 st19 => bP (f_M_digit st19 r20 ((st19.1 12) - 1)) (fun r22 st21 => (r22, st21)))
def f_M_action (st : MS)  : Int32 × MS := if (st.1 11) = 1 then (bP (f_M_digit st 29281817160505 (st.1 12)) (fun r18 st17 => (r18, st17))) else (if (st.1 11) = 2 then (bP (f_M_digit st 29283030300505 (st.1 12)) (fun r16 st15 => (r16, st15))) else (if (st.1 13) = 0 then (if (st.1 12) = 0 then ((1, st)) else (if (st.1 15) = 7 then (f_M_action_75 st ) else (if (st.1 14) ≤ 13 then (bP (f_M_addressRow st ) (fun r8 st7 => bP (f_M_lengthOf st7 r8) (fun r10 st9 => if r10 < (st9.1 12) then (if (st9.1 22) = 0 then (f_M_action_130 st9 r10 0) else (f_M_action_130 st9 r10 1)) else (bP (f_M_digit st9 r8 ((st9.1 12) - 1)) (fun r14 st13 => (r14, st13)))))) else (f_M_action_75 st )))) else ((32, st))))
abbrev rm_M_action : Room := { frames := 2, cells := 0, slots := 0, locals := 41 }
set_option maxHeartbeats 4000000 in
set_option maxRecDepth 100000 in
theorem k_M_action (l : Launch) (g : CG) (cs : CS) (o : Nat → Int64) (st : MS)  : KI l g y_M_action (Cond.code y_M_action c_M_action 5 (some .int) :: ALL) rm_M_action [.ref (g.model)] (wM g cs o) st (f_M_action st ) := by
  refine KI.ofW (by decide) (Nat.le_of_ble_eq_true rfl) ?_
  intro p e s m args below meth c A Q ls Rv X he RET hC hl
  obtain ⟨hx, hb⟩ := FX_xb X
  have hl : lv_has ls 5 [(0, .ref (g.model))] := hl
  have B168 : ∀ (H : Heap) (locs : List Loc) (ls : Array Slot) (st : MS) (s0 : Int32), HC g A s (wM g cs o st) H locs → lv_has ls 5 [] → f_M_action_168 st s0 = Rv → W p l e rm_M_action s m args below meth c H locs 0 0 Q (F0 m 168 ls [.int s0]) := by
    intro H locs ls st s0  hC hl he
    unfold f_M_action_168 at he
    exact RET (pc := 168) d_M_action_168 hC he
  have B153 : ∀ (H : Heap) (locs : List Loc) (ls : Array Slot) (st : MS) (v3 : Int32) (v4 : Int32) (hv4 : v4 = 0 ∨ v4 = 1), HC g A s (wM g cs o st) H locs → lv_has ls 5 [(0, .ref (g.model)), (3, .int v3), (4, .int v4)] → f_M_action_153 st v3 v4 = Rv → W p l e rm_M_action s m args below meth c H locs 0 0 Q (F0 m 153 ls []) := by
    intro H locs ls st v3 v4 hv4 hC hl he
    unfold f_M_action_153 at he
    refine lv_aload_n (pc := 153) hx hb d_M_action_153 rfl (lv_at hl 0 rfl) ?_
    refine lv_aload_n (pc := 154) hx hb d_M_action_154 rfl (lv_at hl 0 rfl) ?_
    refine GM_done (pc := 155) X hC d_M_action_155 ?_
    refine lv_iload_n (pc := 158) hx hb d_M_action_158 rfl (lv_at hl 1 rfl) ?_
    refine lv_isub (pc := 159) hx hb d_M_action_159 ?_
    refine lv_iload (pc := 160) hx hb d_M_action_160 (lv_at hl 2 rfl) ?_
    refine lv_isub (pc := 162) hx hb d_M_action_162 ?_
    refine lv_iconst (pc := 163) (v := 1) hx hb d_M_action_163 (by decide) ?_
    refine lv_isub (pc := 164) hx hb d_M_action_164 ?_
    refine callIO (q0 := 4) (pc := 165) (As := [.int ((((st.1 12) - v3) - v4) - 1)]) (rest := []) X (k_M_access l g cs o st ((((st.1 12) - v3) - v4) - 1)) hC (NM_M_access_150 X rfl rfl ⟨by decide, by decide⟩) rfl rfl rfl hl.1 (Nat.le_of_ble_eq_true rfl) rfl d_M_action_165 ⟨Nat.zero_le _, Nat.zero_le _⟩ (fun r26 st25 H locs est25 hC => ?_)
    replace he := bP_go he est25
    exact B168 _ _ _ st25 r26  hC (lv_sub hl [] rfl) he
  have B130 : ∀ (H : Heap) (locs : List Loc) (ls : Array Slot) (st : MS) (v3 : Int32) (s0 : Int32) (hs0 : s0 = 0 ∨ s0 = 1), HC g A s (wM g cs o st) H locs → lv_has ls 5 [(0, .ref (g.model)), (3, .int v3)] → f_M_action_130 st v3 s0 = Rv → W p l e rm_M_action s m args below meth c H locs 0 0 Q (F0 m 130 ls [.int s0]) := by
    intro H locs ls st v3 s0 hs0 hC hl he
    unfold f_M_action_130 at he
    refine lv_istore (pc := 130) (nL := 5) (lv' := [(4, .int s0), (0, .ref (g.model)), (3, .int v3)]) hx hb d_M_action_130 hl (by decide) rfl (fun ls hl => ?_)
    refine lv_iload (pc := 132) hx hb d_M_action_132 (lv_at hl 0 rfl) ?_
    refine lv_iconst (pc := 134) (v := 1) hx hb d_M_action_134 (by decide) ?_
    refine lv_icmp_ne (pc := 135) (tgt := 153) hx hb d_M_action_135 (by decide) (fun h23 => ?_) (fun h23 => ?_)
    · replace he := if_no he h23
      exact B153 _ _ _ st v3 s0 hs0 hC (lv_sub hl [1, 2, 0] rfl) he
    replace he := if_go he h23
    refine lv_aload_n (pc := 138) hx hb d_M_action_138 rfl (lv_at hl 1 rfl) ?_
    refine GM_done (pc := 139) X hC d_M_action_139 ?_
    refine lv_iload_n (pc := 142) hx hb d_M_action_142 rfl (lv_at hl 2 rfl) ?_
    refine lv_iconst (pc := 143) (v := 1) hx hb d_M_action_143 (by decide) ?_
    refine lv_iadd (pc := 144) hx hb d_M_action_144 ?_
    refine lv_icmp_ne (pc := 145) (tgt := 153) hx hb d_M_action_145 (by decide) (fun h24 => ?_) (fun h24 => ?_)
    · replace he := if_no he h24
      exact B153 _ _ _ st v3 s0 hs0 hC (lv_sub hl [1, 2, 0] rfl) he
    replace he := if_go he h24
    refine lv_bipush (pc := 148) (v := 8) hx hb d_M_action_148 (by decide) ?_
    refine lv_goto (pc := 150) (tgt := 168) hx hb d_M_action_150 (by decide) ?_
    exact B168 _ _ _ st 8  hC (lv_sub hl [] rfl) he
  have B75 : ∀ (H : Heap) (locs : List Loc) (ls : Array Slot) (st : MS) , HC g A s (wM g cs o st) H locs → lv_has ls 5 [(0, .ref (g.model))] → f_M_action_75 st  = Rv → W p l e rm_M_action s m args below meth c H locs 0 0 Q (F0 m 75 ls []) := by
    intro H locs ls st   hC hl he
    unfold f_M_action_75 at he
    refine lv_aload_n (pc := 75) hx hb d_M_action_75 rfl (lv_at hl 0 rfl) ?_
    refine callJO (q0 := 4) (pc := 76) (As := []) (rest := []) X (k_M_plainRow l g cs o st ) hC (NM_M_plainRow_136 X rfl rfl ⟨by decide, by decide⟩) rfl rfl rfl hl.1 (Nat.le_of_ble_eq_true rfl) rfl d_M_action_76 ⟨Nat.zero_le _, Nat.zero_le _⟩ (fun r20 st19 H locs est19 hC => ?_)
    replace he := bP_go he est19
    refine lv_aload_n (pc := 79) hx hb d_M_action_79 rfl (lv_at hl 0 rfl) ?_
    refine GM_done (pc := 80) X hC d_M_action_80 ?_
    refine lv_iconst (pc := 83) (v := 1) hx hb d_M_action_83 (by decide) ?_
    refine lv_isub (pc := 84) hx hb d_M_action_84 ?_
    refine callIS (pc := 85) (As := [.long r20, .int ((st19.1 12) - 1)]) (rest := []) X (k_M_digit l g cs o st19 r20 ((st19.1 12) - 1)) hC (NM_M_digit_130 X rfl rfl ⟨by decide, by decide⟩) hl.1 (Nat.le_of_ble_eq_true rfl) rfl d_M_action_85 ⟨Nat.zero_le _, Nat.zero_le _⟩ (fun r22 st21 H locs est21 hC => ?_)
    replace he := bP_go he est21
    exact RET (pc := 88) d_M_action_88 hC he
  unfold f_M_action at he
  refine lv_aload_n (pc := 0) hx hb d_M_action_0 rfl (lv_at hl 0 rfl) ?_
  refine GM_going (pc := 1) X hC d_M_action_1 ?_
  refine lv_iconst (pc := 4) (v := 1) hx hb d_M_action_4 (by decide) ?_
  refine lv_icmp_ne (pc := 5) (tgt := 19) hx hb d_M_action_5 (by decide) (fun h1 => ?_) (fun h1 => ?_)
  · replace he := if_no he h1
    refine lv_aload_n (pc := 19) hx hb d_M_action_19 rfl (lv_at hl 0 rfl) ?_
    refine GM_going (pc := 20) X hC d_M_action_20 ?_
    refine lv_iconst (pc := 23) (v := 2) hx hb d_M_action_23 (by decide) ?_
    refine lv_icmp_ne (pc := 24) (tgt := 38) hx hb d_M_action_24 (by decide) (fun h2 => ?_) (fun h2 => ?_)
    · replace he := if_no he h2
      refine lv_aload_n (pc := 38) hx hb d_M_action_38 rfl (lv_at hl 0 rfl) ?_
      refine GM_jam (pc := 39) X hC d_M_action_39 ?_
      refine lv_if_eq (pc := 42) (tgt := 48) hx hb d_M_action_42 (by decide) (fun h3 => ?_) (fun h3 => ?_)
      · replace he := if_go he h3
        refine lv_aload_n (pc := 48) hx hb d_M_action_48 rfl (lv_at hl 0 rfl) ?_
        refine GM_done (pc := 49) X hC d_M_action_49 ?_
        refine lv_if_ne (pc := 52) (tgt := 57) hx hb d_M_action_52 (by decide) (fun h4 => ?_) (fun h4 => ?_)
        · replace he := if_no he h4
          refine lv_aload_n (pc := 57) hx hb d_M_action_57 rfl (lv_at hl 0 rfl) ?_
          refine GM_mode (pc := 58) X hC d_M_action_58 ?_
          refine lv_bipush (pc := 61) (v := 7) hx hb d_M_action_61 (by decide) ?_
          refine lv_icmp_eq (pc := 63) (tgt := 75) hx hb d_M_action_63 (by decide) (fun h5 => ?_) (fun h5 => ?_)
          · replace he := if_go he h5
            exact B75 _ _ _ st   hC (lv_sub hl [0] rfl) he
          replace he := if_no he h5
          refine lv_aload_n (pc := 66) hx hb d_M_action_66 rfl (lv_at hl 0 rfl) ?_
          refine GM_operation (pc := 67) X hC d_M_action_67 ?_
          refine lv_bipush (pc := 70) (v := 13) hx hb d_M_action_70 (by decide) ?_
          refine lv_icmp_le (pc := 72) (tgt := 89) hx hb d_M_action_72 (by decide) (fun h6 => ?_) (fun h6 => ?_)
          · replace he := if_go he h6
            refine lv_aload_n (pc := 89) hx hb d_M_action_89 rfl (lv_at hl 0 rfl) ?_
            refine callJO (q0 := 4) (pc := 90) (As := []) (rest := []) X (k_M_addressRow l g cs o st ) hC (NM_M_addressRow_140 X rfl rfl ⟨by decide, by decide⟩) rfl rfl rfl hl.1 (Nat.le_of_ble_eq_true rfl) rfl d_M_action_90 ⟨Nat.zero_le _, Nat.zero_le _⟩ (fun r8 st7 H locs est7 hC => ?_)
            replace he := bP_go he est7
            refine lv_lstore_n (pc := 93) (nL := 5) (lv' := [(1, .long r8), (0, .ref (g.model))]) hx hb d_M_action_93 rfl hl (by decide) rfl (fun ls hl => ?_)
            refine lv_lload_n (pc := 94) hx hb d_M_action_94 rfl (lv_at hl 0 rfl) ?_
            refine callIS (pc := 95) (As := [.long r8]) (rest := []) X (k_M_lengthOf l g cs o st7 r8) hC (NM_M_lengthOf_143 X rfl rfl ⟨by decide, by decide⟩) hl.1 (Nat.le_of_ble_eq_true rfl) rfl d_M_action_95 ⟨Nat.zero_le _, Nat.zero_le _⟩ (fun r10 st9 H locs est9 hC => ?_)
            replace he := bP_go he est9
            refine lv_istore_n (pc := 98) (nL := 5) (lv' := [(3, .int r10), (1, .long r8), (0, .ref (g.model))]) hx hb d_M_action_98 rfl hl (by decide) rfl (fun ls hl => ?_)
            refine lv_aload_n (pc := 99) hx hb d_M_action_99 rfl (lv_at hl 2 rfl) ?_
            refine GM_done (pc := 100) X hC d_M_action_100 ?_
            refine lv_iload_n (pc := 103) hx hb d_M_action_103 rfl (lv_at hl 0 rfl) ?_
            refine lv_icmp_gt (pc := 104) (tgt := 118) hx hb d_M_action_104 (by decide) (fun h11 => ?_) (fun h11 => ?_)
            · replace he := if_go he h11
              refine lv_aload_n (pc := 118) hx hb d_M_action_118 rfl (lv_at hl 2 rfl) ?_
              refine GM_halves (pc := 119) X hC d_M_action_119 ?_
              refine lv_if_eq (pc := 122) (tgt := 129) hx hb d_M_action_122 (by decide) (fun h12 => ?_) (fun h12 => ?_)
              · replace he := if_go he h12
                refine lv_iconst (pc := 129) (v := 0) hx hb d_M_action_129 (by decide) ?_
                exact B130 _ _ _ st9 r10 0 b0 hC (lv_sub hl [2, 0] rfl) he
              replace he := if_no he h12
              refine lv_iconst (pc := 125) (v := 1) hx hb d_M_action_125 (by decide) ?_
              refine lv_goto (pc := 126) (tgt := 130) hx hb d_M_action_126 (by decide) ?_
              exact B130 _ _ _ st9 r10 1 b1 hC (lv_sub hl [2, 0] rfl) he
            replace he := if_no he h11
            refine lv_lload_n (pc := 107) hx hb d_M_action_107 rfl (lv_at hl 1 rfl) ?_
            refine lv_aload_n (pc := 108) hx hb d_M_action_108 rfl (lv_at hl 2 rfl) ?_
            refine GM_done (pc := 109) X hC d_M_action_109 ?_
            refine lv_iconst (pc := 112) (v := 1) hx hb d_M_action_112 (by decide) ?_
            refine lv_isub (pc := 113) hx hb d_M_action_113 ?_
            refine callIS (pc := 114) (As := [.long r8, .int ((st9.1 12) - 1)]) (rest := []) X (k_M_digit l g cs o st9 r8 ((st9.1 12) - 1)) hC (NM_M_digit_130 X rfl rfl ⟨by decide, by decide⟩) hl.1 (Nat.le_of_ble_eq_true rfl) rfl d_M_action_114 ⟨Nat.zero_le _, Nat.zero_le _⟩ (fun r14 st13 H locs est13 hC => ?_)
            replace he := bP_go he est13
            exact RET (pc := 117) d_M_action_117 hC he
          replace he := if_no he h6
          exact B75 _ _ _ st   hC (lv_sub hl [0] rfl) he
        replace he := if_go he h4
        refine lv_iconst (pc := 55) (v := 1) hx hb d_M_action_55 (by decide) ?_
        exact RET (pc := 56) d_M_action_56 hC he
      replace he := if_no he h3
      refine lv_bipush (pc := 45) (v := 32) hx hb d_M_action_45 (by decide) ?_
      exact RET (pc := 47) d_M_action_47 hC he
    replace he := if_go he h2
    refine LM_134 (pc := 27) X d_M_action_27 ?_
    refine lv_aload_n (pc := 30) hx hb d_M_action_30 rfl (lv_at hl 0 rfl) ?_
    refine GM_done (pc := 31) X hC d_M_action_31 ?_
    refine callIS (pc := 34) (As := [.long 29283030300505, .int (st.1 12)]) (rest := []) X (k_M_digit l g cs o st 29283030300505 (st.1 12)) hC (NM_M_digit_130 X rfl rfl ⟨by decide, by decide⟩) hl.1 (Nat.le_of_ble_eq_true rfl) rfl d_M_action_34 ⟨Nat.zero_le _, Nat.zero_le _⟩ (fun r16 st15 H locs est15 hC => ?_)
    replace he := bP_go he est15
    exact RET (pc := 37) d_M_action_37 hC he
  replace he := if_go he h1
  refine LM_128 (pc := 8) X d_M_action_8 ?_
  refine lv_aload_n (pc := 11) hx hb d_M_action_11 rfl (lv_at hl 0 rfl) ?_
  refine GM_done (pc := 12) X hC d_M_action_12 ?_
  refine callIS (pc := 15) (As := [.long 29281817160505, .int (st.1 12)]) (rest := []) X (k_M_digit l g cs o st 29281817160505 (st.1 12)) hC (NM_M_digit_130 X rfl rfl ⟨by decide, by decide⟩) hl.1 (Nat.le_of_ble_eq_true rfl) rfl d_M_action_15 ⟨Nat.zero_le _, Nat.zero_le _⟩ (fun r18 st17 H locs est17 hC => ?_)
  replace he := bP_go he est17
  exact RET (pc := 18) d_M_action_18 hC he
def f_M_reads (st : MS) (v1 : Int32) : MS := bS (tV st 23 (v1 &&& 65535)) (fun st1 => bS (tV st1 24 0) (fun st2 => st2))
abbrev rm_M_reads : Room := { frames := 0, cells := 0, slots := 0, locals := 0 }
set_option maxHeartbeats 4000000 in
set_option maxRecDepth 100000 in
theorem k_M_reads (l : Launch) (g : CG) (cs : CS) (o : Nat → Int64) (st : MS) (v1 : Int32) : KV l g y_M_reads (Cond.code y_M_reads c_M_reads 2 none :: ALL) rm_M_reads [.ref (g.model), .int v1] (wM g cs o) st (f_M_reads st v1) := by
  refine KV.ofW (by decide) (Nat.le_of_ble_eq_true rfl) ?_
  intro p e s m args below meth c A Q ls Rv X he RET hC hl
  obtain ⟨hx, hb⟩ := FX_xb X
  have hl : lv_has ls 2 [(0, .ref (g.model)), (1, .int v1)] := hl
  unfold f_M_reads at he
  refine lv_aload_n (pc := 0) hx hb d_M_reads_0 rfl (lv_at hl 0 rfl) ?_
  refine lv_iload_n (pc := 1) hx hb d_M_reads_1 rfl (lv_at hl 1 rfl) ?_
  refine LM_71 (pc := 2) X d_M_reads_2 ?_
  refine lv_iand (pc := 4) hx hb d_M_reads_4 ?_
  refine PM_address (pc := 5) X hC d_M_reads_5 (fun st1 H locs est1 hC => ?_)
  replace he := bS_go he est1
  refine lv_aload_n (pc := 8) hx hb d_M_reads_8 rfl (lv_at hl 0 rfl) ?_
  refine lv_iconst (pc := 9) (v := 0) hx hb d_M_reads_9 (by decide) ?_
  refine PM_writes (pc := 10) X hC b0 d_M_reads_10 (fun st2 H locs est2 hC => ?_)
  replace he := bS_go he est2
  exact RET (pc := 13) d_M_reads_13 hC he
def f_M_operand (st : MS)  : Int32 × MS := if (st.1 15) = 0 then (((st.1 4), st)) else (if (st.1 15) = 1 then (((st.1 16), st)) else (if (st.1 15) = 2 then (((((st.1 16) + (st.1 1)) &&& 255), st)) else (if (st.1 15) = 3 then ((((st.1 16) ||| ((st.1 17) <<< ((8 : Int32) &&& 31))), st)) else (if (st.1 15) = 4 then ((((((st.1 16) ||| ((st.1 17) <<< ((8 : Int32) &&& 31))) + (st.1 1)) &&& 65535), st)) else (if (st.1 15) = 5 then ((((st.1 18) ||| ((st.1 17) <<< ((8 : Int32) &&& 31))), st)) else ((((((st.1 18) ||| ((st.1 17) <<< ((8 : Int32) &&& 31))) + (st.1 2)) &&& 65535), st)))))))
abbrev rm_M_operand : Room := { frames := 0, cells := 0, slots := 0, locals := 0 }
set_option maxHeartbeats 4000000 in
set_option maxRecDepth 100000 in
theorem k_M_operand (l : Launch) (g : CG) (cs : CS) (o : Nat → Int64) (st : MS)  : KI l g y_M_operand (Cond.code y_M_operand c_M_operand 1 (some .int) :: ALL) rm_M_operand [.ref (g.model)] (wM g cs o) st (f_M_operand st ) := by
  refine KI.ofW (by decide) (Nat.le_of_ble_eq_true rfl) ?_
  intro p e s m args below meth c A Q ls Rv X he RET hC hl
  obtain ⟨hx, hb⟩ := FX_xb X
  have hl : lv_has ls 1 [(0, .ref (g.model))] := hl
  unfold f_M_operand at he
  refine lv_aload_n (pc := 0) hx hb d_M_operand_0 rfl (lv_at hl 0 rfl) ?_
  refine GM_mode (pc := 1) X hC d_M_operand_1 ?_
  by_cases h1 : (st.1 15) = 0
  · replace he := if_go he h1
    refine lv_tableIn (pc := 4) (tgt := 44) hx hb d_M_operand_4 (by rw [h1]; decide) (by rw [h1]; decide) (by rw [h1]; rfl) (by decide) ?_
    refine lv_aload_n (pc := 44) hx hb d_M_operand_44 rfl (lv_at hl 0 rfl) ?_
    refine GM_pc (pc := 45) X hC d_M_operand_45 ?_
    exact RET (pc := 48) d_M_operand_48 hC he
  replace he := if_no he h1
  by_cases h2 : (st.1 15) = 1
  · replace he := if_go he h2
    refine lv_tableIn (pc := 4) (tgt := 49) hx hb d_M_operand_4 (by rw [h2]; decide) (by rw [h2]; decide) (by rw [h2]; rfl) (by decide) ?_
    refine lv_aload_n (pc := 49) hx hb d_M_operand_49 rfl (lv_at hl 0 rfl) ?_
    refine GM_z (pc := 50) X hC d_M_operand_50 ?_
    exact RET (pc := 53) d_M_operand_53 hC he
  replace he := if_no he h2
  by_cases h3 : (st.1 15) = 2
  · replace he := if_go he h3
    refine lv_tableIn (pc := 4) (tgt := 54) hx hb d_M_operand_4 (by rw [h3]; decide) (by rw [h3]; decide) (by rw [h3]; rfl) (by decide) ?_
    refine lv_aload_n (pc := 54) hx hb d_M_operand_54 rfl (lv_at hl 0 rfl) ?_
    refine GM_z (pc := 55) X hC d_M_operand_55 ?_
    refine lv_aload_n (pc := 58) hx hb d_M_operand_58 rfl (lv_at hl 0 rfl) ?_
    refine GM_x (pc := 59) X hC d_M_operand_59 ?_
    refine lv_iadd (pc := 62) hx hb d_M_operand_62 ?_
    refine lv_sipush (pc := 63) (v := 255) hx hb d_M_operand_63 (by decide) ?_
    refine lv_iand (pc := 66) hx hb d_M_operand_66 ?_
    exact RET (pc := 67) d_M_operand_67 hC he
  replace he := if_no he h3
  by_cases h4 : (st.1 15) = 3
  · replace he := if_go he h4
    refine lv_tableIn (pc := 4) (tgt := 68) hx hb d_M_operand_4 (by rw [h4]; decide) (by rw [h4]; decide) (by rw [h4]; rfl) (by decide) ?_
    refine lv_aload_n (pc := 68) hx hb d_M_operand_68 rfl (lv_at hl 0 rfl) ?_
    refine GM_z (pc := 69) X hC d_M_operand_69 ?_
    refine lv_aload_n (pc := 72) hx hb d_M_operand_72 rfl (lv_at hl 0 rfl) ?_
    refine GM_high (pc := 73) X hC d_M_operand_73 ?_
    refine lv_bipush (pc := 76) (v := 8) hx hb d_M_operand_76 (by decide) ?_
    refine lv_ishl (pc := 78) hx hb d_M_operand_78 ?_
    refine lv_ior (pc := 79) hx hb d_M_operand_79 ?_
    exact RET (pc := 80) d_M_operand_80 hC he
  replace he := if_no he h4
  by_cases h5 : (st.1 15) = 4
  · replace he := if_go he h5
    refine lv_tableIn (pc := 4) (tgt := 81) hx hb d_M_operand_4 (by rw [h5]; decide) (by rw [h5]; decide) (by rw [h5]; rfl) (by decide) ?_
    refine lv_aload_n (pc := 81) hx hb d_M_operand_81 rfl (lv_at hl 0 rfl) ?_
    refine GM_z (pc := 82) X hC d_M_operand_82 ?_
    refine lv_aload_n (pc := 85) hx hb d_M_operand_85 rfl (lv_at hl 0 rfl) ?_
    refine GM_high (pc := 86) X hC d_M_operand_86 ?_
    refine lv_bipush (pc := 89) (v := 8) hx hb d_M_operand_89 (by decide) ?_
    refine lv_ishl (pc := 91) hx hb d_M_operand_91 ?_
    refine lv_ior (pc := 92) hx hb d_M_operand_92 ?_
    refine lv_aload_n (pc := 93) hx hb d_M_operand_93 rfl (lv_at hl 0 rfl) ?_
    refine GM_x (pc := 94) X hC d_M_operand_94 ?_
    refine lv_iadd (pc := 97) hx hb d_M_operand_97 ?_
    refine LM_71 (pc := 98) X d_M_operand_98 ?_
    refine lv_iand (pc := 100) hx hb d_M_operand_100 ?_
    exact RET (pc := 101) d_M_operand_101 hC he
  replace he := if_no he h5
  by_cases h6 : (st.1 15) = 5
  · replace he := if_go he h6
    refine lv_tableIn (pc := 4) (tgt := 102) hx hb d_M_operand_4 (by rw [h6]; decide) (by rw [h6]; decide) (by rw [h6]; rfl) (by decide) ?_
    refine lv_aload_n (pc := 102) hx hb d_M_operand_102 rfl (lv_at hl 0 rfl) ?_
    refine GM_low (pc := 103) X hC d_M_operand_103 ?_
    refine lv_aload_n (pc := 106) hx hb d_M_operand_106 rfl (lv_at hl 0 rfl) ?_
    refine GM_high (pc := 107) X hC d_M_operand_107 ?_
    refine lv_bipush (pc := 110) (v := 8) hx hb d_M_operand_110 (by decide) ?_
    refine lv_ishl (pc := 112) hx hb d_M_operand_112 ?_
    refine lv_ior (pc := 113) hx hb d_M_operand_113 ?_
    exact RET (pc := 114) d_M_operand_114 hC he
  replace he := if_no he h6
  refine lv_tableOut (pc := 4) (tgt := 115) hx hb d_M_operand_4 (by have nh1 := lv_neT (a := 0) h1 (by decide); have nh2 := lv_neT (a := 1) h2 (by decide); have nh3 := lv_neT (a := 2) h3 (by decide); have nh4 := lv_neT (a := 3) h4 (by decide); have nh5 := lv_neT (a := 4) h5 (by decide); have nh6 := lv_neT (a := 5) h6 (by decide); omega) (by decide) ?_
  refine lv_aload_n (pc := 115) hx hb d_M_operand_115 rfl (lv_at hl 0 rfl) ?_
  refine GM_low (pc := 116) X hC d_M_operand_116 ?_
  refine lv_aload_n (pc := 119) hx hb d_M_operand_119 rfl (lv_at hl 0 rfl) ?_
  refine GM_high (pc := 120) X hC d_M_operand_120 ?_
  refine lv_bipush (pc := 123) (v := 8) hx hb d_M_operand_123 (by decide) ?_
  refine lv_ishl (pc := 125) hx hb d_M_operand_125 ?_
  refine lv_ior (pc := 126) hx hb d_M_operand_126 ?_
  refine lv_aload_n (pc := 127) hx hb d_M_operand_127 rfl (lv_at hl 0 rfl) ?_
  refine GM_y (pc := 128) X hC d_M_operand_128 ?_
  refine lv_iadd (pc := 131) hx hb d_M_operand_131 ?_
  refine LM_71 (pc := 132) X d_M_operand_132 ?_
  refine lv_iand (pc := 134) hx hb d_M_operand_134 ?_
  exact RET (pc := 135) d_M_operand_135 hC he
def f_M_half (st : MS)  : Int32 × MS := bP (f_M_operand st ) (fun r2 st1 => (((r2 &&& 255) ||| ((st1.1 17) <<< ((8 : Int32) &&& 31))), st1))
abbrev rm_M_half : Room := { frames := 1, cells := 0, slots := 0, locals := 20 }
set_option maxHeartbeats 4000000 in
set_option maxRecDepth 100000 in
theorem k_M_half (l : Launch) (g : CG) (cs : CS) (o : Nat → Int64) (st : MS)  : KI l g y_M_half (Cond.code y_M_half c_M_half 1 (some .int) :: ALL) rm_M_half [.ref (g.model)] (wM g cs o) st (f_M_half st ) := by
  refine KI.ofW (by decide) (Nat.le_of_ble_eq_true rfl) ?_
  intro p e s m args below meth c A Q ls Rv X he RET hC hl
  obtain ⟨hx, hb⟩ := FX_xb X
  have hl : lv_has ls 1 [(0, .ref (g.model))] := hl
  unfold f_M_half at he
  refine lv_aload_n (pc := 0) hx hb d_M_half_0 rfl (lv_at hl 0 rfl) ?_
  refine callIO (q0 := 4) (pc := 1) (As := []) (rest := []) X (k_M_operand l g cs o st ) hC (NM_M_operand_78 X rfl rfl ⟨by decide, by decide⟩) rfl rfl rfl hl.1 (Nat.le_of_ble_eq_true rfl) rfl d_M_half_1 ⟨Nat.zero_le _, Nat.zero_le _⟩ (fun r2 st1 H locs est1 hC => ?_)
  replace he := bP_go he est1
  refine lv_sipush (pc := 4) (v := 255) hx hb d_M_half_4 (by decide) ?_
  refine lv_iand (pc := 7) hx hb d_M_half_7 ?_
  refine lv_aload_n (pc := 8) hx hb d_M_half_8 rfl (lv_at hl 0 rfl) ?_
  refine GM_high (pc := 9) X hC d_M_half_9 ?_
  refine lv_bipush (pc := 12) (v := 8) hx hb d_M_half_12 (by decide) ?_
  refine lv_ishl (pc := 14) hx hb d_M_half_14 ?_
  refine lv_ior (pc := 15) hx hb d_M_half_15 ?_
  exact RET (pc := 16) d_M_half_16 hC he
def f_M_push (st : MS) (v1 : Int32) : MS := bS (tV st 23 (256 + (st.1 3))) (fun st1 => bS (tV st1 24 1) (fun st2 => bS (tV st2 25 (v1 &&& 255)) (fun st3 => st3)))
abbrev rm_M_push : Room := { frames := 0, cells := 0, slots := 0, locals := 0 }
set_option maxHeartbeats 4000000 in
set_option maxRecDepth 100000 in
theorem k_M_push (l : Launch) (g : CG) (cs : CS) (o : Nat → Int64) (st : MS) (v1 : Int32) : KV l g y_M_push (Cond.code y_M_push c_M_push 2 none :: ALL) rm_M_push [.ref (g.model), .int v1] (wM g cs o) st (f_M_push st v1) := by
  refine KV.ofW (by decide) (Nat.le_of_ble_eq_true rfl) ?_
  intro p e s m args below meth c A Q ls Rv X he RET hC hl
  obtain ⟨hx, hb⟩ := FX_xb X
  have hl : lv_has ls 2 [(0, .ref (g.model)), (1, .int v1)] := hl
  unfold f_M_push at he
  refine lv_aload_n (pc := 0) hx hb d_M_push_0 rfl (lv_at hl 0 rfl) ?_
  refine lv_sipush (pc := 1) (v := 256) hx hb d_M_push_1 (by decide) ?_
  refine lv_aload_n (pc := 4) hx hb d_M_push_4 rfl (lv_at hl 0 rfl) ?_
  refine GM_s (pc := 5) X hC d_M_push_5 ?_
  refine lv_iadd (pc := 8) hx hb d_M_push_8 ?_
  refine PM_address (pc := 9) X hC d_M_push_9 (fun st1 H locs est1 hC => ?_)
  replace he := bS_go he est1
  refine lv_aload_n (pc := 12) hx hb d_M_push_12 rfl (lv_at hl 0 rfl) ?_
  refine lv_iconst (pc := 13) (v := 1) hx hb d_M_push_13 (by decide) ?_
  refine PM_writes (pc := 14) X hC b1 d_M_push_14 (fun st2 H locs est2 hC => ?_)
  replace he := bS_go he est2
  refine lv_aload_n (pc := 17) hx hb d_M_push_17 rfl (lv_at hl 0 rfl) ?_
  refine lv_iload_n (pc := 18) hx hb d_M_push_18 rfl (lv_at hl 1 rfl) ?_
  refine lv_sipush (pc := 19) (v := 255) hx hb d_M_push_19 (by decide) ?_
  refine lv_iand (pc := 22) hx hb d_M_push_22 ?_
  refine PM_value (pc := 23) X hC d_M_push_23 (fun st3 H locs est3 hC => ?_)
  replace he := bS_go he est3
  exact RET (pc := 26) d_M_push_26 hC he
def f_M_planWrite_162 (st : MS)  : MS := st
def f_M_planWrite_159 (st : MS) (s0 : Int32) : MS := bS (tV st 25 s0) (fun st18 => f_M_planWrite_162 st18 )
def f_M_planWrite_83 (st : MS) (s0 : Int32) (s1 : Int32) : MS := bS (f_M_push st (s1 ||| s0)) (fun st17 => f_M_planWrite_162 st17 )
def f_M_planWrite (st : MS) (v1 : Int32) : MS := if v1 = 16 then (bS (f_M_push st ((st.1 4) >>> ((8 : Int32) &&& 31))) (fun st2 => f_M_planWrite_162 st2 )) else (if v1 = 17 then (bS (f_M_push st (st.1 4)) (fun st4 => f_M_planWrite_162 st4 )) else (if v1 = 18 then (if (st.1 11) = 1 then (f_M_planWrite_83 st 0 ((st.1 5) ||| 32)) else (f_M_planWrite_83 st 16 ((st.1 5) ||| 32))) else (if v1 = 19 then (bS (f_M_push st (st.1 0)) (fun st8 => f_M_planWrite_162 st8 )) else (if v1 = 20 then (bS (f_M_push st ((st.1 5) ||| 32)) (fun st10 => f_M_planWrite_162 st10 )) else (bP (f_M_operand st ) (fun r12 st11 => bS (tV st11 23 r12) (fun st13 => bS (tV st13 24 1) (fun st14 => if v1 = 12 then (f_M_planWrite_159 st14 (st14.1 0)) else (if v1 = 14 then (f_M_planWrite_159 st14 (st14.1 18)) else (f_M_planWrite_159 st14 (st14.1 20)))))))))))
abbrev rm_M_planWrite : Room := { frames := 1, cells := 0, slots := 0, locals := 21 }
set_option maxHeartbeats 4000000 in
set_option maxRecDepth 100000 in
theorem k_M_planWrite (l : Launch) (g : CG) (cs : CS) (o : Nat → Int64) (st : MS) (v1 : Int32) : KV l g y_M_planWrite (Cond.code y_M_planWrite c_M_planWrite 2 none :: ALL) rm_M_planWrite [.ref (g.model), .int v1] (wM g cs o) st (f_M_planWrite st v1) := by
  refine KV.ofW (by decide) (Nat.le_of_ble_eq_true rfl) ?_
  intro p e s m args below meth c A Q ls Rv X he RET hC hl
  obtain ⟨hx, hb⟩ := FX_xb X
  have hl : lv_has ls 2 [(0, .ref (g.model)), (1, .int v1)] := hl
  have B162 : ∀ (H : Heap) (locs : List Loc) (ls : Array Slot) (st : MS) , HC g A s (wM g cs o st) H locs → lv_has ls 2 [] → f_M_planWrite_162 st  = Rv → W p l e rm_M_planWrite s m args below meth c H locs 0 0 Q (F0 m 162 ls []) := by
    intro H locs ls st   hC hl he
    unfold f_M_planWrite_162 at he
    exact RET (pc := 162) d_M_planWrite_162 hC he
  have B159 : ∀ (H : Heap) (locs : List Loc) (ls : Array Slot) (st : MS) (s0 : Int32), HC g A s (wM g cs o st) H locs → lv_has ls 2 [] → f_M_planWrite_159 st s0 = Rv → W p l e rm_M_planWrite s m args below meth c H locs 0 0 Q (F0 m 159 ls [.int s0, .ref (g.model)]) := by
    intro H locs ls st s0  hC hl he
    unfold f_M_planWrite_159 at he
    refine PM_value (pc := 159) X hC d_M_planWrite_159 (fun st18 H locs est18 hC => ?_)
    replace he := bS_go he est18
    exact B162 _ _ _ st18   hC (lv_sub hl [] rfl) he
  have B83 : ∀ (H : Heap) (locs : List Loc) (ls : Array Slot) (st : MS) (s0 : Int32) (s1 : Int32), HC g A s (wM g cs o st) H locs → lv_has ls 2 [] → f_M_planWrite_83 st s0 s1 = Rv → W p l e rm_M_planWrite s m args below meth c H locs 0 0 Q (F0 m 83 ls [.int s0, .int s1, .ref (g.model)]) := by
    intro H locs ls st s0 s1  hC hl he
    unfold f_M_planWrite_83 at he
    refine lv_ior (pc := 83) hx hb d_M_planWrite_83 ?_
    refine callVO (q0 := 4) (pc := 84) (As := [.int (s1 ||| s0)]) (rest := []) X (k_M_push l g cs o st (s1 ||| s0)) hC (NM_M_push_183 X rfl rfl ⟨by decide, by decide⟩) rfl rfl rfl hl.1 (Nat.le_of_ble_eq_true rfl) rfl d_M_planWrite_84 ⟨Nat.zero_le _, Nat.zero_le _⟩ (fun st17 H locs est17 hC => ?_)
    replace he := bS_go he est17
    refine lv_goto (pc := 87) (tgt := 162) hx hb d_M_planWrite_87 (by decide) ?_
    exact B162 _ _ _ st17   hC (lv_sub hl [] rfl) he
  unfold f_M_planWrite at he
  refine lv_iload_n (pc := 0) hx hb d_M_planWrite_0 rfl (lv_at hl 1 rfl) ?_
  by_cases h1 : v1 = 16
  · replace he := if_go he h1
    refine lv_tableIn (pc := 1) (tgt := 36) hx hb d_M_planWrite_1 (by rw [h1]; decide) (by rw [h1]; decide) (by rw [h1]; rfl) (by decide) ?_
    refine lv_aload_n (pc := 36) hx hb d_M_planWrite_36 rfl (lv_at hl 0 rfl) ?_
    refine lv_aload_n (pc := 37) hx hb d_M_planWrite_37 rfl (lv_at hl 0 rfl) ?_
    refine GM_pc (pc := 38) X hC d_M_planWrite_38 ?_
    refine lv_bipush (pc := 41) (v := 8) hx hb d_M_planWrite_41 (by decide) ?_
    refine lv_ishr (pc := 43) hx hb d_M_planWrite_43 ?_
    refine callVO (q0 := 4) (pc := 44) (As := [.int ((st.1 4) >>> ((8 : Int32) &&& 31))]) (rest := []) X (k_M_push l g cs o st ((st.1 4) >>> ((8 : Int32) &&& 31))) hC (NM_M_push_183 X rfl rfl ⟨by decide, by decide⟩) rfl rfl rfl hl.1 (Nat.le_of_ble_eq_true rfl) rfl d_M_planWrite_44 ⟨Nat.zero_le _, Nat.zero_le _⟩ (fun st2 H locs est2 hC => ?_)
    replace he := bS_go he est2
    refine lv_goto (pc := 47) (tgt := 162) hx hb d_M_planWrite_47 (by decide) ?_
    exact B162 _ _ _ st2   hC (lv_sub hl [] rfl) he
  replace he := if_no he h1
  by_cases h3 : v1 = 17
  · replace he := if_go he h3
    refine lv_tableIn (pc := 1) (tgt := 50) hx hb d_M_planWrite_1 (by rw [h3]; decide) (by rw [h3]; decide) (by rw [h3]; rfl) (by decide) ?_
    refine lv_aload_n (pc := 50) hx hb d_M_planWrite_50 rfl (lv_at hl 0 rfl) ?_
    refine lv_aload_n (pc := 51) hx hb d_M_planWrite_51 rfl (lv_at hl 0 rfl) ?_
    refine GM_pc (pc := 52) X hC d_M_planWrite_52 ?_
    refine callVO (q0 := 4) (pc := 55) (As := [.int (st.1 4)]) (rest := []) X (k_M_push l g cs o st (st.1 4)) hC (NM_M_push_183 X rfl rfl ⟨by decide, by decide⟩) rfl rfl rfl hl.1 (Nat.le_of_ble_eq_true rfl) rfl d_M_planWrite_55 ⟨Nat.zero_le _, Nat.zero_le _⟩ (fun st4 H locs est4 hC => ?_)
    replace he := bS_go he est4
    refine lv_goto (pc := 58) (tgt := 162) hx hb d_M_planWrite_58 (by decide) ?_
    exact B162 _ _ _ st4   hC (lv_sub hl [] rfl) he
  replace he := if_no he h3
  by_cases h5 : v1 = 18
  · replace he := if_go he h5
    refine lv_tableIn (pc := 1) (tgt := 61) hx hb d_M_planWrite_1 (by rw [h5]; decide) (by rw [h5]; decide) (by rw [h5]; rfl) (by decide) ?_
    refine lv_aload_n (pc := 61) hx hb d_M_planWrite_61 rfl (lv_at hl 0 rfl) ?_
    refine lv_aload_n (pc := 62) hx hb d_M_planWrite_62 rfl (lv_at hl 0 rfl) ?_
    refine GM_flags (pc := 63) X hC d_M_planWrite_63 ?_
    refine lv_bipush (pc := 66) (v := 32) hx hb d_M_planWrite_66 (by decide) ?_
    refine lv_ior (pc := 68) hx hb d_M_planWrite_68 ?_
    refine lv_aload_n (pc := 69) hx hb d_M_planWrite_69 rfl (lv_at hl 0 rfl) ?_
    refine GM_going (pc := 70) X hC d_M_planWrite_70 ?_
    refine lv_iconst (pc := 73) (v := 1) hx hb d_M_planWrite_73 (by decide) ?_
    refine lv_icmp_ne (pc := 74) (tgt := 81) hx hb d_M_planWrite_74 (by decide) (fun h6 => ?_) (fun h6 => ?_)
    · replace he := if_no he h6
      refine lv_bipush (pc := 81) (v := 16) hx hb d_M_planWrite_81 (by decide) ?_
      exact B83 _ _ _ st 16 ((st.1 5) ||| 32)  hC (lv_sub hl [] rfl) he
    replace he := if_go he h6
    refine lv_iconst (pc := 77) (v := 0) hx hb d_M_planWrite_77 (by decide) ?_
    refine lv_goto (pc := 78) (tgt := 83) hx hb d_M_planWrite_78 (by decide) ?_
    exact B83 _ _ _ st 0 ((st.1 5) ||| 32)  hC (lv_sub hl [] rfl) he
  replace he := if_no he h5
  by_cases h7 : v1 = 19
  · replace he := if_go he h7
    refine lv_tableIn (pc := 1) (tgt := 90) hx hb d_M_planWrite_1 (by rw [h7]; decide) (by rw [h7]; decide) (by rw [h7]; rfl) (by decide) ?_
    refine lv_aload_n (pc := 90) hx hb d_M_planWrite_90 rfl (lv_at hl 0 rfl) ?_
    refine lv_aload_n (pc := 91) hx hb d_M_planWrite_91 rfl (lv_at hl 0 rfl) ?_
    refine GM_a (pc := 92) X hC d_M_planWrite_92 ?_
    refine callVO (q0 := 4) (pc := 95) (As := [.int (st.1 0)]) (rest := []) X (k_M_push l g cs o st (st.1 0)) hC (NM_M_push_183 X rfl rfl ⟨by decide, by decide⟩) rfl rfl rfl hl.1 (Nat.le_of_ble_eq_true rfl) rfl d_M_planWrite_95 ⟨Nat.zero_le _, Nat.zero_le _⟩ (fun st8 H locs est8 hC => ?_)
    replace he := bS_go he est8
    refine lv_goto (pc := 98) (tgt := 162) hx hb d_M_planWrite_98 (by decide) ?_
    exact B162 _ _ _ st8   hC (lv_sub hl [] rfl) he
  replace he := if_no he h7
  by_cases h9 : v1 = 20
  · replace he := if_go he h9
    refine lv_tableIn (pc := 1) (tgt := 101) hx hb d_M_planWrite_1 (by rw [h9]; decide) (by rw [h9]; decide) (by rw [h9]; rfl) (by decide) ?_
    refine lv_aload_n (pc := 101) hx hb d_M_planWrite_101 rfl (lv_at hl 0 rfl) ?_
    refine lv_aload_n (pc := 102) hx hb d_M_planWrite_102 rfl (lv_at hl 0 rfl) ?_
    refine GM_flags (pc := 103) X hC d_M_planWrite_103 ?_
    refine lv_bipush (pc := 106) (v := 32) hx hb d_M_planWrite_106 (by decide) ?_
    refine lv_ior (pc := 108) hx hb d_M_planWrite_108 ?_
    refine callVO (q0 := 4) (pc := 109) (As := [.int ((st.1 5) ||| 32)]) (rest := []) X (k_M_push l g cs o st ((st.1 5) ||| 32)) hC (NM_M_push_183 X rfl rfl ⟨by decide, by decide⟩) rfl rfl rfl hl.1 (Nat.le_of_ble_eq_true rfl) rfl d_M_planWrite_109 ⟨Nat.zero_le _, Nat.zero_le _⟩ (fun st10 H locs est10 hC => ?_)
    replace he := bS_go he est10
    refine lv_goto (pc := 112) (tgt := 162) hx hb d_M_planWrite_112 (by decide) ?_
    exact B162 _ _ _ st10   hC (lv_sub hl [] rfl) he
  replace he := if_no he h9
  refine lv_tableOut (pc := 1) (tgt := 115) hx hb d_M_planWrite_1 (by have nh1 := lv_neT (a := 16) h1 (by decide); have nh3 := lv_neT (a := 17) h3 (by decide); have nh5 := lv_neT (a := 18) h5 (by decide); have nh7 := lv_neT (a := 19) h7 (by decide); have nh9 := lv_neT (a := 20) h9 (by decide); omega) (by decide) ?_
  refine lv_aload_n (pc := 115) hx hb d_M_planWrite_115 rfl (lv_at hl 0 rfl) ?_
  refine lv_aload_n (pc := 116) hx hb d_M_planWrite_116 rfl (lv_at hl 0 rfl) ?_
  refine callIO (q0 := 4) (pc := 117) (As := []) (rest := [.ref (g.model)]) X (k_M_operand l g cs o st ) hC (NM_M_operand_78 X rfl rfl ⟨by decide, by decide⟩) rfl rfl rfl hl.1 (Nat.le_of_ble_eq_true rfl) rfl d_M_planWrite_117 ⟨Nat.zero_le _, Nat.zero_le _⟩ (fun r12 st11 H locs est11 hC => ?_)
  replace he := bP_go he est11
  refine PM_address (pc := 120) X hC d_M_planWrite_120 (fun st13 H locs est13 hC => ?_)
  replace he := bS_go he est13
  refine lv_aload_n (pc := 123) hx hb d_M_planWrite_123 rfl (lv_at hl 0 rfl) ?_
  refine lv_iconst (pc := 124) (v := 1) hx hb d_M_planWrite_124 (by decide) ?_
  refine PM_writes (pc := 125) X hC b1 d_M_planWrite_125 (fun st14 H locs est14 hC => ?_)
  replace he := bS_go he est14
  refine lv_aload_n (pc := 128) hx hb d_M_planWrite_128 rfl (lv_at hl 0 rfl) ?_
  refine lv_iload_n (pc := 129) hx hb d_M_planWrite_129 rfl (lv_at hl 1 rfl) ?_
  refine lv_bipush (pc := 130) (v := 12) hx hb d_M_planWrite_130 (by decide) ?_
  refine lv_icmp_ne (pc := 132) (tgt := 142) hx hb d_M_planWrite_132 (by decide) (fun h15 => ?_) (fun h15 => ?_)
  · replace he := if_no he h15
    refine lv_iload_n (pc := 142) hx hb d_M_planWrite_142 rfl (lv_at hl 1 rfl) ?_
    refine lv_bipush (pc := 143) (v := 14) hx hb d_M_planWrite_143 (by decide) ?_
    refine lv_icmp_ne (pc := 145) (tgt := 155) hx hb d_M_planWrite_145 (by decide) (fun h16 => ?_) (fun h16 => ?_)
    · replace he := if_no he h16
      refine lv_aload_n (pc := 155) hx hb d_M_planWrite_155 rfl (lv_at hl 0 rfl) ?_
      refine GM_change (pc := 156) X hC d_M_planWrite_156 ?_
      exact B159 _ _ _ st14 (st14.1 20)  hC (lv_sub hl [] rfl) he
    replace he := if_go he h16
    refine lv_aload_n (pc := 148) hx hb d_M_planWrite_148 rfl (lv_at hl 0 rfl) ?_
    refine GM_low (pc := 149) X hC d_M_planWrite_149 ?_
    refine lv_goto (pc := 152) (tgt := 159) hx hb d_M_planWrite_152 (by decide) ?_
    exact B159 _ _ _ st14 (st14.1 18)  hC (lv_sub hl [] rfl) he
  replace he := if_go he h15
  refine lv_aload_n (pc := 135) hx hb d_M_planWrite_135 rfl (lv_at hl 0 rfl) ?_
  refine GM_a (pc := 136) X hC d_M_planWrite_136 ?_
  refine lv_goto (pc := 139) (tgt := 159) hx hb d_M_planWrite_139 (by decide) ?_
  exact B159 _ _ _ st14 (st14.1 0)  hC (lv_sub hl [] rfl) he

/-! contracts of methods (printed by my own program: pure pictures and walks) -/
def f_M_plain_302 (st : MS)  : MS := st
def f_M_plain_285 (st : MS) (s0 : Int32) (s1 : Int32) : MS := bS (f_M_put st s1 s0) (fun st46 => f_M_plain_302 st46 )
def f_M_plain_268 (st : MS)  : MS := if (st.1 14) = 14 then (f_M_plain_285 st 1 8) else (f_M_plain_285 st 0 8)
def f_M_plain_262 (st : MS) (s0 : Int32) (s1 : Int32) : MS := bS (f_M_put st s1 s0) (fun st44 => f_M_plain_302 st44 )
def f_M_plain_246 (st : MS)  : MS := if (st.1 14) = 12 then (f_M_plain_262 st 1 4) else (f_M_plain_262 st 0 4)
def f_M_plain_240 (st : MS) (s0 : Int32) (s1 : Int32) : MS := bS (f_M_put st s1 s0) (fun st42 => f_M_plain_302 st42 )
def f_M_plain_224 (st : MS)  : MS := if (st.1 14) = 10 then (f_M_plain_240 st 1 1) else (f_M_plain_240 st 0 1)
def f_M_plain (st : MS)  : MS := if (st.1 14) = 1 then (bP (f_M_mark st (((st.1 1) + 1) &&& 255)) (fun r3 st2 => bS (tV st2 1 r3) (fun st4 => f_M_plain_302 st4 ))) else (if (st.1 14) = 2 then (bP (f_M_mark st (((st.1 1) - 1) &&& 255)) (fun r7 st6 => bS (tV st6 1 r7) (fun st8 => f_M_plain_302 st8 ))) else (if (st.1 14) = 3 then (bP (f_M_mark st (((st.1 2) + 1) &&& 255)) (fun r11 st10 => bS (tV st10 2 r11) (fun st12 => f_M_plain_302 st12 ))) else (if (st.1 14) = 4 then (bP (f_M_mark st (((st.1 2) - 1) &&& 255)) (fun r15 st14 => bS (tV st14 2 r15) (fun st16 => f_M_plain_302 st16 ))) else (if (st.1 14) = 5 then (bP (f_M_mark st (st.1 0)) (fun r19 st18 => bS (tV st18 1 r19) (fun st20 => f_M_plain_302 st20 ))) else (if (st.1 14) = 6 then (bP (f_M_mark st (st.1 1)) (fun r23 st22 => bS (tV st22 0 r23) (fun st24 => f_M_plain_302 st24 ))) else (if (st.1 14) = 7 then (bP (f_M_mark st (st.1 0)) (fun r27 st26 => bS (tV st26 2 r27) (fun st28 => f_M_plain_302 st28 ))) else (if (st.1 14) = 8 then (bP (f_M_mark st (st.1 2)) (fun r31 st30 => bS (tV st30 0 r31) (fun st32 => f_M_plain_302 st32 ))) else (if (st.1 14) = 9 then (f_M_plain_224 st ) else (if (st.1 14) = 10 then (f_M_plain_224 st ) else (if (st.1 14) = 11 then (f_M_plain_246 st ) else (if (st.1 14) = 12 then (f_M_plain_246 st ) else (if (st.1 14) = 13 then (f_M_plain_268 st ) else (if (st.1 14) = 14 then (f_M_plain_268 st ) else (if (st.1 14) = 15 then (bS (tV st 3 (st.1 1)) (fun st40 => f_M_plain_302 st40 )) else (f_M_plain_302 st )))))))))))))))
abbrev rm_M_plain : Room := { frames := 2, cells := 0, slots := 0, locals := 43 }
set_option maxHeartbeats 4000000 in
set_option maxRecDepth 100000 in
theorem k_M_plain (l : Launch) (g : CG) (cs : CS) (o : Nat → Int64) (st : MS)  : KV l g y_M_plain (Cond.code y_M_plain c_M_plain 1 none :: ALL) rm_M_plain [.ref (g.model)] (wM g cs o) st (f_M_plain st ) := by
  refine KV.ofW (by decide) (Nat.le_of_ble_eq_true rfl) ?_
  intro p e s m args below meth c A Q ls Rv X he RET hC hl
  obtain ⟨hx, hb⟩ := FX_xb X
  have hl : lv_has ls 1 [(0, .ref (g.model))] := hl
  have B302 : ∀ (H : Heap) (locs : List Loc) (ls : Array Slot) (st : MS) , HC g A s (wM g cs o st) H locs → lv_has ls 1 [] → f_M_plain_302 st  = Rv → W p l e rm_M_plain s m args below meth c H locs 0 0 Q (F0 m 302 ls []) := by
    intro H locs ls st   hC hl he
    unfold f_M_plain_302 at he
    exact RET (pc := 302) d_M_plain_302 hC he
  have B285 : ∀ (H : Heap) (locs : List Loc) (ls : Array Slot) (st : MS) (s0 : Int32) (s1 : Int32) (hs0 : s0 = 0 ∨ s0 = 1), HC g A s (wM g cs o st) H locs → lv_has ls 1 [] → f_M_plain_285 st s0 s1 = Rv → W p l e rm_M_plain s m args below meth c H locs 0 0 Q (F0 m 285 ls [.int s0, .int s1, .ref (g.model)]) := by
    intro H locs ls st s0 s1 hs0 hC hl he
    unfold f_M_plain_285 at he
    refine callVO (q0 := 4) (pc := 285) (As := [.int s1, .int s0]) (rest := []) X (k_M_put l g cs o st s1 s0) hC (NM_M_put_24 X rfl rfl ⟨by decide, by decide⟩) rfl rfl rfl hl.1 (Nat.le_of_ble_eq_true rfl) rfl d_M_plain_285 ⟨Nat.zero_le _, Nat.zero_le _⟩ (fun st46 H locs est46 hC => ?_)
    replace he := bS_go he est46
    refine lv_goto (pc := 288) (tgt := 302) hx hb d_M_plain_288 (by decide) ?_
    exact B302 _ _ _ st46   hC (lv_sub hl [] rfl) he
  have B268 : ∀ (H : Heap) (locs : List Loc) (ls : Array Slot) (st : MS) , HC g A s (wM g cs o st) H locs → lv_has ls 1 [(0, .ref (g.model))] → f_M_plain_268 st  = Rv → W p l e rm_M_plain s m args below meth c H locs 0 0 Q (F0 m 268 ls []) := by
    intro H locs ls st   hC hl he
    unfold f_M_plain_268 at he
    refine lv_aload_n (pc := 268) hx hb d_M_plain_268 rfl (lv_at hl 0 rfl) ?_
    refine lv_bipush (pc := 269) (v := 8) hx hb d_M_plain_269 (by decide) ?_
    refine lv_aload_n (pc := 271) hx hb d_M_plain_271 rfl (lv_at hl 0 rfl) ?_
    refine GM_operation (pc := 272) X hC d_M_plain_272 ?_
    refine lv_bipush (pc := 275) (v := 14) hx hb d_M_plain_275 (by decide) ?_
    refine lv_icmp_ne (pc := 277) (tgt := 284) hx hb d_M_plain_277 (by decide) (fun h45 => ?_) (fun h45 => ?_)
    · replace he := if_no he h45
      refine lv_iconst (pc := 284) (v := 0) hx hb d_M_plain_284 (by decide) ?_
      exact B285 _ _ _ st 0 8 b0 hC (lv_sub hl [] rfl) he
    replace he := if_go he h45
    refine lv_iconst (pc := 280) (v := 1) hx hb d_M_plain_280 (by decide) ?_
    refine lv_goto (pc := 281) (tgt := 285) hx hb d_M_plain_281 (by decide) ?_
    exact B285 _ _ _ st 1 8 b1 hC (lv_sub hl [] rfl) he
  have B262 : ∀ (H : Heap) (locs : List Loc) (ls : Array Slot) (st : MS) (s0 : Int32) (s1 : Int32) (hs0 : s0 = 0 ∨ s0 = 1), HC g A s (wM g cs o st) H locs → lv_has ls 1 [] → f_M_plain_262 st s0 s1 = Rv → W p l e rm_M_plain s m args below meth c H locs 0 0 Q (F0 m 262 ls [.int s0, .int s1, .ref (g.model)]) := by
    intro H locs ls st s0 s1 hs0 hC hl he
    unfold f_M_plain_262 at he
    refine callVO (q0 := 4) (pc := 262) (As := [.int s1, .int s0]) (rest := []) X (k_M_put l g cs o st s1 s0) hC (NM_M_put_24 X rfl rfl ⟨by decide, by decide⟩) rfl rfl rfl hl.1 (Nat.le_of_ble_eq_true rfl) rfl d_M_plain_262 ⟨Nat.zero_le _, Nat.zero_le _⟩ (fun st44 H locs est44 hC => ?_)
    replace he := bS_go he est44
    refine lv_goto (pc := 265) (tgt := 302) hx hb d_M_plain_265 (by decide) ?_
    exact B302 _ _ _ st44   hC (lv_sub hl [] rfl) he
  have B246 : ∀ (H : Heap) (locs : List Loc) (ls : Array Slot) (st : MS) , HC g A s (wM g cs o st) H locs → lv_has ls 1 [(0, .ref (g.model))] → f_M_plain_246 st  = Rv → W p l e rm_M_plain s m args below meth c H locs 0 0 Q (F0 m 246 ls []) := by
    intro H locs ls st   hC hl he
    unfold f_M_plain_246 at he
    refine lv_aload_n (pc := 246) hx hb d_M_plain_246 rfl (lv_at hl 0 rfl) ?_
    refine lv_iconst (pc := 247) (v := 4) hx hb d_M_plain_247 (by decide) ?_
    refine lv_aload_n (pc := 248) hx hb d_M_plain_248 rfl (lv_at hl 0 rfl) ?_
    refine GM_operation (pc := 249) X hC d_M_plain_249 ?_
    refine lv_bipush (pc := 252) (v := 12) hx hb d_M_plain_252 (by decide) ?_
    refine lv_icmp_ne (pc := 254) (tgt := 261) hx hb d_M_plain_254 (by decide) (fun h43 => ?_) (fun h43 => ?_)
    · replace he := if_no he h43
      refine lv_iconst (pc := 261) (v := 0) hx hb d_M_plain_261 (by decide) ?_
      exact B262 _ _ _ st 0 4 b0 hC (lv_sub hl [] rfl) he
    replace he := if_go he h43
    refine lv_iconst (pc := 257) (v := 1) hx hb d_M_plain_257 (by decide) ?_
    refine lv_goto (pc := 258) (tgt := 262) hx hb d_M_plain_258 (by decide) ?_
    exact B262 _ _ _ st 1 4 b1 hC (lv_sub hl [] rfl) he
  have B240 : ∀ (H : Heap) (locs : List Loc) (ls : Array Slot) (st : MS) (s0 : Int32) (s1 : Int32) (hs0 : s0 = 0 ∨ s0 = 1) (hs1 : s1 = 0 ∨ s1 = 1), HC g A s (wM g cs o st) H locs → lv_has ls 1 [] → f_M_plain_240 st s0 s1 = Rv → W p l e rm_M_plain s m args below meth c H locs 0 0 Q (F0 m 240 ls [.int s0, .int s1, .ref (g.model)]) := by
    intro H locs ls st s0 s1 hs0 hs1 hC hl he
    unfold f_M_plain_240 at he
    refine callVO (q0 := 4) (pc := 240) (As := [.int s1, .int s0]) (rest := []) X (k_M_put l g cs o st s1 s0) hC (NM_M_put_24 X rfl rfl ⟨by decide, by decide⟩) rfl rfl rfl hl.1 (Nat.le_of_ble_eq_true rfl) rfl d_M_plain_240 ⟨Nat.zero_le _, Nat.zero_le _⟩ (fun st42 H locs est42 hC => ?_)
    replace he := bS_go he est42
    refine lv_goto (pc := 243) (tgt := 302) hx hb d_M_plain_243 (by decide) ?_
    exact B302 _ _ _ st42   hC (lv_sub hl [] rfl) he
  have B224 : ∀ (H : Heap) (locs : List Loc) (ls : Array Slot) (st : MS) , HC g A s (wM g cs o st) H locs → lv_has ls 1 [(0, .ref (g.model))] → f_M_plain_224 st  = Rv → W p l e rm_M_plain s m args below meth c H locs 0 0 Q (F0 m 224 ls []) := by
    intro H locs ls st   hC hl he
    unfold f_M_plain_224 at he
    refine lv_aload_n (pc := 224) hx hb d_M_plain_224 rfl (lv_at hl 0 rfl) ?_
    refine lv_iconst (pc := 225) (v := 1) hx hb d_M_plain_225 (by decide) ?_
    refine lv_aload_n (pc := 226) hx hb d_M_plain_226 rfl (lv_at hl 0 rfl) ?_
    refine GM_operation (pc := 227) X hC d_M_plain_227 ?_
    refine lv_bipush (pc := 230) (v := 10) hx hb d_M_plain_230 (by decide) ?_
    refine lv_icmp_ne (pc := 232) (tgt := 239) hx hb d_M_plain_232 (by decide) (fun h41 => ?_) (fun h41 => ?_)
    · replace he := if_no he h41
      refine lv_iconst (pc := 239) (v := 0) hx hb d_M_plain_239 (by decide) ?_
      exact B240 _ _ _ st 0 1 b0 b1 hC (lv_sub hl [] rfl) he
    replace he := if_go he h41
    refine lv_iconst (pc := 235) (v := 1) hx hb d_M_plain_235 (by decide) ?_
    refine lv_goto (pc := 236) (tgt := 240) hx hb d_M_plain_236 (by decide) ?_
    exact B240 _ _ _ st 1 1 b1 b1 hC (lv_sub hl [] rfl) he
  unfold f_M_plain at he
  refine lv_aload_n (pc := 0) hx hb d_M_plain_0 rfl (lv_at hl 0 rfl) ?_
  refine GM_operation (pc := 1) X hC d_M_plain_1 ?_
  by_cases h1 : (st.1 14) = 1
  · replace he := if_go he h1
    refine lv_tableIn (pc := 4) (tgt := 80) hx hb d_M_plain_4 (by rw [h1]; decide) (by rw [h1]; decide) (by rw [h1]; rfl) (by decide) ?_
    refine lv_aload_n (pc := 80) hx hb d_M_plain_80 rfl (lv_at hl 0 rfl) ?_
    refine lv_aload_n (pc := 81) hx hb d_M_plain_81 rfl (lv_at hl 0 rfl) ?_
    refine lv_aload_n (pc := 82) hx hb d_M_plain_82 rfl (lv_at hl 0 rfl) ?_
    refine GM_x (pc := 83) X hC d_M_plain_83 ?_
    refine lv_iconst (pc := 86) (v := 1) hx hb d_M_plain_86 (by decide) ?_
    refine lv_iadd (pc := 87) hx hb d_M_plain_87 ?_
    refine lv_sipush (pc := 88) (v := 255) hx hb d_M_plain_88 (by decide) ?_
    refine lv_iand (pc := 91) hx hb d_M_plain_91 ?_
    refine callIO (q0 := 4) (pc := 92) (As := [.int (((st.1 1) + 1) &&& 255)]) (rest := [.ref (g.model)]) X (k_M_mark l g cs o st (((st.1 1) + 1) &&& 255)) hC (NM_M_mark_210 X rfl rfl ⟨by decide, by decide⟩) rfl rfl rfl hl.1 (Nat.le_of_ble_eq_true rfl) rfl d_M_plain_92 ⟨Nat.zero_le _, Nat.zero_le _⟩ (fun r3 st2 H locs est2 hC => ?_)
    replace he := bP_go he est2
    refine PM_x (pc := 95) X hC d_M_plain_95 (fun st4 H locs est4 hC => ?_)
    replace he := bS_go he est4
    refine lv_goto (pc := 98) (tgt := 302) hx hb d_M_plain_98 (by decide) ?_
    exact B302 _ _ _ st4   hC (lv_sub hl [] rfl) he
  replace he := if_no he h1
  by_cases h5 : (st.1 14) = 2
  · replace he := if_go he h5
    refine lv_tableIn (pc := 4) (tgt := 101) hx hb d_M_plain_4 (by rw [h5]; decide) (by rw [h5]; decide) (by rw [h5]; rfl) (by decide) ?_
    refine lv_aload_n (pc := 101) hx hb d_M_plain_101 rfl (lv_at hl 0 rfl) ?_
    refine lv_aload_n (pc := 102) hx hb d_M_plain_102 rfl (lv_at hl 0 rfl) ?_
    refine lv_aload_n (pc := 103) hx hb d_M_plain_103 rfl (lv_at hl 0 rfl) ?_
    refine GM_x (pc := 104) X hC d_M_plain_104 ?_
    refine lv_iconst (pc := 107) (v := 1) hx hb d_M_plain_107 (by decide) ?_
    refine lv_isub (pc := 108) hx hb d_M_plain_108 ?_
    refine lv_sipush (pc := 109) (v := 255) hx hb d_M_plain_109 (by decide) ?_
    refine lv_iand (pc := 112) hx hb d_M_plain_112 ?_
    refine callIO (q0 := 4) (pc := 113) (As := [.int (((st.1 1) - 1) &&& 255)]) (rest := [.ref (g.model)]) X (k_M_mark l g cs o st (((st.1 1) - 1) &&& 255)) hC (NM_M_mark_210 X rfl rfl ⟨by decide, by decide⟩) rfl rfl rfl hl.1 (Nat.le_of_ble_eq_true rfl) rfl d_M_plain_113 ⟨Nat.zero_le _, Nat.zero_le _⟩ (fun r7 st6 H locs est6 hC => ?_)
    replace he := bP_go he est6
    refine PM_x (pc := 116) X hC d_M_plain_116 (fun st8 H locs est8 hC => ?_)
    replace he := bS_go he est8
    refine lv_goto (pc := 119) (tgt := 302) hx hb d_M_plain_119 (by decide) ?_
    exact B302 _ _ _ st8   hC (lv_sub hl [] rfl) he
  replace he := if_no he h5
  by_cases h9 : (st.1 14) = 3
  · replace he := if_go he h9
    refine lv_tableIn (pc := 4) (tgt := 122) hx hb d_M_plain_4 (by rw [h9]; decide) (by rw [h9]; decide) (by rw [h9]; rfl) (by decide) ?_
    refine lv_aload_n (pc := 122) hx hb d_M_plain_122 rfl (lv_at hl 0 rfl) ?_
    refine lv_aload_n (pc := 123) hx hb d_M_plain_123 rfl (lv_at hl 0 rfl) ?_
    refine lv_aload_n (pc := 124) hx hb d_M_plain_124 rfl (lv_at hl 0 rfl) ?_
    refine GM_y (pc := 125) X hC d_M_plain_125 ?_
    refine lv_iconst (pc := 128) (v := 1) hx hb d_M_plain_128 (by decide) ?_
    refine lv_iadd (pc := 129) hx hb d_M_plain_129 ?_
    refine lv_sipush (pc := 130) (v := 255) hx hb d_M_plain_130 (by decide) ?_
    refine lv_iand (pc := 133) hx hb d_M_plain_133 ?_
    refine callIO (q0 := 4) (pc := 134) (As := [.int (((st.1 2) + 1) &&& 255)]) (rest := [.ref (g.model)]) X (k_M_mark l g cs o st (((st.1 2) + 1) &&& 255)) hC (NM_M_mark_210 X rfl rfl ⟨by decide, by decide⟩) rfl rfl rfl hl.1 (Nat.le_of_ble_eq_true rfl) rfl d_M_plain_134 ⟨Nat.zero_le _, Nat.zero_le _⟩ (fun r11 st10 H locs est10 hC => ?_)
    replace he := bP_go he est10
    refine PM_y (pc := 137) X hC d_M_plain_137 (fun st12 H locs est12 hC => ?_)
    replace he := bS_go he est12
    refine lv_goto (pc := 140) (tgt := 302) hx hb d_M_plain_140 (by decide) ?_
    exact B302 _ _ _ st12   hC (lv_sub hl [] rfl) he
  replace he := if_no he h9
  by_cases h13 : (st.1 14) = 4
  · replace he := if_go he h13
    refine lv_tableIn (pc := 4) (tgt := 143) hx hb d_M_plain_4 (by rw [h13]; decide) (by rw [h13]; decide) (by rw [h13]; rfl) (by decide) ?_
    refine lv_aload_n (pc := 143) hx hb d_M_plain_143 rfl (lv_at hl 0 rfl) ?_
    refine lv_aload_n (pc := 144) hx hb d_M_plain_144 rfl (lv_at hl 0 rfl) ?_
    refine lv_aload_n (pc := 145) hx hb d_M_plain_145 rfl (lv_at hl 0 rfl) ?_
    refine GM_y (pc := 146) X hC d_M_plain_146 ?_
    refine lv_iconst (pc := 149) (v := 1) hx hb d_M_plain_149 (by decide) ?_
    refine lv_isub (pc := 150) hx hb d_M_plain_150 ?_
    refine lv_sipush (pc := 151) (v := 255) hx hb d_M_plain_151 (by decide) ?_
    refine lv_iand (pc := 154) hx hb d_M_plain_154 ?_
    refine callIO (q0 := 4) (pc := 155) (As := [.int (((st.1 2) - 1) &&& 255)]) (rest := [.ref (g.model)]) X (k_M_mark l g cs o st (((st.1 2) - 1) &&& 255)) hC (NM_M_mark_210 X rfl rfl ⟨by decide, by decide⟩) rfl rfl rfl hl.1 (Nat.le_of_ble_eq_true rfl) rfl d_M_plain_155 ⟨Nat.zero_le _, Nat.zero_le _⟩ (fun r15 st14 H locs est14 hC => ?_)
    replace he := bP_go he est14
    refine PM_y (pc := 158) X hC d_M_plain_158 (fun st16 H locs est16 hC => ?_)
    replace he := bS_go he est16
    refine lv_goto (pc := 161) (tgt := 302) hx hb d_M_plain_161 (by decide) ?_
    exact B302 _ _ _ st16   hC (lv_sub hl [] rfl) he
  replace he := if_no he h13
  by_cases h17 : (st.1 14) = 5
  · replace he := if_go he h17
    refine lv_tableIn (pc := 4) (tgt := 164) hx hb d_M_plain_4 (by rw [h17]; decide) (by rw [h17]; decide) (by rw [h17]; rfl) (by decide) ?_
    refine lv_aload_n (pc := 164) hx hb d_M_plain_164 rfl (lv_at hl 0 rfl) ?_
    refine lv_aload_n (pc := 165) hx hb d_M_plain_165 rfl (lv_at hl 0 rfl) ?_
    refine lv_aload_n (pc := 166) hx hb d_M_plain_166 rfl (lv_at hl 0 rfl) ?_
    refine GM_a (pc := 167) X hC d_M_plain_167 ?_
    refine callIO (q0 := 4) (pc := 170) (As := [.int (st.1 0)]) (rest := [.ref (g.model)]) X (k_M_mark l g cs o st (st.1 0)) hC (NM_M_mark_210 X rfl rfl ⟨by decide, by decide⟩) rfl rfl rfl hl.1 (Nat.le_of_ble_eq_true rfl) rfl d_M_plain_170 ⟨Nat.zero_le _, Nat.zero_le _⟩ (fun r19 st18 H locs est18 hC => ?_)
    replace he := bP_go he est18
    refine PM_x (pc := 173) X hC d_M_plain_173 (fun st20 H locs est20 hC => ?_)
    replace he := bS_go he est20
    refine lv_goto (pc := 176) (tgt := 302) hx hb d_M_plain_176 (by decide) ?_
    exact B302 _ _ _ st20   hC (lv_sub hl [] rfl) he
  replace he := if_no he h17
  by_cases h21 : (st.1 14) = 6
  · replace he := if_go he h21
    refine lv_tableIn (pc := 4) (tgt := 179) hx hb d_M_plain_4 (by rw [h21]; decide) (by rw [h21]; decide) (by rw [h21]; rfl) (by decide) ?_
    refine lv_aload_n (pc := 179) hx hb d_M_plain_179 rfl (lv_at hl 0 rfl) ?_
    refine lv_aload_n (pc := 180) hx hb d_M_plain_180 rfl (lv_at hl 0 rfl) ?_
    refine lv_aload_n (pc := 181) hx hb d_M_plain_181 rfl (lv_at hl 0 rfl) ?_
    refine GM_x (pc := 182) X hC d_M_plain_182 ?_
    refine callIO (q0 := 4) (pc := 185) (As := [.int (st.1 1)]) (rest := [.ref (g.model)]) X (k_M_mark l g cs o st (st.1 1)) hC (NM_M_mark_210 X rfl rfl ⟨by decide, by decide⟩) rfl rfl rfl hl.1 (Nat.le_of_ble_eq_true rfl) rfl d_M_plain_185 ⟨Nat.zero_le _, Nat.zero_le _⟩ (fun r23 st22 H locs est22 hC => ?_)
    replace he := bP_go he est22
    refine PM_a (pc := 188) X hC d_M_plain_188 (fun st24 H locs est24 hC => ?_)
    replace he := bS_go he est24
    refine lv_goto (pc := 191) (tgt := 302) hx hb d_M_plain_191 (by decide) ?_
    exact B302 _ _ _ st24   hC (lv_sub hl [] rfl) he
  replace he := if_no he h21
  by_cases h25 : (st.1 14) = 7
  · replace he := if_go he h25
    refine lv_tableIn (pc := 4) (tgt := 194) hx hb d_M_plain_4 (by rw [h25]; decide) (by rw [h25]; decide) (by rw [h25]; rfl) (by decide) ?_
    refine lv_aload_n (pc := 194) hx hb d_M_plain_194 rfl (lv_at hl 0 rfl) ?_
    refine lv_aload_n (pc := 195) hx hb d_M_plain_195 rfl (lv_at hl 0 rfl) ?_
    refine lv_aload_n (pc := 196) hx hb d_M_plain_196 rfl (lv_at hl 0 rfl) ?_
    refine GM_a (pc := 197) X hC d_M_plain_197 ?_
    refine callIO (q0 := 4) (pc := 200) (As := [.int (st.1 0)]) (rest := [.ref (g.model)]) X (k_M_mark l g cs o st (st.1 0)) hC (NM_M_mark_210 X rfl rfl ⟨by decide, by decide⟩) rfl rfl rfl hl.1 (Nat.le_of_ble_eq_true rfl) rfl d_M_plain_200 ⟨Nat.zero_le _, Nat.zero_le _⟩ (fun r27 st26 H locs est26 hC => ?_)
    replace he := bP_go he est26
    refine PM_y (pc := 203) X hC d_M_plain_203 (fun st28 H locs est28 hC => ?_)
    replace he := bS_go he est28
    refine lv_goto (pc := 206) (tgt := 302) hx hb d_M_plain_206 (by decide) ?_
    exact B302 _ _ _ st28   hC (lv_sub hl [] rfl) he
  replace he := if_no he h25
  by_cases h29 : (st.1 14) = 8
  · replace he := if_go he h29
    refine lv_tableIn (pc := 4) (tgt := 209) hx hb d_M_plain_4 (by rw [h29]; decide) (by rw [h29]; decide) (by rw [h29]; rfl) (by decide) ?_
    refine lv_aload_n (pc := 209) hx hb d_M_plain_209 rfl (lv_at hl 0 rfl) ?_
    refine lv_aload_n (pc := 210) hx hb d_M_plain_210 rfl (lv_at hl 0 rfl) ?_
    refine lv_aload_n (pc := 211) hx hb d_M_plain_211 rfl (lv_at hl 0 rfl) ?_
    refine GM_y (pc := 212) X hC d_M_plain_212 ?_
    refine callIO (q0 := 4) (pc := 215) (As := [.int (st.1 2)]) (rest := [.ref (g.model)]) X (k_M_mark l g cs o st (st.1 2)) hC (NM_M_mark_210 X rfl rfl ⟨by decide, by decide⟩) rfl rfl rfl hl.1 (Nat.le_of_ble_eq_true rfl) rfl d_M_plain_215 ⟨Nat.zero_le _, Nat.zero_le _⟩ (fun r31 st30 H locs est30 hC => ?_)
    replace he := bP_go he est30
    refine PM_a (pc := 218) X hC d_M_plain_218 (fun st32 H locs est32 hC => ?_)
    replace he := bS_go he est32
    refine lv_goto (pc := 221) (tgt := 302) hx hb d_M_plain_221 (by decide) ?_
    exact B302 _ _ _ st32   hC (lv_sub hl [] rfl) he
  replace he := if_no he h29
  by_cases h33 : (st.1 14) = 9
  · replace he := if_go he h33
    refine lv_tableIn (pc := 4) (tgt := 224) hx hb d_M_plain_4 (by rw [h33]; decide) (by rw [h33]; decide) (by rw [h33]; rfl) (by decide) ?_
    exact B224 _ _ _ st   hC (lv_sub hl [0] rfl) he
  replace he := if_no he h33
  by_cases h34 : (st.1 14) = 10
  · replace he := if_go he h34
    refine lv_tableIn (pc := 4) (tgt := 224) hx hb d_M_plain_4 (by rw [h34]; decide) (by rw [h34]; decide) (by rw [h34]; rfl) (by decide) ?_
    exact B224 _ _ _ st   hC (lv_sub hl [0] rfl) he
  replace he := if_no he h34
  by_cases h35 : (st.1 14) = 11
  · replace he := if_go he h35
    refine lv_tableIn (pc := 4) (tgt := 246) hx hb d_M_plain_4 (by rw [h35]; decide) (by rw [h35]; decide) (by rw [h35]; rfl) (by decide) ?_
    exact B246 _ _ _ st   hC (lv_sub hl [0] rfl) he
  replace he := if_no he h35
  by_cases h36 : (st.1 14) = 12
  · replace he := if_go he h36
    refine lv_tableIn (pc := 4) (tgt := 246) hx hb d_M_plain_4 (by rw [h36]; decide) (by rw [h36]; decide) (by rw [h36]; rfl) (by decide) ?_
    exact B246 _ _ _ st   hC (lv_sub hl [0] rfl) he
  replace he := if_no he h36
  by_cases h37 : (st.1 14) = 13
  · replace he := if_go he h37
    refine lv_tableIn (pc := 4) (tgt := 268) hx hb d_M_plain_4 (by rw [h37]; decide) (by rw [h37]; decide) (by rw [h37]; rfl) (by decide) ?_
    exact B268 _ _ _ st   hC (lv_sub hl [0] rfl) he
  replace he := if_no he h37
  by_cases h38 : (st.1 14) = 14
  · replace he := if_go he h38
    refine lv_tableIn (pc := 4) (tgt := 268) hx hb d_M_plain_4 (by rw [h38]; decide) (by rw [h38]; decide) (by rw [h38]; rfl) (by decide) ?_
    exact B268 _ _ _ st   hC (lv_sub hl [0] rfl) he
  replace he := if_no he h38
  by_cases h39 : (st.1 14) = 15
  · replace he := if_go he h39
    refine lv_tableIn (pc := 4) (tgt := 291) hx hb d_M_plain_4 (by rw [h39]; decide) (by rw [h39]; decide) (by rw [h39]; rfl) (by decide) ?_
    refine lv_aload_n (pc := 291) hx hb d_M_plain_291 rfl (lv_at hl 0 rfl) ?_
    refine lv_aload_n (pc := 292) hx hb d_M_plain_292 rfl (lv_at hl 0 rfl) ?_
    refine GM_x (pc := 293) X hC d_M_plain_293 ?_
    refine PM_s (pc := 296) X hC d_M_plain_296 (fun st40 H locs est40 hC => ?_)
    replace he := bS_go he est40
    refine lv_goto (pc := 299) (tgt := 302) hx hb d_M_plain_299 (by decide) ?_
    exact B302 _ _ _ st40   hC (lv_sub hl [] rfl) he
  replace he := if_no he h39
  refine lv_tableOut (pc := 4) (tgt := 302) hx hb d_M_plain_4 (by have nh1 := lv_neT (a := 1) h1 (by decide); have nh5 := lv_neT (a := 2) h5 (by decide); have nh9 := lv_neT (a := 3) h9 (by decide); have nh13 := lv_neT (a := 4) h13 (by decide); have nh17 := lv_neT (a := 5) h17 (by decide); have nh21 := lv_neT (a := 6) h21 (by decide); have nh25 := lv_neT (a := 7) h25 (by decide); have nh29 := lv_neT (a := 8) h29 (by decide); have nh33 := lv_neT (a := 9) h33 (by decide); have nh34 := lv_neT (a := 10) h34 (by decide); have nh35 := lv_neT (a := 11) h35 (by decide); have nh36 := lv_neT (a := 12) h36 (by decide); have nh37 := lv_neT (a := 13) h37 (by decide); have nh38 := lv_neT (a := 14) h38 (by decide); have nh39 := lv_neT (a := 15) h39 (by decide); omega) (by decide) ?_
  exact B302 _ _ _ st   hC (lv_sub hl [] rfl) he
def f_M_idle_71 (st : MS)  : MS := st
def f_M_idle_33 (st : MS)  : MS := if (st.1 15) = 0 then (bP (f_M_target st ) (fun r7 st6 => if (r7 >>> ((8 : Int32) &&& 31)) = ((st6.1 4) >>> ((8 : Int32) &&& 31)) then (bP (f_M_target st6 ) (fun r10 st9 => bS (tV st9 4 r10) (fun st11 => bS (tV st11 14 99) (fun st12 => f_M_idle_71 st12 )))) else (f_M_idle_71 st6 ))) else (f_M_idle_71 st )
def f_M_idle (st : MS)  : MS := if (st.1 11) = 0 then (if (st.1 15) = 7 then (if 16 ≤ (st.1 14) then (f_M_idle_33 st ) else (bS (f_M_plain st ) (fun st4 => f_M_idle_71 st4 ))) else (f_M_idle_33 st )) else (st)
abbrev rm_M_idle : Room := { frames := 3, cells := 0, slots := 0, locals := 63 }
set_option maxHeartbeats 4000000 in
set_option maxRecDepth 100000 in
theorem k_M_idle (l : Launch) (g : CG) (cs : CS) (o : Nat → Int64) (st : MS)  : KV l g y_M_idle (Cond.code y_M_idle c_M_idle 1 none :: ALL) rm_M_idle [.ref (g.model)] (wM g cs o) st (f_M_idle st ) := by
  refine KV.ofW (by decide) (Nat.le_of_ble_eq_true rfl) ?_
  intro p e s m args below meth c A Q ls Rv X he RET hC hl
  obtain ⟨hx, hb⟩ := FX_xb X
  have hl : lv_has ls 1 [(0, .ref (g.model))] := hl
  have B71 : ∀ (H : Heap) (locs : List Loc) (ls : Array Slot) (st : MS) , HC g A s (wM g cs o st) H locs → lv_has ls 1 [] → f_M_idle_71 st  = Rv → W p l e rm_M_idle s m args below meth c H locs 0 0 Q (F0 m 71 ls []) := by
    intro H locs ls st   hC hl he
    unfold f_M_idle_71 at he
    exact RET (pc := 71) d_M_idle_71 hC he
  have B33 : ∀ (H : Heap) (locs : List Loc) (ls : Array Slot) (st : MS) , HC g A s (wM g cs o st) H locs → lv_has ls 1 [(0, .ref (g.model))] → f_M_idle_33 st  = Rv → W p l e rm_M_idle s m args below meth c H locs 0 0 Q (F0 m 33 ls []) := by
    intro H locs ls st   hC hl he
    unfold f_M_idle_33 at he
    refine lv_aload_n (pc := 33) hx hb d_M_idle_33 rfl (lv_at hl 0 rfl) ?_
    refine GM_mode (pc := 34) X hC d_M_idle_34 ?_
    refine lv_if_ne (pc := 37) (tgt := 71) hx hb d_M_idle_37 (by decide) (fun h5 => ?_) (fun h5 => ?_)
    · replace he := if_no he h5
      exact B71 _ _ _ st   hC (lv_sub hl [] rfl) he
    replace he := if_go he h5
    refine lv_aload_n (pc := 40) hx hb d_M_idle_40 rfl (lv_at hl 0 rfl) ?_
    refine callIO (q0 := 4) (pc := 41) (As := []) (rest := []) X (k_M_target l g cs o st ) hC (NM_M_target_115 X rfl rfl ⟨by decide, by decide⟩) rfl rfl rfl hl.1 (Nat.le_of_ble_eq_true rfl) rfl d_M_idle_41 ⟨Nat.zero_le _, Nat.zero_le _⟩ (fun r7 st6 H locs est6 hC => ?_)
    replace he := bP_go he est6
    refine lv_bipush (pc := 44) (v := 8) hx hb d_M_idle_44 (by decide) ?_
    refine lv_ishr (pc := 46) hx hb d_M_idle_46 ?_
    refine lv_aload_n (pc := 47) hx hb d_M_idle_47 rfl (lv_at hl 0 rfl) ?_
    refine GM_pc (pc := 48) X hC d_M_idle_48 ?_
    refine lv_bipush (pc := 51) (v := 8) hx hb d_M_idle_51 (by decide) ?_
    refine lv_ishr (pc := 53) hx hb d_M_idle_53 ?_
    refine lv_icmp_ne (pc := 54) (tgt := 71) hx hb d_M_idle_54 (by decide) (fun h8 => ?_) (fun h8 => ?_)
    · replace he := if_no he h8
      exact B71 _ _ _ st6   hC (lv_sub hl [] rfl) he
    replace he := if_go he h8
    refine lv_aload_n (pc := 57) hx hb d_M_idle_57 rfl (lv_at hl 0 rfl) ?_
    refine lv_aload_n (pc := 58) hx hb d_M_idle_58 rfl (lv_at hl 0 rfl) ?_
    refine callIO (q0 := 4) (pc := 59) (As := []) (rest := [.ref (g.model)]) X (k_M_target l g cs o st6 ) hC (NM_M_target_115 X rfl rfl ⟨by decide, by decide⟩) rfl rfl rfl hl.1 (Nat.le_of_ble_eq_true rfl) rfl d_M_idle_59 ⟨Nat.zero_le _, Nat.zero_le _⟩ (fun r10 st9 H locs est9 hC => ?_)
    replace he := bP_go he est9
    refine PM_pc (pc := 62) X hC d_M_idle_62 (fun st11 H locs est11 hC => ?_)
    replace he := bS_go he est11
    refine lv_aload_n (pc := 65) hx hb d_M_idle_65 rfl (lv_at hl 0 rfl) ?_
    refine lv_bipush (pc := 66) (v := 99) hx hb d_M_idle_66 (by decide) ?_
    refine PM_operation (pc := 68) X hC d_M_idle_68 (fun st12 H locs est12 hC => ?_)
    replace he := bS_go he est12
    exact B71 _ _ _ st12   hC (lv_sub hl [] rfl) he
  unfold f_M_idle at he
  refine lv_aload_n (pc := 0) hx hb d_M_idle_0 rfl (lv_at hl 0 rfl) ?_
  refine GM_going (pc := 1) X hC d_M_idle_1 ?_
  refine lv_if_eq (pc := 4) (tgt := 8) hx hb d_M_idle_4 (by decide) (fun h1 => ?_) (fun h1 => ?_)
  · replace he := if_go he h1
    refine lv_aload_n (pc := 8) hx hb d_M_idle_8 rfl (lv_at hl 0 rfl) ?_
    refine GM_mode (pc := 9) X hC d_M_idle_9 ?_
    refine lv_bipush (pc := 12) (v := 7) hx hb d_M_idle_12 (by decide) ?_
    refine lv_icmp_ne (pc := 14) (tgt := 33) hx hb d_M_idle_14 (by decide) (fun h2 => ?_) (fun h2 => ?_)
    · replace he := if_no he h2
      exact B33 _ _ _ st   hC (lv_sub hl [0] rfl) he
    replace he := if_go he h2
    refine lv_aload_n (pc := 17) hx hb d_M_idle_17 rfl (lv_at hl 0 rfl) ?_
    refine GM_operation (pc := 18) X hC d_M_idle_18 ?_
    refine lv_bipush (pc := 21) (v := 16) hx hb d_M_idle_21 (by decide) ?_
    refine lv_icmp_ge (pc := 23) (tgt := 33) hx hb d_M_idle_23 (by decide) (fun h3 => ?_) (fun h3 => ?_)
    · replace he := if_go he h3
      exact B33 _ _ _ st   hC (lv_sub hl [0] rfl) he
    replace he := if_no he h3
    refine lv_aload_n (pc := 26) hx hb d_M_idle_26 rfl (lv_at hl 0 rfl) ?_
    refine callVO (q0 := 4) (pc := 27) (As := []) (rest := []) X (k_M_plain l g cs o st ) hC (NM_M_plain_220 X rfl rfl ⟨by decide, by decide⟩) rfl rfl rfl hl.1 (Nat.le_of_ble_eq_true rfl) rfl d_M_idle_27 ⟨Nat.zero_le _, Nat.zero_le _⟩ (fun st4 H locs est4 hC => ?_)
    replace he := bS_go he est4
    refine lv_goto (pc := 30) (tgt := 71) hx hb d_M_idle_30 (by decide) ?_
    exact B71 _ _ _ st4   hC (lv_sub hl [] rfl) he
  replace he := if_no he h1
  exact RET (pc := 7) d_M_idle_7 hC he
def f_M_happenStack_350 (st : MS)  : MS := st
def f_M_happenStack_316 (st : MS) (v2 : Int32) (s0 : Int32) : MS := bS (tV st 5 s0) (fun st48 => bS (tV st48 16 v2) (fun st49 => f_M_happenStack_350 st49 ))
def f_M_happenStack_291 (st : MS) (v2 : Int32) (s0 : Int32) : MS := bS (tV st 10 s0) (fun st46 => if (st46.1 11) = 2 then (f_M_happenStack_316 st46 v2 ((st46.1 5) ||| 4)) else (f_M_happenStack_316 st46 v2 (st46.1 5)))
def f_M_happenStack_290 (st : MS) (v2 : Int32) : MS := f_M_happenStack_291 st v2 0
def f_M_happenStack_83 (st : MS) (v1 : Int32) (v2 : Int32) (s0 : Int32) : MS := bS (tV st 3 s0) (fun st8 => if v1 = 5 then (bS (f_M_idle st8 ) (fun st10 => f_M_happenStack_350 st10 )) else (if v1 = 6 then (f_M_happenStack_350 st8 ) else (if v1 = 7 then (f_M_happenStack_350 st8 ) else (if v1 = 8 then (f_M_happenStack_350 st8 ) else (if v1 = 9 then (f_M_happenStack_350 st8 ) else (if v1 = 10 then (f_M_happenStack_350 st8 ) else (if v1 = 11 then (f_M_happenStack_350 st8 ) else (if v1 = 12 then (f_M_happenStack_350 st8 ) else (if v1 = 13 then (f_M_happenStack_350 st8 ) else (if v1 = 14 then (f_M_happenStack_350 st8 ) else (if v1 = 15 then (f_M_happenStack_350 st8 ) else (if v1 = 16 then (f_M_happenStack_350 st8 ) else (if v1 = 17 then (f_M_happenStack_350 st8 ) else (if v1 = 18 then (bS (tV st8 5 ((st8.1 5) ||| 4)) (fun st24 => f_M_happenStack_350 st24 )) else (if v1 = 19 then (f_M_happenStack_350 st8 ) else (if v1 = 20 then (f_M_happenStack_350 st8 ) else (if v1 = 21 then (bP (f_M_mark st8 v2) (fun r29 st28 => bS (tV st28 0 r29) (fun st30 => f_M_happenStack_350 st30 ))) else (if v1 = 22 then (bS (tV st8 5 (v2 &&& 207)) (fun st32 => f_M_happenStack_350 st32 )) else (if v1 = 23 then (bS (tV st8 16 v2) (fun st34 => f_M_happenStack_350 st34 )) else (if v1 = 24 then (bS (tV st8 4 ((st8.1 16) ||| (v2 <<< ((8 : Int32) &&& 31)))) (fun st36 => f_M_happenStack_350 st36 )) else (if v1 = 25 then (f_M_happenStack_350 st8 ) else (if v1 = 26 then (f_M_happenStack_350 st8 ) else (if v1 = 27 then (f_M_happenStack_350 st8 ) else (if v1 = 28 then (bS (tV st8 19 (st8.1 23)) (fun st41 => if (st41.1 10) = 0 then (f_M_happenStack_290 st41 v2) else (if (st41.1 23) = 65530 then (f_M_happenStack_290 st41 v2) else (f_M_happenStack_291 st41 v2 1)))) else (if v1 = 29 then (bS (tV st8 4 ((st8.1 16) ||| (v2 <<< ((8 : Int32) &&& 31)))) (fun st45 => f_M_happenStack_350 st45 )) else (f_M_happenStack_350 st8 ))))))))))))))))))))))))))
def f_M_happenStack_48 (st : MS) (v1 : Int32) (v2 : Int32) : MS := f_M_happenStack_83 st v1 v2 (((st.1 3) - 1) &&& 255)
def f_M_happenStack_35 (st : MS) (v1 : Int32) (v2 : Int32) (v3 : Int32) (s0 : Int32) : MS := if v3 = 0 then (if v1 = 30 then (f_M_happenStack_48 st v1 v2) else (if s0 = 0 then (f_M_happenStack_83 st v1 v2 (st.1 3)) else (f_M_happenStack_83 st v1 v2 (((st.1 3) + 1) &&& 255)))) else (f_M_happenStack_48 st v1 v2)
def f_M_happenStack_34 (st : MS) (v1 : Int32) (v2 : Int32) (v3 : Int32) : MS := f_M_happenStack_35 st v1 v2 v3 0
def f_M_happenStack_17 (st : MS) (v1 : Int32) (v2 : Int32) (s0 : Int32) : MS := if v1 < 21 then (f_M_happenStack_34 st v1 v2 s0) else (if 24 < v1 then (f_M_happenStack_34 st v1 v2 s0) else (f_M_happenStack_35 st v1 v2 s0 1))
def f_M_happenStack_16 (st : MS) (v1 : Int32) (v2 : Int32) : MS := f_M_happenStack_17 st v1 v2 0
def f_M_happenStack (st : MS) (v1 : Int32) (v2 : Int32) : MS := if v1 < 16 then (f_M_happenStack_16 st v1 v2) else (if 20 < v1 then (f_M_happenStack_16 st v1 v2) else (f_M_happenStack_17 st v1 v2 1))
abbrev rm_M_happenStack : Room := { frames := 4, cells := 0, slots := 0, locals := 83 }
set_option maxHeartbeats 4000000 in
set_option maxRecDepth 100000 in
theorem k_M_happenStack (l : Launch) (g : CG) (cs : CS) (o : Nat → Int64) (st : MS) (v1 : Int32) (v2 : Int32) : KV l g y_M_happenStack (Cond.code y_M_happenStack c_M_happenStack 5 none :: ALL) rm_M_happenStack [.ref (g.model), .int v1, .int v2] (wM g cs o) st (f_M_happenStack st v1 v2) := by
  refine KV.ofW (by decide) (Nat.le_of_ble_eq_true rfl) ?_
  intro p e s m args below meth c A Q ls Rv X he RET hC hl
  obtain ⟨hx, hb⟩ := FX_xb X
  have hl : lv_has ls 5 [(0, .ref (g.model)), (1, .int v1), (2, .int v2)] := hl
  have B350 : ∀ (H : Heap) (locs : List Loc) (ls : Array Slot) (st : MS) , HC g A s (wM g cs o st) H locs → lv_has ls 5 [] → f_M_happenStack_350 st  = Rv → W p l e rm_M_happenStack s m args below meth c H locs 0 0 Q (F0 m 350 ls []) := by
    intro H locs ls st   hC hl he
    unfold f_M_happenStack_350 at he
    exact RET (pc := 350) d_M_happenStack_350 hC he
  have B316 : ∀ (H : Heap) (locs : List Loc) (ls : Array Slot) (st : MS) (v2 : Int32) (s0 : Int32), HC g A s (wM g cs o st) H locs → lv_has ls 5 [(0, .ref (g.model)), (2, .int v2)] → f_M_happenStack_316 st v2 s0 = Rv → W p l e rm_M_happenStack s m args below meth c H locs 0 0 Q (F0 m 316 ls [.int s0, .ref (g.model)]) := by
    intro H locs ls st v2 s0  hC hl he
    unfold f_M_happenStack_316 at he
    refine PM_flags (pc := 316) X hC d_M_happenStack_316 (fun st48 H locs est48 hC => ?_)
    replace he := bS_go he est48
    refine lv_aload_n (pc := 319) hx hb d_M_happenStack_319 rfl (lv_at hl 0 rfl) ?_
    refine lv_iload_n (pc := 320) hx hb d_M_happenStack_320 rfl (lv_at hl 1 rfl) ?_
    refine PM_z (pc := 321) X hC d_M_happenStack_321 (fun st49 H locs est49 hC => ?_)
    replace he := bS_go he est49
    refine lv_goto (pc := 324) (tgt := 350) hx hb d_M_happenStack_324 (by decide) ?_
    exact B350 _ _ _ st49   hC (lv_sub hl [] rfl) he
  have B291 : ∀ (H : Heap) (locs : List Loc) (ls : Array Slot) (st : MS) (v2 : Int32) (s0 : Int32) (hs0 : s0 = 0 ∨ s0 = 1), HC g A s (wM g cs o st) H locs → lv_has ls 5 [(0, .ref (g.model)), (2, .int v2)] → f_M_happenStack_291 st v2 s0 = Rv → W p l e rm_M_happenStack s m args below meth c H locs 0 0 Q (F0 m 291 ls [.int s0, .ref (g.model)]) := by
    intro H locs ls st v2 s0 hs0 hC hl he
    unfold f_M_happenStack_291 at he
    refine PM_wanted (pc := 291) X hC hs0 d_M_happenStack_291 (fun st46 H locs est46 hC => ?_)
    replace he := bS_go he est46
    refine lv_aload_n (pc := 294) hx hb d_M_happenStack_294 rfl (lv_at hl 0 rfl) ?_
    refine lv_aload_n (pc := 295) hx hb d_M_happenStack_295 rfl (lv_at hl 0 rfl) ?_
    refine GM_going (pc := 296) X hC d_M_happenStack_296 ?_
    refine lv_iconst (pc := 299) (v := 2) hx hb d_M_happenStack_299 (by decide) ?_
    refine lv_icmp_ne (pc := 300) (tgt := 312) hx hb d_M_happenStack_300 (by decide) (fun h47 => ?_) (fun h47 => ?_)
    · replace he := if_no he h47
      refine lv_aload_n (pc := 312) hx hb d_M_happenStack_312 rfl (lv_at hl 0 rfl) ?_
      refine GM_flags (pc := 313) X hC d_M_happenStack_313 ?_
      exact B316 _ _ _ st46 v2 (st46.1 5)  hC (lv_sub hl [0, 1] rfl) he
    replace he := if_go he h47
    refine lv_aload_n (pc := 303) hx hb d_M_happenStack_303 rfl (lv_at hl 0 rfl) ?_
    refine GM_flags (pc := 304) X hC d_M_happenStack_304 ?_
    refine lv_iconst (pc := 307) (v := 4) hx hb d_M_happenStack_307 (by decide) ?_
    refine lv_ior (pc := 308) hx hb d_M_happenStack_308 ?_
    refine lv_goto (pc := 309) (tgt := 316) hx hb d_M_happenStack_309 (by decide) ?_
    exact B316 _ _ _ st46 v2 ((st46.1 5) ||| 4)  hC (lv_sub hl [0, 1] rfl) he
  have B290 : ∀ (H : Heap) (locs : List Loc) (ls : Array Slot) (st : MS) (v2 : Int32), HC g A s (wM g cs o st) H locs → lv_has ls 5 [(0, .ref (g.model)), (2, .int v2)] → f_M_happenStack_290 st v2 = Rv → W p l e rm_M_happenStack s m args below meth c H locs 0 0 Q (F0 m 290 ls [.ref (g.model)]) := by
    intro H locs ls st v2  hC hl he
    unfold f_M_happenStack_290 at he
    refine lv_iconst (pc := 290) (v := 0) hx hb d_M_happenStack_290 (by decide) ?_
    exact B291 _ _ _ st v2 0 b0 hC (lv_sub hl [0, 1] rfl) he
  have B83 : ∀ (H : Heap) (locs : List Loc) (ls : Array Slot) (st : MS) (v1 : Int32) (v2 : Int32) (s0 : Int32), HC g A s (wM g cs o st) H locs → lv_has ls 5 [(0, .ref (g.model)), (1, .int v1), (2, .int v2)] → f_M_happenStack_83 st v1 v2 s0 = Rv → W p l e rm_M_happenStack s m args below meth c H locs 0 0 Q (F0 m 83 ls [.int s0, .ref (g.model)]) := by
    intro H locs ls st v1 v2 s0  hC hl he
    unfold f_M_happenStack_83 at he
    refine PM_s (pc := 83) X hC d_M_happenStack_83 (fun st8 H locs est8 hC => ?_)
    replace he := bS_go he est8
    refine lv_iload_n (pc := 86) hx hb d_M_happenStack_86 rfl (lv_at hl 1 rfl) ?_
    by_cases h9 : v1 = 5
    · replace he := if_go he h9
      refine lv_tableIn (pc := 87) (tgt := 343) hx hb d_M_happenStack_87 (by rw [h9]; decide) (by rw [h9]; decide) (by rw [h9]; rfl) (by decide) ?_
      refine lv_aload_n (pc := 343) hx hb d_M_happenStack_343 rfl (lv_at hl 0 rfl) ?_
      refine callVO (q0 := 4) (pc := 344) (As := []) (rest := []) X (k_M_idle l g cs o st8 ) hC (NM_M_idle_217 X rfl rfl ⟨by decide, by decide⟩) rfl rfl rfl hl.1 (Nat.le_of_ble_eq_true rfl) rfl d_M_happenStack_344 ⟨Nat.zero_le _, Nat.zero_le _⟩ (fun st10 H locs est10 hC => ?_)
      replace he := bS_go he est10
      refine lv_goto (pc := 347) (tgt := 350) hx hb d_M_happenStack_347 (by decide) ?_
      exact B350 _ _ _ st10   hC (lv_sub hl [] rfl) he
    replace he := if_no he h9
    by_cases h11 : v1 = 6
    · replace he := if_go he h11
      refine lv_tableIn (pc := 87) (tgt := 350) hx hb d_M_happenStack_87 (by rw [h11]; decide) (by rw [h11]; decide) (by rw [h11]; rfl) (by decide) ?_
      exact B350 _ _ _ st8   hC (lv_sub hl [] rfl) he
    replace he := if_no he h11
    by_cases h12 : v1 = 7
    · replace he := if_go he h12
      refine lv_tableIn (pc := 87) (tgt := 350) hx hb d_M_happenStack_87 (by rw [h12]; decide) (by rw [h12]; decide) (by rw [h12]; rfl) (by decide) ?_
      exact B350 _ _ _ st8   hC (lv_sub hl [] rfl) he
    replace he := if_no he h12
    by_cases h13 : v1 = 8
    · replace he := if_go he h13
      refine lv_tableIn (pc := 87) (tgt := 350) hx hb d_M_happenStack_87 (by rw [h13]; decide) (by rw [h13]; decide) (by rw [h13]; rfl) (by decide) ?_
      exact B350 _ _ _ st8   hC (lv_sub hl [] rfl) he
    replace he := if_no he h13
    by_cases h14 : v1 = 9
    · replace he := if_go he h14
      refine lv_tableIn (pc := 87) (tgt := 350) hx hb d_M_happenStack_87 (by rw [h14]; decide) (by rw [h14]; decide) (by rw [h14]; rfl) (by decide) ?_
      exact B350 _ _ _ st8   hC (lv_sub hl [] rfl) he
    replace he := if_no he h14
    by_cases h15 : v1 = 10
    · replace he := if_go he h15
      refine lv_tableIn (pc := 87) (tgt := 350) hx hb d_M_happenStack_87 (by rw [h15]; decide) (by rw [h15]; decide) (by rw [h15]; rfl) (by decide) ?_
      exact B350 _ _ _ st8   hC (lv_sub hl [] rfl) he
    replace he := if_no he h15
    by_cases h16 : v1 = 11
    · replace he := if_go he h16
      refine lv_tableIn (pc := 87) (tgt := 350) hx hb d_M_happenStack_87 (by rw [h16]; decide) (by rw [h16]; decide) (by rw [h16]; rfl) (by decide) ?_
      exact B350 _ _ _ st8   hC (lv_sub hl [] rfl) he
    replace he := if_no he h16
    by_cases h17 : v1 = 12
    · replace he := if_go he h17
      refine lv_tableIn (pc := 87) (tgt := 350) hx hb d_M_happenStack_87 (by rw [h17]; decide) (by rw [h17]; decide) (by rw [h17]; rfl) (by decide) ?_
      exact B350 _ _ _ st8   hC (lv_sub hl [] rfl) he
    replace he := if_no he h17
    by_cases h18 : v1 = 13
    · replace he := if_go he h18
      refine lv_tableIn (pc := 87) (tgt := 350) hx hb d_M_happenStack_87 (by rw [h18]; decide) (by rw [h18]; decide) (by rw [h18]; rfl) (by decide) ?_
      exact B350 _ _ _ st8   hC (lv_sub hl [] rfl) he
    replace he := if_no he h18
    by_cases h19 : v1 = 14
    · replace he := if_go he h19
      refine lv_tableIn (pc := 87) (tgt := 350) hx hb d_M_happenStack_87 (by rw [h19]; decide) (by rw [h19]; decide) (by rw [h19]; rfl) (by decide) ?_
      exact B350 _ _ _ st8   hC (lv_sub hl [] rfl) he
    replace he := if_no he h19
    by_cases h20 : v1 = 15
    · replace he := if_go he h20
      refine lv_tableIn (pc := 87) (tgt := 350) hx hb d_M_happenStack_87 (by rw [h20]; decide) (by rw [h20]; decide) (by rw [h20]; rfl) (by decide) ?_
      exact B350 _ _ _ st8   hC (lv_sub hl [] rfl) he
    replace he := if_no he h20
    by_cases h21 : v1 = 16
    · replace he := if_go he h21
      refine lv_tableIn (pc := 87) (tgt := 350) hx hb d_M_happenStack_87 (by rw [h21]; decide) (by rw [h21]; decide) (by rw [h21]; rfl) (by decide) ?_
      exact B350 _ _ _ st8   hC (lv_sub hl [] rfl) he
    replace he := if_no he h21
    by_cases h22 : v1 = 17
    · replace he := if_go he h22
      refine lv_tableIn (pc := 87) (tgt := 350) hx hb d_M_happenStack_87 (by rw [h22]; decide) (by rw [h22]; decide) (by rw [h22]; rfl) (by decide) ?_
      exact B350 _ _ _ st8   hC (lv_sub hl [] rfl) he
    replace he := if_no he h22
    by_cases h23 : v1 = 18
    · replace he := if_go he h23
      refine lv_tableIn (pc := 87) (tgt := 200) hx hb d_M_happenStack_87 (by rw [h23]; decide) (by rw [h23]; decide) (by rw [h23]; rfl) (by decide) ?_
      refine lv_aload_n (pc := 200) hx hb d_M_happenStack_200 rfl (lv_at hl 0 rfl) ?_
      refine lv_dup (pc := 201) hx hb d_M_happenStack_201 rfl ?_
      refine GM_flags (pc := 202) X hC d_M_happenStack_202 ?_
      refine lv_iconst (pc := 205) (v := 4) hx hb d_M_happenStack_205 (by decide) ?_
      refine lv_ior (pc := 206) hx hb d_M_happenStack_206 ?_
      refine PM_flags (pc := 207) X hC d_M_happenStack_207 (fun st24 H locs est24 hC => ?_)
      replace he := bS_go he est24
      refine lv_goto (pc := 210) (tgt := 350) hx hb d_M_happenStack_210 (by decide) ?_
      exact B350 _ _ _ st24   hC (lv_sub hl [] rfl) he
    replace he := if_no he h23
    by_cases h25 : v1 = 19
    · replace he := if_go he h25
      refine lv_tableIn (pc := 87) (tgt := 350) hx hb d_M_happenStack_87 (by rw [h25]; decide) (by rw [h25]; decide) (by rw [h25]; rfl) (by decide) ?_
      exact B350 _ _ _ st8   hC (lv_sub hl [] rfl) he
    replace he := if_no he h25
    by_cases h26 : v1 = 20
    · replace he := if_go he h26
      refine lv_tableIn (pc := 87) (tgt := 350) hx hb d_M_happenStack_87 (by rw [h26]; decide) (by rw [h26]; decide) (by rw [h26]; rfl) (by decide) ?_
      exact B350 _ _ _ st8   hC (lv_sub hl [] rfl) he
    replace he := if_no he h26
    by_cases h27 : v1 = 21
    · replace he := if_go he h27
      refine lv_tableIn (pc := 87) (tgt := 213) hx hb d_M_happenStack_87 (by rw [h27]; decide) (by rw [h27]; decide) (by rw [h27]; rfl) (by decide) ?_
      refine lv_aload_n (pc := 213) hx hb d_M_happenStack_213 rfl (lv_at hl 0 rfl) ?_
      refine lv_aload_n (pc := 214) hx hb d_M_happenStack_214 rfl (lv_at hl 0 rfl) ?_
      refine lv_iload_n (pc := 215) hx hb d_M_happenStack_215 rfl (lv_at hl 2 rfl) ?_
      refine callIO (q0 := 4) (pc := 216) (As := [.int v2]) (rest := [.ref (g.model)]) X (k_M_mark l g cs o st8 v2) hC (NM_M_mark_210 X rfl rfl ⟨by decide, by decide⟩) rfl rfl rfl hl.1 (Nat.le_of_ble_eq_true rfl) rfl d_M_happenStack_216 ⟨Nat.zero_le _, Nat.zero_le _⟩ (fun r29 st28 H locs est28 hC => ?_)
      replace he := bP_go he est28
      refine PM_a (pc := 219) X hC d_M_happenStack_219 (fun st30 H locs est30 hC => ?_)
      replace he := bS_go he est30
      refine lv_goto (pc := 222) (tgt := 350) hx hb d_M_happenStack_222 (by decide) ?_
      exact B350 _ _ _ st30   hC (lv_sub hl [] rfl) he
    replace he := if_no he h27
    by_cases h31 : v1 = 22
    · replace he := if_go he h31
      refine lv_tableIn (pc := 87) (tgt := 225) hx hb d_M_happenStack_87 (by rw [h31]; decide) (by rw [h31]; decide) (by rw [h31]; rfl) (by decide) ?_
      refine lv_aload_n (pc := 225) hx hb d_M_happenStack_225 rfl (lv_at hl 0 rfl) ?_
      refine lv_iload_n (pc := 226) hx hb d_M_happenStack_226 rfl (lv_at hl 2 rfl) ?_
      refine lv_sipush (pc := 227) (v := 207) hx hb d_M_happenStack_227 (by decide) ?_
      refine lv_iand (pc := 230) hx hb d_M_happenStack_230 ?_
      refine PM_flags (pc := 231) X hC d_M_happenStack_231 (fun st32 H locs est32 hC => ?_)
      replace he := bS_go he est32
      refine lv_goto (pc := 234) (tgt := 350) hx hb d_M_happenStack_234 (by decide) ?_
      exact B350 _ _ _ st32   hC (lv_sub hl [] rfl) he
    replace he := if_no he h31
    by_cases h33 : v1 = 23
    · replace he := if_go he h33
      refine lv_tableIn (pc := 87) (tgt := 237) hx hb d_M_happenStack_87 (by rw [h33]; decide) (by rw [h33]; decide) (by rw [h33]; rfl) (by decide) ?_
      refine lv_aload_n (pc := 237) hx hb d_M_happenStack_237 rfl (lv_at hl 0 rfl) ?_
      refine lv_iload_n (pc := 238) hx hb d_M_happenStack_238 rfl (lv_at hl 2 rfl) ?_
      refine PM_z (pc := 239) X hC d_M_happenStack_239 (fun st34 H locs est34 hC => ?_)
      replace he := bS_go he est34
      refine lv_goto (pc := 242) (tgt := 350) hx hb d_M_happenStack_242 (by decide) ?_
      exact B350 _ _ _ st34   hC (lv_sub hl [] rfl) he
    replace he := if_no he h33
    by_cases h35 : v1 = 24
    · replace he := if_go he h35
      refine lv_tableIn (pc := 87) (tgt := 245) hx hb d_M_happenStack_87 (by rw [h35]; decide) (by rw [h35]; decide) (by rw [h35]; rfl) (by decide) ?_
      refine lv_aload_n (pc := 245) hx hb d_M_happenStack_245 rfl (lv_at hl 0 rfl) ?_
      refine lv_aload_n (pc := 246) hx hb d_M_happenStack_246 rfl (lv_at hl 0 rfl) ?_
      refine GM_z (pc := 247) X hC d_M_happenStack_247 ?_
      refine lv_iload_n (pc := 250) hx hb d_M_happenStack_250 rfl (lv_at hl 2 rfl) ?_
      refine lv_bipush (pc := 251) (v := 8) hx hb d_M_happenStack_251 (by decide) ?_
      refine lv_ishl (pc := 253) hx hb d_M_happenStack_253 ?_
      refine lv_ior (pc := 254) hx hb d_M_happenStack_254 ?_
      refine PM_pc (pc := 255) X hC d_M_happenStack_255 (fun st36 H locs est36 hC => ?_)
      replace he := bS_go he est36
      refine lv_goto (pc := 258) (tgt := 350) hx hb d_M_happenStack_258 (by decide) ?_
      exact B350 _ _ _ st36   hC (lv_sub hl [] rfl) he
    replace he := if_no he h35
    by_cases h37 : v1 = 25
    · replace he := if_go he h37
      refine lv_tableIn (pc := 87) (tgt := 350) hx hb d_M_happenStack_87 (by rw [h37]; decide) (by rw [h37]; decide) (by rw [h37]; rfl) (by decide) ?_
      exact B350 _ _ _ st8   hC (lv_sub hl [] rfl) he
    replace he := if_no he h37
    by_cases h38 : v1 = 26
    · replace he := if_go he h38
      refine lv_tableIn (pc := 87) (tgt := 350) hx hb d_M_happenStack_87 (by rw [h38]; decide) (by rw [h38]; decide) (by rw [h38]; rfl) (by decide) ?_
      exact B350 _ _ _ st8   hC (lv_sub hl [] rfl) he
    replace he := if_no he h38
    by_cases h39 : v1 = 27
    · replace he := if_go he h39
      refine lv_tableIn (pc := 87) (tgt := 350) hx hb d_M_happenStack_87 (by rw [h39]; decide) (by rw [h39]; decide) (by rw [h39]; rfl) (by decide) ?_
      exact B350 _ _ _ st8   hC (lv_sub hl [] rfl) he
    replace he := if_no he h39
    by_cases h40 : v1 = 28
    · replace he := if_go he h40
      refine lv_tableIn (pc := 87) (tgt := 261) hx hb d_M_happenStack_87 (by rw [h40]; decide) (by rw [h40]; decide) (by rw [h40]; rfl) (by decide) ?_
      refine lv_aload_n (pc := 261) hx hb d_M_happenStack_261 rfl (lv_at hl 0 rfl) ?_
      refine lv_aload_n (pc := 262) hx hb d_M_happenStack_262 rfl (lv_at hl 0 rfl) ?_
      refine GM_address (pc := 263) X hC d_M_happenStack_263 ?_
      refine PM_vector (pc := 266) X hC d_M_happenStack_266 (fun st41 H locs est41 hC => ?_)
      replace he := bS_go he est41
      refine lv_aload_n (pc := 269) hx hb d_M_happenStack_269 rfl (lv_at hl 0 rfl) ?_
      refine lv_aload_n (pc := 270) hx hb d_M_happenStack_270 rfl (lv_at hl 0 rfl) ?_
      refine GM_wanted (pc := 271) X hC d_M_happenStack_271 ?_
      refine lv_if_eq (pc := 274) (tgt := 290) hx hb d_M_happenStack_274 (by decide) (fun h42 => ?_) (fun h42 => ?_)
      · replace he := if_go he h42
        exact B290 _ _ _ st41 v2  hC (lv_sub hl [0, 2] rfl) he
      replace he := if_no he h42
      refine lv_aload_n (pc := 277) hx hb d_M_happenStack_277 rfl (lv_at hl 0 rfl) ?_
      refine GM_address (pc := 278) X hC d_M_happenStack_278 ?_
      refine LM_174 (pc := 281) X d_M_happenStack_281 ?_
      refine lv_icmp_eq (pc := 283) (tgt := 290) hx hb d_M_happenStack_283 (by decide) (fun h43 => ?_) (fun h43 => ?_)
      · replace he := if_go he h43
        exact B290 _ _ _ st41 v2  hC (lv_sub hl [0, 2] rfl) he
      replace he := if_no he h43
      refine lv_iconst (pc := 286) (v := 1) hx hb d_M_happenStack_286 (by decide) ?_
      refine lv_goto (pc := 287) (tgt := 291) hx hb d_M_happenStack_287 (by decide) ?_
      exact B291 _ _ _ st41 v2 1 b1 hC (lv_sub hl [0, 2] rfl) he
    replace he := if_no he h40
    by_cases h44 : v1 = 29
    · replace he := if_go he h44
      refine lv_tableIn (pc := 87) (tgt := 327) hx hb d_M_happenStack_87 (by rw [h44]; decide) (by rw [h44]; decide) (by rw [h44]; rfl) (by decide) ?_
      refine lv_aload_n (pc := 327) hx hb d_M_happenStack_327 rfl (lv_at hl 0 rfl) ?_
      refine lv_aload_n (pc := 328) hx hb d_M_happenStack_328 rfl (lv_at hl 0 rfl) ?_
      refine GM_z (pc := 329) X hC d_M_happenStack_329 ?_
      refine lv_iload_n (pc := 332) hx hb d_M_happenStack_332 rfl (lv_at hl 2 rfl) ?_
      refine lv_bipush (pc := 333) (v := 8) hx hb d_M_happenStack_333 (by decide) ?_
      refine lv_ishl (pc := 335) hx hb d_M_happenStack_335 ?_
      refine lv_ior (pc := 336) hx hb d_M_happenStack_336 ?_
      refine PM_pc (pc := 337) X hC d_M_happenStack_337 (fun st45 H locs est45 hC => ?_)
      replace he := bS_go he est45
      refine lv_goto (pc := 340) (tgt := 350) hx hb d_M_happenStack_340 (by decide) ?_
      exact B350 _ _ _ st45   hC (lv_sub hl [] rfl) he
    replace he := if_no he h44
    refine lv_tableOut (pc := 87) (tgt := 350) hx hb d_M_happenStack_87 (by have nh9 := lv_neT (a := 5) h9 (by decide); have nh11 := lv_neT (a := 6) h11 (by decide); have nh12 := lv_neT (a := 7) h12 (by decide); have nh13 := lv_neT (a := 8) h13 (by decide); have nh14 := lv_neT (a := 9) h14 (by decide); have nh15 := lv_neT (a := 10) h15 (by decide); have nh16 := lv_neT (a := 11) h16 (by decide); have nh17 := lv_neT (a := 12) h17 (by decide); have nh18 := lv_neT (a := 13) h18 (by decide); have nh19 := lv_neT (a := 14) h19 (by decide); have nh20 := lv_neT (a := 15) h20 (by decide); have nh21 := lv_neT (a := 16) h21 (by decide); have nh22 := lv_neT (a := 17) h22 (by decide); have nh23 := lv_neT (a := 18) h23 (by decide); have nh25 := lv_neT (a := 19) h25 (by decide); have nh26 := lv_neT (a := 20) h26 (by decide); have nh27 := lv_neT (a := 21) h27 (by decide); have nh31 := lv_neT (a := 22) h31 (by decide); have nh33 := lv_neT (a := 23) h33 (by decide); have nh35 := lv_neT (a := 24) h35 (by decide); have nh37 := lv_neT (a := 25) h37 (by decide); have nh38 := lv_neT (a := 26) h38 (by decide); have nh39 := lv_neT (a := 27) h39 (by decide); have nh40 := lv_neT (a := 28) h40 (by decide); have nh44 := lv_neT (a := 29) h44 (by decide); omega) (by decide) ?_
    exact B350 _ _ _ st8   hC (lv_sub hl [] rfl) he
  have B48 : ∀ (H : Heap) (locs : List Loc) (ls : Array Slot) (st : MS) (v1 : Int32) (v2 : Int32), HC g A s (wM g cs o st) H locs → lv_has ls 5 [(0, .ref (g.model)), (1, .int v1), (2, .int v2)] → f_M_happenStack_48 st v1 v2 = Rv → W p l e rm_M_happenStack s m args below meth c H locs 0 0 Q (F0 m 48 ls [.ref (g.model)]) := by
    intro H locs ls st v1 v2  hC hl he
    unfold f_M_happenStack_48 at he
    refine lv_aload_n (pc := 48) hx hb d_M_happenStack_48 rfl (lv_at hl 0 rfl) ?_
    refine GM_s (pc := 49) X hC d_M_happenStack_49 ?_
    refine lv_iconst (pc := 52) (v := 1) hx hb d_M_happenStack_52 (by decide) ?_
    refine lv_isub (pc := 53) hx hb d_M_happenStack_53 ?_
    refine lv_sipush (pc := 54) (v := 255) hx hb d_M_happenStack_54 (by decide) ?_
    refine lv_iand (pc := 57) hx hb d_M_happenStack_57 ?_
    refine lv_goto (pc := 58) (tgt := 83) hx hb d_M_happenStack_58 (by decide) ?_
    exact B83 _ _ _ st v1 v2 (((st.1 3) - 1) &&& 255)  hC (lv_sub hl [0, 1, 2] rfl) he
  have B35 : ∀ (H : Heap) (locs : List Loc) (ls : Array Slot) (st : MS) (v1 : Int32) (v2 : Int32) (v3 : Int32) (s0 : Int32) (hv3 : v3 = 0 ∨ v3 = 1) (hs0 : s0 = 0 ∨ s0 = 1), HC g A s (wM g cs o st) H locs → lv_has ls 5 [(0, .ref (g.model)), (1, .int v1), (2, .int v2), (3, .int v3)] → f_M_happenStack_35 st v1 v2 v3 s0 = Rv → W p l e rm_M_happenStack s m args below meth c H locs 0 0 Q (F0 m 35 ls [.int s0]) := by
    intro H locs ls st v1 v2 v3 s0 hv3 hs0 hC hl he
    unfold f_M_happenStack_35 at he
    refine lv_istore (pc := 35) (nL := 5) (lv' := [(4, .int s0), (0, .ref (g.model)), (1, .int v1), (2, .int v2), (3, .int v3)]) hx hb d_M_happenStack_35 hl (by decide) rfl (fun ls hl => ?_)
    refine lv_aload_n (pc := 37) hx hb d_M_happenStack_37 rfl (lv_at hl 1 rfl) ?_
    refine lv_iload_n (pc := 38) hx hb d_M_happenStack_38 rfl (lv_at hl 4 rfl) ?_
    refine lv_if_ne (pc := 39) (tgt := 48) hx hb d_M_happenStack_39 (by decide) (fun h5 => ?_) (fun h5 => ?_)
    · replace he := if_no he h5
      exact B48 _ _ _ st v1 v2  hC (lv_sub hl [1, 2, 3] rfl) he
    replace he := if_go he h5
    refine lv_iload_n (pc := 42) hx hb d_M_happenStack_42 rfl (lv_at hl 2 rfl) ?_
    refine lv_bipush (pc := 43) (v := 30) hx hb d_M_happenStack_43 (by decide) ?_
    refine lv_icmp_ne (pc := 45) (tgt := 61) hx hb d_M_happenStack_45 (by decide) (fun h6 => ?_) (fun h6 => ?_)
    · replace he := if_no he h6
      refine lv_iload (pc := 61) hx hb d_M_happenStack_61 (lv_at hl 0 rfl) ?_
      refine lv_if_eq (pc := 63) (tgt := 79) hx hb d_M_happenStack_63 (by decide) (fun h7 => ?_) (fun h7 => ?_)
      · replace he := if_go he h7
        refine lv_aload_n (pc := 79) hx hb d_M_happenStack_79 rfl (lv_at hl 1 rfl) ?_
        refine GM_s (pc := 80) X hC d_M_happenStack_80 ?_
        exact B83 _ _ _ st v1 v2 (st.1 3)  hC (lv_sub hl [1, 2, 3] rfl) he
      replace he := if_no he h7
      refine lv_aload_n (pc := 66) hx hb d_M_happenStack_66 rfl (lv_at hl 1 rfl) ?_
      refine GM_s (pc := 67) X hC d_M_happenStack_67 ?_
      refine lv_iconst (pc := 70) (v := 1) hx hb d_M_happenStack_70 (by decide) ?_
      refine lv_iadd (pc := 71) hx hb d_M_happenStack_71 ?_
      refine lv_sipush (pc := 72) (v := 255) hx hb d_M_happenStack_72 (by decide) ?_
      refine lv_iand (pc := 75) hx hb d_M_happenStack_75 ?_
      refine lv_goto (pc := 76) (tgt := 83) hx hb d_M_happenStack_76 (by decide) ?_
      exact B83 _ _ _ st v1 v2 (((st.1 3) + 1) &&& 255)  hC (lv_sub hl [1, 2, 3] rfl) he
    replace he := if_go he h6
    exact B48 _ _ _ st v1 v2  hC (lv_sub hl [1, 2, 3] rfl) he
  have B34 : ∀ (H : Heap) (locs : List Loc) (ls : Array Slot) (st : MS) (v1 : Int32) (v2 : Int32) (v3 : Int32) (hv3 : v3 = 0 ∨ v3 = 1), HC g A s (wM g cs o st) H locs → lv_has ls 5 [(0, .ref (g.model)), (1, .int v1), (2, .int v2), (3, .int v3)] → f_M_happenStack_34 st v1 v2 v3 = Rv → W p l e rm_M_happenStack s m args below meth c H locs 0 0 Q (F0 m 34 ls []) := by
    intro H locs ls st v1 v2 v3 hv3 hC hl he
    unfold f_M_happenStack_34 at he
    refine lv_iconst (pc := 34) (v := 0) hx hb d_M_happenStack_34 (by decide) ?_
    exact B35 _ _ _ st v1 v2 v3 0 hv3 b0 hC (lv_sub hl [0, 1, 2, 3] rfl) he
  have B17 : ∀ (H : Heap) (locs : List Loc) (ls : Array Slot) (st : MS) (v1 : Int32) (v2 : Int32) (s0 : Int32) (hs0 : s0 = 0 ∨ s0 = 1), HC g A s (wM g cs o st) H locs → lv_has ls 5 [(0, .ref (g.model)), (1, .int v1), (2, .int v2)] → f_M_happenStack_17 st v1 v2 s0 = Rv → W p l e rm_M_happenStack s m args below meth c H locs 0 0 Q (F0 m 17 ls [.int s0]) := by
    intro H locs ls st v1 v2 s0 hs0 hC hl he
    unfold f_M_happenStack_17 at he
    refine lv_istore_n (pc := 17) (nL := 5) (lv' := [(3, .int s0), (0, .ref (g.model)), (1, .int v1), (2, .int v2)]) hx hb d_M_happenStack_17 rfl hl (by decide) rfl (fun ls hl => ?_)
    refine lv_iload_n (pc := 18) hx hb d_M_happenStack_18 rfl (lv_at hl 2 rfl) ?_
    refine lv_bipush (pc := 19) (v := 21) hx hb d_M_happenStack_19 (by decide) ?_
    refine lv_icmp_lt (pc := 21) (tgt := 34) hx hb d_M_happenStack_21 (by decide) (fun h3 => ?_) (fun h3 => ?_)
    · replace he := if_go he h3
      exact B34 _ _ _ st v1 v2 s0 hs0 hC (lv_sub hl [1, 2, 3, 0] rfl) he
    replace he := if_no he h3
    refine lv_iload_n (pc := 24) hx hb d_M_happenStack_24 rfl (lv_at hl 2 rfl) ?_
    refine lv_bipush (pc := 25) (v := 24) hx hb d_M_happenStack_25 (by decide) ?_
    refine lv_icmp_gt (pc := 27) (tgt := 34) hx hb d_M_happenStack_27 (by decide) (fun h4 => ?_) (fun h4 => ?_)
    · replace he := if_go he h4
      exact B34 _ _ _ st v1 v2 s0 hs0 hC (lv_sub hl [1, 2, 3, 0] rfl) he
    replace he := if_no he h4
    refine lv_iconst (pc := 30) (v := 1) hx hb d_M_happenStack_30 (by decide) ?_
    refine lv_goto (pc := 31) (tgt := 35) hx hb d_M_happenStack_31 (by decide) ?_
    exact B35 _ _ _ st v1 v2 s0 1 hs0 b1 hC (lv_sub hl [1, 2, 3, 0] rfl) he
  have B16 : ∀ (H : Heap) (locs : List Loc) (ls : Array Slot) (st : MS) (v1 : Int32) (v2 : Int32), HC g A s (wM g cs o st) H locs → lv_has ls 5 [(0, .ref (g.model)), (1, .int v1), (2, .int v2)] → f_M_happenStack_16 st v1 v2 = Rv → W p l e rm_M_happenStack s m args below meth c H locs 0 0 Q (F0 m 16 ls []) := by
    intro H locs ls st v1 v2  hC hl he
    unfold f_M_happenStack_16 at he
    refine lv_iconst (pc := 16) (v := 0) hx hb d_M_happenStack_16 (by decide) ?_
    exact B17 _ _ _ st v1 v2 0 b0 hC (lv_sub hl [0, 1, 2] rfl) he
  unfold f_M_happenStack at he
  refine lv_iload_n (pc := 0) hx hb d_M_happenStack_0 rfl (lv_at hl 1 rfl) ?_
  refine lv_bipush (pc := 1) (v := 16) hx hb d_M_happenStack_1 (by decide) ?_
  refine lv_icmp_lt (pc := 3) (tgt := 16) hx hb d_M_happenStack_3 (by decide) (fun h1 => ?_) (fun h1 => ?_)
  · replace he := if_go he h1
    exact B16 _ _ _ st v1 v2  hC (lv_sub hl [0, 1, 2] rfl) he
  replace he := if_no he h1
  refine lv_iload_n (pc := 6) hx hb d_M_happenStack_6 rfl (lv_at hl 1 rfl) ?_
  refine lv_bipush (pc := 7) (v := 20) hx hb d_M_happenStack_7 (by decide) ?_
  refine lv_icmp_gt (pc := 9) (tgt := 16) hx hb d_M_happenStack_9 (by decide) (fun h2 => ?_) (fun h2 => ?_)
  · replace he := if_go he h2
    exact B16 _ _ _ st v1 v2  hC (lv_sub hl [0, 1, 2] rfl) he
  replace he := if_no he h2
  refine lv_iconst (pc := 12) (v := 1) hx hb d_M_happenStack_12 (by decide) ?_
  refine lv_goto (pc := 13) (tgt := 17) hx hb d_M_happenStack_13 (by decide) ?_
  exact B17 _ _ _ st v1 v2 1 b1 hC (lv_sub hl [0, 1, 2] rfl) he

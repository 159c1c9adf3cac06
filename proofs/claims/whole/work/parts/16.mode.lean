/-! contracts of methods (printed by my own program: pure pictures and walks) -/
def f_M_happen_400 (st : MS)  : MS := st
def f_M_happen_394 (st : MS) (v1 : Int32) (v2 : Int32) : MS := bS (f_M_happenStack st v1 v2) (fun st77 => f_M_happen_400 st77 )
def f_M_happen_371 (st : MS) (v2 : Int32) : MS := bS (tV st 4 ((st.1 16) ||| (v2 <<< ((8 : Int32) &&& 31)))) (fun st76 => f_M_happen_400 st76 )
def f_M_happen_345 (st : MS) (v2 : Int32) (s0 : Int32) (s1 : Int32) : MS := bS (f_M_put st s1 s0) (fun st72 => bP (f_M_mark st72 v2) (fun r74 st73 => bS (tV st73 20 r74) (fun st75 => f_M_happen_400 st75 )))
def f_M_happen_257 (st : MS) (v2 : Int32) : MS := bS (f_M_use st v2) (fun st71 => f_M_happen_400 st71 )
def f_M_happen (st : MS) (v1 : Int32) (v2 : Int32) : MS := if v1 = 1 then (bS (tV st 14 (v2 >>> ((3 : Int32) &&& 31))) (fun st2 => bS (tV st2 15 (v2 &&& 7)) (fun st3 => bS (f_M_next st3 ) (fun st4 => bS (tV st4 22 0) (fun st5 => bP (f_M_isJam st5 ) (fun r7 st6 => bS (tV st6 13 r7) (fun st8 => f_M_happen_400 st8 ))))))) else (if v1 = 2 then (bS (tV st 16 v2) (fun st10 => bS (f_M_next st10 ) (fun st11 => bP (f_M_isTaken st11 ) (fun r13 st12 => bS (tV st12 21 r13) (fun st14 => f_M_happen_400 st14 ))))) else (if v1 = 3 then (bS (tV st 17 v2) (fun st16 => bS (f_M_next st16 ) (fun st17 => bP (f_M_isHalf st17 ) (fun r19 st18 => bS (tV st18 22 r19) (fun st20 => f_M_happen_400 st20 ))))) else (if v1 = 4 then (bS (f_M_next st ) (fun st22 => f_M_happen_400 st22 )) else (if v1 = 5 then (f_M_happen_394 st v1 v2) else (if v1 = 6 then (f_M_happen_394 st v1 v2) else (if v1 = 7 then (f_M_happen_394 st v1 v2) else (if v1 = 8 then (f_M_happen_394 st v1 v2) else (if v1 = 9 then (bS (tV st 18 v2) (fun st28 => f_M_happen_400 st28 )) else (if v1 = 10 then (bS (tV st 17 v2) (fun st30 => bP (f_M_isHalf st30 ) (fun r32 st31 => bS (tV st31 22 r32) (fun st33 => f_M_happen_400 st33 )))) else (if v1 = 11 then (if (st.1 15) = 0 then (bS (f_M_next st ) (fun st36 => f_M_happen_257 st36 v2)) else (f_M_happen_257 st v2)) else (if v1 = 12 then (f_M_happen_394 st v1 v2) else (if v1 = 13 then (bS (tV st 18 v2) (fun st39 => f_M_happen_400 st39 )) else (if v1 = 14 then (bP (f_M_changed st v2) (fun r42 st41 => bS (tV st41 20 r42) (fun st43 => f_M_happen_400 st43 ))) else (if v1 = 15 then (if (st.1 14) = 12 then (if (st.1 18) ≤ 127 then (f_M_happen_345 st v2 0 1) else (f_M_happen_345 st v2 1 1)) else (if (st.1 14) = 13 then (if ((st.1 18) &&& 1) = 1 then (f_M_happen_345 st v2 1 1) else (f_M_happen_345 st v2 0 1)) else (bP (f_M_is st 1) (fun r48 st47 => f_M_happen_345 st47 v2 r48 1)))) else (if v1 = 16 then (f_M_happen_394 st v1 v2) else (if v1 = 17 then (f_M_happen_394 st v1 v2) else (if v1 = 18 then (f_M_happen_394 st v1 v2) else (if v1 = 19 then (f_M_happen_394 st v1 v2) else (if v1 = 20 then (f_M_happen_394 st v1 v2) else (if v1 = 21 then (f_M_happen_394 st v1 v2) else (if v1 = 22 then (f_M_happen_394 st v1 v2) else (if v1 = 23 then (f_M_happen_394 st v1 v2) else (if v1 = 24 then (f_M_happen_394 st v1 v2) else (if v1 = 25 then (bS (f_M_next st ) (fun st61 => f_M_happen_400 st61 )) else (if v1 = 26 then (f_M_happen_371 st v2) else (if v1 = 27 then (f_M_happen_371 st v2) else (if v1 = 28 then (f_M_happen_394 st v1 v2) else (if v1 = 29 then (f_M_happen_394 st v1 v2) else (if v1 = 30 then (f_M_happen_394 st v1 v2) else (if v1 = 31 then (bP (f_M_target st ) (fun r69 st68 => bS (tV st68 4 r69) (fun st70 => f_M_happen_400 st70 ))) else (f_M_happen_394 st v1 v2)))))))))))))))))))))))))))))))
abbrev rm_M_happen : Room := { frames := 5, cells := 0, slots := 0, locals := 112 }
set_option maxHeartbeats 4000000 in
set_option maxRecDepth 100000 in
theorem k_M_happen (l : Launch) (g : CG) (cs : CS) (o : Nat → Int64) (st : MS) (v1 : Int32) (v2 : Int32) : KV l g y_M_happen (Cond.code y_M_happen c_M_happen 3 none :: ALL) rm_M_happen [.ref (g.model), .int v1, .int v2] (wM g cs o) st (f_M_happen st v1 v2) := by
  refine KV.ofW (by decide) (Nat.le_of_ble_eq_true rfl) ?_
  intro p e s m args below meth c A Q ls Rv X he RET hC hl
  obtain ⟨hx, hb⟩ := FX_xb X
  have hl : lv_has ls 3 [(0, .ref (g.model)), (1, .int v1), (2, .int v2)] := hl
  have B400 : ∀ (H : Heap) (locs : List Loc) (ls : Array Slot) (st : MS) , HC g A s (wM g cs o st) H locs → lv_has ls 3 [] → f_M_happen_400 st  = Rv → W p l e rm_M_happen s m args below meth c H locs 0 0 Q (F0 m 400 ls []) := by
    intro H locs ls st   hC hl he
    unfold f_M_happen_400 at he
    exact RET (pc := 400) d_M_happen_400 hC he
  have B394 : ∀ (H : Heap) (locs : List Loc) (ls : Array Slot) (st : MS) (v1 : Int32) (v2 : Int32), HC g A s (wM g cs o st) H locs → lv_has ls 3 [(0, .ref (g.model)), (1, .int v1), (2, .int v2)] → f_M_happen_394 st v1 v2 = Rv → W p l e rm_M_happen s m args below meth c H locs 0 0 Q (F0 m 394 ls []) := by
    intro H locs ls st v1 v2  hC hl he
    unfold f_M_happen_394 at he
    refine lv_aload_n (pc := 394) hx hb d_M_happen_394 rfl (lv_at hl 0 rfl) ?_
    refine lv_iload_n (pc := 395) hx hb d_M_happen_395 rfl (lv_at hl 1 rfl) ?_
    refine lv_iload_n (pc := 396) hx hb d_M_happen_396 rfl (lv_at hl 2 rfl) ?_
    refine callVO (q0 := 4) (pc := 397) (As := [.int v1, .int v2]) (rest := []) X (k_M_happenStack l g cs o st v1 v2) hC (NM_M_happenStack_213 X rfl rfl ⟨by decide, by decide⟩) rfl rfl rfl hl.1 (Nat.le_of_ble_eq_true rfl) rfl d_M_happen_397 ⟨Nat.zero_le _, Nat.zero_le _⟩ (fun st77 H locs est77 hC => ?_)
    replace he := bS_go he est77
    exact B400 _ _ _ st77   hC (lv_sub hl [] rfl) he
  have B371 : ∀ (H : Heap) (locs : List Loc) (ls : Array Slot) (st : MS) (v2 : Int32), HC g A s (wM g cs o st) H locs → lv_has ls 3 [(0, .ref (g.model)), (2, .int v2)] → f_M_happen_371 st v2 = Rv → W p l e rm_M_happen s m args below meth c H locs 0 0 Q (F0 m 371 ls []) := by
    intro H locs ls st v2  hC hl he
    unfold f_M_happen_371 at he
    refine lv_aload_n (pc := 371) hx hb d_M_happen_371 rfl (lv_at hl 0 rfl) ?_
    refine lv_aload_n (pc := 372) hx hb d_M_happen_372 rfl (lv_at hl 0 rfl) ?_
    refine GM_z (pc := 373) X hC d_M_happen_373 ?_
    refine lv_iload_n (pc := 376) hx hb d_M_happen_376 rfl (lv_at hl 1 rfl) ?_
    refine lv_bipush (pc := 377) (v := 8) hx hb d_M_happen_377 (by decide) ?_
    refine lv_ishl (pc := 379) hx hb d_M_happen_379 ?_
    refine lv_ior (pc := 380) hx hb d_M_happen_380 ?_
    refine PM_pc (pc := 381) X hC d_M_happen_381 (fun st76 H locs est76 hC => ?_)
    replace he := bS_go he est76
    refine lv_goto (pc := 384) (tgt := 400) hx hb d_M_happen_384 (by decide) ?_
    exact B400 _ _ _ st76   hC (lv_sub hl [] rfl) he
  have B345 : ∀ (H : Heap) (locs : List Loc) (ls : Array Slot) (st : MS) (v2 : Int32) (s0 : Int32) (s1 : Int32) (hs0 : s0 = 0 ∨ s0 = 1) (hs1 : s1 = 0 ∨ s1 = 1), HC g A s (wM g cs o st) H locs → lv_has ls 3 [(0, .ref (g.model)), (2, .int v2)] → f_M_happen_345 st v2 s0 s1 = Rv → W p l e rm_M_happen s m args below meth c H locs 0 0 Q (F0 m 345 ls [.int s0, .int s1, .ref (g.model)]) := by
    intro H locs ls st v2 s0 s1 hs0 hs1 hC hl he
    unfold f_M_happen_345 at he
    refine callVO (q0 := 4) (pc := 345) (As := [.int s1, .int s0]) (rest := []) X (k_M_put l g cs o st s1 s0) hC (NM_M_put_24 X rfl rfl ⟨by decide, by decide⟩) rfl rfl rfl hl.1 (Nat.le_of_ble_eq_true rfl) rfl d_M_happen_345 ⟨Nat.zero_le _, Nat.zero_le _⟩ (fun st72 H locs est72 hC => ?_)
    replace he := bS_go he est72
    refine lv_aload_n (pc := 348) hx hb d_M_happen_348 rfl (lv_at hl 0 rfl) ?_
    refine lv_aload_n (pc := 349) hx hb d_M_happen_349 rfl (lv_at hl 0 rfl) ?_
    refine lv_iload_n (pc := 350) hx hb d_M_happen_350 rfl (lv_at hl 1 rfl) ?_
    refine callIO (q0 := 4) (pc := 351) (As := [.int v2]) (rest := [.ref (g.model)]) X (k_M_mark l g cs o st72 v2) hC (NM_M_mark_210 X rfl rfl ⟨by decide, by decide⟩) rfl rfl rfl hl.1 (Nat.le_of_ble_eq_true rfl) rfl d_M_happen_351 ⟨Nat.zero_le _, Nat.zero_le _⟩ (fun r74 st73 H locs est73 hC => ?_)
    replace he := bP_go he est73
    refine PM_change (pc := 354) X hC d_M_happen_354 (fun st75 H locs est75 hC => ?_)
    replace he := bS_go he est75
    refine lv_goto (pc := 357) (tgt := 400) hx hb d_M_happen_357 (by decide) ?_
    exact B400 _ _ _ st75   hC (lv_sub hl [] rfl) he
  have B257 : ∀ (H : Heap) (locs : List Loc) (ls : Array Slot) (st : MS) (v2 : Int32), HC g A s (wM g cs o st) H locs → lv_has ls 3 [(0, .ref (g.model)), (2, .int v2)] → f_M_happen_257 st v2 = Rv → W p l e rm_M_happen s m args below meth c H locs 0 0 Q (F0 m 257 ls []) := by
    intro H locs ls st v2  hC hl he
    unfold f_M_happen_257 at he
    refine lv_aload_n (pc := 257) hx hb d_M_happen_257 rfl (lv_at hl 0 rfl) ?_
    refine lv_iload_n (pc := 258) hx hb d_M_happen_258 rfl (lv_at hl 1 rfl) ?_
    refine callVO (q0 := 4) (pc := 259) (As := [.int v2]) (rest := []) X (k_M_use l g cs o st v2) hC (NM_M_use_204 X rfl rfl ⟨by decide, by decide⟩) rfl rfl rfl hl.1 (Nat.le_of_ble_eq_true rfl) rfl d_M_happen_259 ⟨Nat.zero_le _, Nat.zero_le _⟩ (fun st71 H locs est71 hC => ?_)
    replace he := bS_go he est71
    refine lv_goto (pc := 262) (tgt := 400) hx hb d_M_happen_262 (by decide) ?_
    exact B400 _ _ _ st71   hC (lv_sub hl [] rfl) he
  unfold f_M_happen at he
  refine lv_iload_n (pc := 0) hx hb d_M_happen_0 rfl (lv_at hl 1 rfl) ?_
  by_cases h1 : v1 = 1
  · replace he := if_go he h1
    refine lv_tableIn (pc := 1) (tgt := 140) hx hb d_M_happen_1 (by rw [h1]; decide) (by rw [h1]; decide) (by rw [h1]; rfl) (by decide) ?_
    refine lv_aload_n (pc := 140) hx hb d_M_happen_140 rfl (lv_at hl 0 rfl) ?_
    refine lv_iload_n (pc := 141) hx hb d_M_happen_141 rfl (lv_at hl 2 rfl) ?_
    refine lv_iconst (pc := 142) (v := 3) hx hb d_M_happen_142 (by decide) ?_
    refine lv_ishr (pc := 143) hx hb d_M_happen_143 ?_
    refine PM_operation (pc := 144) X hC d_M_happen_144 (fun st2 H locs est2 hC => ?_)
    replace he := bS_go he est2
    refine lv_aload_n (pc := 147) hx hb d_M_happen_147 rfl (lv_at hl 0 rfl) ?_
    refine lv_iload_n (pc := 148) hx hb d_M_happen_148 rfl (lv_at hl 2 rfl) ?_
    refine lv_bipush (pc := 149) (v := 7) hx hb d_M_happen_149 (by decide) ?_
    refine lv_iand (pc := 151) hx hb d_M_happen_151 ?_
    refine PM_mode (pc := 152) X hC d_M_happen_152 (fun st3 H locs est3 hC => ?_)
    replace he := bS_go he est3
    refine lv_aload_n (pc := 155) hx hb d_M_happen_155 rfl (lv_at hl 0 rfl) ?_
    refine callVO (q0 := 4) (pc := 156) (As := []) (rest := []) X (k_M_next l g cs o st3 ) hC (NM_M_next_192 X rfl rfl ⟨by decide, by decide⟩) rfl rfl rfl hl.1 (Nat.le_of_ble_eq_true rfl) rfl d_M_happen_156 ⟨Nat.zero_le _, Nat.zero_le _⟩ (fun st4 H locs est4 hC => ?_)
    replace he := bS_go he est4
    refine lv_aload_n (pc := 159) hx hb d_M_happen_159 rfl (lv_at hl 0 rfl) ?_
    refine lv_iconst (pc := 160) (v := 0) hx hb d_M_happen_160 (by decide) ?_
    refine PM_halves (pc := 161) X hC b0 d_M_happen_161 (fun st5 H locs est5 hC => ?_)
    replace he := bS_go he est5
    refine lv_aload_n (pc := 164) hx hb d_M_happen_164 rfl (lv_at hl 0 rfl) ?_
    refine lv_aload_n (pc := 165) hx hb d_M_happen_165 rfl (lv_at hl 0 rfl) ?_
    refine callZO (q0 := 4) (pc := 166) (As := []) (rest := [.ref (g.model)]) X (k_M_isJam l g cs o st5 ) hC (NM_M_isJam_195 X rfl rfl ⟨by decide, by decide⟩) rfl rfl rfl hl.1 (Nat.le_of_ble_eq_true rfl) rfl d_M_happen_166 ⟨Nat.zero_le _, Nat.zero_le _⟩ (fun r7 st6 H locs est6 br7 hC => ?_)
    replace he := bP_go he est6
    refine PM_jam (pc := 169) X hC br7 d_M_happen_169 (fun st8 H locs est8 hC => ?_)
    replace he := bS_go he est8
    refine lv_goto (pc := 172) (tgt := 400) hx hb d_M_happen_172 (by decide) ?_
    exact B400 _ _ _ st8   hC (lv_sub hl [] rfl) he
  replace he := if_no he h1
  by_cases h9 : v1 = 2
  · replace he := if_go he h9
    refine lv_tableIn (pc := 1) (tgt := 175) hx hb d_M_happen_1 (by rw [h9]; decide) (by rw [h9]; decide) (by rw [h9]; rfl) (by decide) ?_
    refine lv_aload_n (pc := 175) hx hb d_M_happen_175 rfl (lv_at hl 0 rfl) ?_
    refine lv_iload_n (pc := 176) hx hb d_M_happen_176 rfl (lv_at hl 2 rfl) ?_
    refine PM_z (pc := 177) X hC d_M_happen_177 (fun st10 H locs est10 hC => ?_)
    replace he := bS_go he est10
    refine lv_aload_n (pc := 180) hx hb d_M_happen_180 rfl (lv_at hl 0 rfl) ?_
    refine callVO (q0 := 4) (pc := 181) (As := []) (rest := []) X (k_M_next l g cs o st10 ) hC (NM_M_next_192 X rfl rfl ⟨by decide, by decide⟩) rfl rfl rfl hl.1 (Nat.le_of_ble_eq_true rfl) rfl d_M_happen_181 ⟨Nat.zero_le _, Nat.zero_le _⟩ (fun st11 H locs est11 hC => ?_)
    replace he := bS_go he est11
    refine lv_aload_n (pc := 184) hx hb d_M_happen_184 rfl (lv_at hl 0 rfl) ?_
    refine lv_aload_n (pc := 185) hx hb d_M_happen_185 rfl (lv_at hl 0 rfl) ?_
    refine callZO (q0 := 4) (pc := 186) (As := []) (rest := [.ref (g.model)]) X (k_M_isTaken l g cs o st11 ) hC (NM_M_isTaken_198 X rfl rfl ⟨by decide, by decide⟩) rfl rfl rfl hl.1 (Nat.le_of_ble_eq_true rfl) rfl d_M_happen_186 ⟨Nat.zero_le _, Nat.zero_le _⟩ (fun r13 st12 H locs est12 br13 hC => ?_)
    replace he := bP_go he est12
    refine PM_taken (pc := 189) X hC br13 d_M_happen_189 (fun st14 H locs est14 hC => ?_)
    replace he := bS_go he est14
    refine lv_goto (pc := 192) (tgt := 400) hx hb d_M_happen_192 (by decide) ?_
    exact B400 _ _ _ st14   hC (lv_sub hl [] rfl) he
  replace he := if_no he h9
  by_cases h15 : v1 = 3
  · replace he := if_go he h15
    refine lv_tableIn (pc := 1) (tgt := 195) hx hb d_M_happen_1 (by rw [h15]; decide) (by rw [h15]; decide) (by rw [h15]; rfl) (by decide) ?_
    refine lv_aload_n (pc := 195) hx hb d_M_happen_195 rfl (lv_at hl 0 rfl) ?_
    refine lv_iload_n (pc := 196) hx hb d_M_happen_196 rfl (lv_at hl 2 rfl) ?_
    refine PM_high (pc := 197) X hC d_M_happen_197 (fun st16 H locs est16 hC => ?_)
    replace he := bS_go he est16
    refine lv_aload_n (pc := 200) hx hb d_M_happen_200 rfl (lv_at hl 0 rfl) ?_
    refine callVO (q0 := 4) (pc := 201) (As := []) (rest := []) X (k_M_next l g cs o st16 ) hC (NM_M_next_192 X rfl rfl ⟨by decide, by decide⟩) rfl rfl rfl hl.1 (Nat.le_of_ble_eq_true rfl) rfl d_M_happen_201 ⟨Nat.zero_le _, Nat.zero_le _⟩ (fun st17 H locs est17 hC => ?_)
    replace he := bS_go he est17
    refine lv_aload_n (pc := 204) hx hb d_M_happen_204 rfl (lv_at hl 0 rfl) ?_
    refine lv_aload_n (pc := 205) hx hb d_M_happen_205 rfl (lv_at hl 0 rfl) ?_
    refine callZO (q0 := 4) (pc := 206) (As := []) (rest := [.ref (g.model)]) X (k_M_isHalf l g cs o st17 ) hC (NM_M_isHalf_201 X rfl rfl ⟨by decide, by decide⟩) rfl rfl rfl hl.1 (Nat.le_of_ble_eq_true rfl) rfl d_M_happen_206 ⟨Nat.zero_le _, Nat.zero_le _⟩ (fun r19 st18 H locs est18 br19 hC => ?_)
    replace he := bP_go he est18
    refine PM_halves (pc := 209) X hC br19 d_M_happen_209 (fun st20 H locs est20 hC => ?_)
    replace he := bS_go he est20
    refine lv_goto (pc := 212) (tgt := 400) hx hb d_M_happen_212 (by decide) ?_
    exact B400 _ _ _ st20   hC (lv_sub hl [] rfl) he
  replace he := if_no he h15
  by_cases h21 : v1 = 4
  · replace he := if_go he h21
    refine lv_tableIn (pc := 1) (tgt := 215) hx hb d_M_happen_1 (by rw [h21]; decide) (by rw [h21]; decide) (by rw [h21]; rfl) (by decide) ?_
    refine lv_aload_n (pc := 215) hx hb d_M_happen_215 rfl (lv_at hl 0 rfl) ?_
    refine callVO (q0 := 4) (pc := 216) (As := []) (rest := []) X (k_M_next l g cs o st ) hC (NM_M_next_192 X rfl rfl ⟨by decide, by decide⟩) rfl rfl rfl hl.1 (Nat.le_of_ble_eq_true rfl) rfl d_M_happen_216 ⟨Nat.zero_le _, Nat.zero_le _⟩ (fun st22 H locs est22 hC => ?_)
    replace he := bS_go he est22
    refine lv_goto (pc := 219) (tgt := 400) hx hb d_M_happen_219 (by decide) ?_
    exact B400 _ _ _ st22   hC (lv_sub hl [] rfl) he
  replace he := if_no he h21
  by_cases h23 : v1 = 5
  · replace he := if_go he h23
    refine lv_tableIn (pc := 1) (tgt := 394) hx hb d_M_happen_1 (by rw [h23]; decide) (by rw [h23]; decide) (by rw [h23]; rfl) (by decide) ?_
    exact B394 _ _ _ st v1 v2  hC (lv_sub hl [0, 1, 2] rfl) he
  replace he := if_no he h23
  by_cases h24 : v1 = 6
  · replace he := if_go he h24
    refine lv_tableIn (pc := 1) (tgt := 394) hx hb d_M_happen_1 (by rw [h24]; decide) (by rw [h24]; decide) (by rw [h24]; rfl) (by decide) ?_
    exact B394 _ _ _ st v1 v2  hC (lv_sub hl [0, 1, 2] rfl) he
  replace he := if_no he h24
  by_cases h25 : v1 = 7
  · replace he := if_go he h25
    refine lv_tableIn (pc := 1) (tgt := 394) hx hb d_M_happen_1 (by rw [h25]; decide) (by rw [h25]; decide) (by rw [h25]; rfl) (by decide) ?_
    exact B394 _ _ _ st v1 v2  hC (lv_sub hl [0, 1, 2] rfl) he
  replace he := if_no he h25
  by_cases h26 : v1 = 8
  · replace he := if_go he h26
    refine lv_tableIn (pc := 1) (tgt := 394) hx hb d_M_happen_1 (by rw [h26]; decide) (by rw [h26]; decide) (by rw [h26]; rfl) (by decide) ?_
    exact B394 _ _ _ st v1 v2  hC (lv_sub hl [0, 1, 2] rfl) he
  replace he := if_no he h26
  by_cases h27 : v1 = 9
  · replace he := if_go he h27
    refine lv_tableIn (pc := 1) (tgt := 222) hx hb d_M_happen_1 (by rw [h27]; decide) (by rw [h27]; decide) (by rw [h27]; rfl) (by decide) ?_
    refine lv_aload_n (pc := 222) hx hb d_M_happen_222 rfl (lv_at hl 0 rfl) ?_
    refine lv_iload_n (pc := 223) hx hb d_M_happen_223 rfl (lv_at hl 2 rfl) ?_
    refine PM_low (pc := 224) X hC d_M_happen_224 (fun st28 H locs est28 hC => ?_)
    replace he := bS_go he est28
    refine lv_goto (pc := 227) (tgt := 400) hx hb d_M_happen_227 (by decide) ?_
    exact B400 _ _ _ st28   hC (lv_sub hl [] rfl) he
  replace he := if_no he h27
  by_cases h29 : v1 = 10
  · replace he := if_go he h29
    refine lv_tableIn (pc := 1) (tgt := 230) hx hb d_M_happen_1 (by rw [h29]; decide) (by rw [h29]; decide) (by rw [h29]; rfl) (by decide) ?_
    refine lv_aload_n (pc := 230) hx hb d_M_happen_230 rfl (lv_at hl 0 rfl) ?_
    refine lv_iload_n (pc := 231) hx hb d_M_happen_231 rfl (lv_at hl 2 rfl) ?_
    refine PM_high (pc := 232) X hC d_M_happen_232 (fun st30 H locs est30 hC => ?_)
    replace he := bS_go he est30
    refine lv_aload_n (pc := 235) hx hb d_M_happen_235 rfl (lv_at hl 0 rfl) ?_
    refine lv_aload_n (pc := 236) hx hb d_M_happen_236 rfl (lv_at hl 0 rfl) ?_
    refine callZO (q0 := 4) (pc := 237) (As := []) (rest := [.ref (g.model)]) X (k_M_isHalf l g cs o st30 ) hC (NM_M_isHalf_201 X rfl rfl ⟨by decide, by decide⟩) rfl rfl rfl hl.1 (Nat.le_of_ble_eq_true rfl) rfl d_M_happen_237 ⟨Nat.zero_le _, Nat.zero_le _⟩ (fun r32 st31 H locs est31 br32 hC => ?_)
    replace he := bP_go he est31
    refine PM_halves (pc := 240) X hC br32 d_M_happen_240 (fun st33 H locs est33 hC => ?_)
    replace he := bS_go he est33
    refine lv_goto (pc := 243) (tgt := 400) hx hb d_M_happen_243 (by decide) ?_
    exact B400 _ _ _ st33   hC (lv_sub hl [] rfl) he
  replace he := if_no he h29
  by_cases h34 : v1 = 11
  · replace he := if_go he h34
    refine lv_tableIn (pc := 1) (tgt := 246) hx hb d_M_happen_1 (by rw [h34]; decide) (by rw [h34]; decide) (by rw [h34]; rfl) (by decide) ?_
    refine lv_aload_n (pc := 246) hx hb d_M_happen_246 rfl (lv_at hl 0 rfl) ?_
    refine GM_mode (pc := 247) X hC d_M_happen_247 ?_
    refine lv_if_ne (pc := 250) (tgt := 257) hx hb d_M_happen_250 (by decide) (fun h35 => ?_) (fun h35 => ?_)
    · replace he := if_no he h35
      exact B257 _ _ _ st v2  hC (lv_sub hl [0, 2] rfl) he
    replace he := if_go he h35
    refine lv_aload_n (pc := 253) hx hb d_M_happen_253 rfl (lv_at hl 0 rfl) ?_
    refine callVO (q0 := 4) (pc := 254) (As := []) (rest := []) X (k_M_next l g cs o st ) hC (NM_M_next_192 X rfl rfl ⟨by decide, by decide⟩) rfl rfl rfl hl.1 (Nat.le_of_ble_eq_true rfl) rfl d_M_happen_254 ⟨Nat.zero_le _, Nat.zero_le _⟩ (fun st36 H locs est36 hC => ?_)
    replace he := bS_go he est36
    exact B257 _ _ _ st36 v2  hC (lv_sub hl [0, 2] rfl) he
  replace he := if_no he h34
  by_cases h37 : v1 = 12
  · replace he := if_go he h37
    refine lv_tableIn (pc := 1) (tgt := 394) hx hb d_M_happen_1 (by rw [h37]; decide) (by rw [h37]; decide) (by rw [h37]; rfl) (by decide) ?_
    exact B394 _ _ _ st v1 v2  hC (lv_sub hl [0, 1, 2] rfl) he
  replace he := if_no he h37
  by_cases h38 : v1 = 13
  · replace he := if_go he h38
    refine lv_tableIn (pc := 1) (tgt := 265) hx hb d_M_happen_1 (by rw [h38]; decide) (by rw [h38]; decide) (by rw [h38]; rfl) (by decide) ?_
    refine lv_aload_n (pc := 265) hx hb d_M_happen_265 rfl (lv_at hl 0 rfl) ?_
    refine lv_iload_n (pc := 266) hx hb d_M_happen_266 rfl (lv_at hl 2 rfl) ?_
    refine PM_low (pc := 267) X hC d_M_happen_267 (fun st39 H locs est39 hC => ?_)
    replace he := bS_go he est39
    refine lv_goto (pc := 270) (tgt := 400) hx hb d_M_happen_270 (by decide) ?_
    exact B400 _ _ _ st39   hC (lv_sub hl [] rfl) he
  replace he := if_no he h38
  by_cases h40 : v1 = 14
  · replace he := if_go he h40
    refine lv_tableIn (pc := 1) (tgt := 273) hx hb d_M_happen_1 (by rw [h40]; decide) (by rw [h40]; decide) (by rw [h40]; rfl) (by decide) ?_
    refine lv_aload_n (pc := 273) hx hb d_M_happen_273 rfl (lv_at hl 0 rfl) ?_
    refine lv_aload_n (pc := 274) hx hb d_M_happen_274 rfl (lv_at hl 0 rfl) ?_
    refine lv_iload_n (pc := 275) hx hb d_M_happen_275 rfl (lv_at hl 2 rfl) ?_
    refine callIO (q0 := 4) (pc := 276) (As := [.int v2]) (rest := [.ref (g.model)]) X (k_M_changed l g cs o st v2) hC (NM_M_changed_207 X rfl rfl ⟨by decide, by decide⟩) rfl rfl rfl hl.1 (Nat.le_of_ble_eq_true rfl) rfl d_M_happen_276 ⟨Nat.zero_le _, Nat.zero_le _⟩ (fun r42 st41 H locs est41 hC => ?_)
    replace he := bP_go he est41
    refine PM_change (pc := 279) X hC d_M_happen_279 (fun st43 H locs est43 hC => ?_)
    replace he := bS_go he est43
    refine lv_goto (pc := 282) (tgt := 400) hx hb d_M_happen_282 (by decide) ?_
    exact B400 _ _ _ st43   hC (lv_sub hl [] rfl) he
  replace he := if_no he h40
  by_cases h44 : v1 = 15
  · replace he := if_go he h44
    refine lv_tableIn (pc := 1) (tgt := 285) hx hb d_M_happen_1 (by rw [h44]; decide) (by rw [h44]; decide) (by rw [h44]; rfl) (by decide) ?_
    refine lv_aload_n (pc := 285) hx hb d_M_happen_285 rfl (lv_at hl 0 rfl) ?_
    refine lv_iconst (pc := 286) (v := 1) hx hb d_M_happen_286 (by decide) ?_
    refine lv_aload_n (pc := 287) hx hb d_M_happen_287 rfl (lv_at hl 0 rfl) ?_
    refine GM_operation (pc := 288) X hC d_M_happen_288 ?_
    refine lv_bipush (pc := 291) (v := 12) hx hb d_M_happen_291 (by decide) ?_
    refine lv_icmp_ne (pc := 293) (tgt := 313) hx hb d_M_happen_293 (by decide) (fun h45 => ?_) (fun h45 => ?_)
    · replace he := if_no he h45
      refine lv_aload_n (pc := 313) hx hb d_M_happen_313 rfl (lv_at hl 0 rfl) ?_
      refine GM_operation (pc := 314) X hC d_M_happen_314 ?_
      refine lv_bipush (pc := 317) (v := 13) hx hb d_M_happen_317 (by decide) ?_
      refine lv_icmp_ne (pc := 319) (tgt := 340) hx hb d_M_happen_319 (by decide) (fun h46 => ?_) (fun h46 => ?_)
      · replace he := if_no he h46
        refine lv_aload_n (pc := 340) hx hb d_M_happen_340 rfl (lv_at hl 0 rfl) ?_
        refine lv_iconst (pc := 341) (v := 1) hx hb d_M_happen_341 (by decide) ?_
        refine callZO (q0 := 4) (pc := 342) (As := [.int 1]) (rest := [.int 1, .ref (g.model)]) X (k_M_is l g cs o st 1) hC (NM_M_is_82 X rfl rfl ⟨by decide, by decide⟩) rfl rfl rfl hl.1 (Nat.le_of_ble_eq_true rfl) rfl d_M_happen_342 ⟨Nat.zero_le _, Nat.zero_le _⟩ (fun r48 st47 H locs est47 br48 hC => ?_)
        replace he := bP_go he est47
        exact B345 _ _ _ st47 v2 r48 1 br48 b1 hC (lv_sub hl [0, 2] rfl) he
      replace he := if_go he h46
      refine lv_aload_n (pc := 322) hx hb d_M_happen_322 rfl (lv_at hl 0 rfl) ?_
      refine GM_low (pc := 323) X hC d_M_happen_323 ?_
      refine lv_iconst (pc := 326) (v := 1) hx hb d_M_happen_326 (by decide) ?_
      refine lv_iand (pc := 327) hx hb d_M_happen_327 ?_
      refine lv_iconst (pc := 328) (v := 1) hx hb d_M_happen_328 (by decide) ?_
      refine lv_icmp_ne (pc := 329) (tgt := 336) hx hb d_M_happen_329 (by decide) (fun h49 => ?_) (fun h49 => ?_)
      · replace he := if_no he h49
        refine lv_iconst (pc := 336) (v := 0) hx hb d_M_happen_336 (by decide) ?_
        refine lv_goto (pc := 337) (tgt := 345) hx hb d_M_happen_337 (by decide) ?_
        exact B345 _ _ _ st v2 0 1 b0 b1 hC (lv_sub hl [0, 2] rfl) he
      replace he := if_go he h49
      refine lv_iconst (pc := 332) (v := 1) hx hb d_M_happen_332 (by decide) ?_
      refine lv_goto (pc := 333) (tgt := 345) hx hb d_M_happen_333 (by decide) ?_
      exact B345 _ _ _ st v2 1 1 b1 b1 hC (lv_sub hl [0, 2] rfl) he
    replace he := if_go he h45
    refine lv_aload_n (pc := 296) hx hb d_M_happen_296 rfl (lv_at hl 0 rfl) ?_
    refine GM_low (pc := 297) X hC d_M_happen_297 ?_
    refine lv_bipush (pc := 300) (v := 127) hx hb d_M_happen_300 (by decide) ?_
    refine lv_icmp_le (pc := 302) (tgt := 309) hx hb d_M_happen_302 (by decide) (fun h50 => ?_) (fun h50 => ?_)
    · replace he := if_go he h50
      refine lv_iconst (pc := 309) (v := 0) hx hb d_M_happen_309 (by decide) ?_
      refine lv_goto (pc := 310) (tgt := 345) hx hb d_M_happen_310 (by decide) ?_
      exact B345 _ _ _ st v2 0 1 b0 b1 hC (lv_sub hl [0, 2] rfl) he
    replace he := if_no he h50
    refine lv_iconst (pc := 305) (v := 1) hx hb d_M_happen_305 (by decide) ?_
    refine lv_goto (pc := 306) (tgt := 345) hx hb d_M_happen_306 (by decide) ?_
    exact B345 _ _ _ st v2 1 1 b1 b1 hC (lv_sub hl [0, 2] rfl) he
  replace he := if_no he h44
  by_cases h51 : v1 = 16
  · replace he := if_go he h51
    refine lv_tableIn (pc := 1) (tgt := 394) hx hb d_M_happen_1 (by rw [h51]; decide) (by rw [h51]; decide) (by rw [h51]; rfl) (by decide) ?_
    exact B394 _ _ _ st v1 v2  hC (lv_sub hl [0, 1, 2] rfl) he
  replace he := if_no he h51
  by_cases h52 : v1 = 17
  · replace he := if_go he h52
    refine lv_tableIn (pc := 1) (tgt := 394) hx hb d_M_happen_1 (by rw [h52]; decide) (by rw [h52]; decide) (by rw [h52]; rfl) (by decide) ?_
    exact B394 _ _ _ st v1 v2  hC (lv_sub hl [0, 1, 2] rfl) he
  replace he := if_no he h52
  by_cases h53 : v1 = 18
  · replace he := if_go he h53
    refine lv_tableIn (pc := 1) (tgt := 394) hx hb d_M_happen_1 (by rw [h53]; decide) (by rw [h53]; decide) (by rw [h53]; rfl) (by decide) ?_
    exact B394 _ _ _ st v1 v2  hC (lv_sub hl [0, 1, 2] rfl) he
  replace he := if_no he h53
  by_cases h54 : v1 = 19
  · replace he := if_go he h54
    refine lv_tableIn (pc := 1) (tgt := 394) hx hb d_M_happen_1 (by rw [h54]; decide) (by rw [h54]; decide) (by rw [h54]; rfl) (by decide) ?_
    exact B394 _ _ _ st v1 v2  hC (lv_sub hl [0, 1, 2] rfl) he
  replace he := if_no he h54
  by_cases h55 : v1 = 20
  · replace he := if_go he h55
    refine lv_tableIn (pc := 1) (tgt := 394) hx hb d_M_happen_1 (by rw [h55]; decide) (by rw [h55]; decide) (by rw [h55]; rfl) (by decide) ?_
    exact B394 _ _ _ st v1 v2  hC (lv_sub hl [0, 1, 2] rfl) he
  replace he := if_no he h55
  by_cases h56 : v1 = 21
  · replace he := if_go he h56
    refine lv_tableIn (pc := 1) (tgt := 394) hx hb d_M_happen_1 (by rw [h56]; decide) (by rw [h56]; decide) (by rw [h56]; rfl) (by decide) ?_
    exact B394 _ _ _ st v1 v2  hC (lv_sub hl [0, 1, 2] rfl) he
  replace he := if_no he h56
  by_cases h57 : v1 = 22
  · replace he := if_go he h57
    refine lv_tableIn (pc := 1) (tgt := 394) hx hb d_M_happen_1 (by rw [h57]; decide) (by rw [h57]; decide) (by rw [h57]; rfl) (by decide) ?_
    exact B394 _ _ _ st v1 v2  hC (lv_sub hl [0, 1, 2] rfl) he
  replace he := if_no he h57
  by_cases h58 : v1 = 23
  · replace he := if_go he h58
    refine lv_tableIn (pc := 1) (tgt := 394) hx hb d_M_happen_1 (by rw [h58]; decide) (by rw [h58]; decide) (by rw [h58]; rfl) (by decide) ?_
    exact B394 _ _ _ st v1 v2  hC (lv_sub hl [0, 1, 2] rfl) he
  replace he := if_no he h58
  by_cases h59 : v1 = 24
  · replace he := if_go he h59
    refine lv_tableIn (pc := 1) (tgt := 394) hx hb d_M_happen_1 (by rw [h59]; decide) (by rw [h59]; decide) (by rw [h59]; rfl) (by decide) ?_
    exact B394 _ _ _ st v1 v2  hC (lv_sub hl [0, 1, 2] rfl) he
  replace he := if_no he h59
  by_cases h60 : v1 = 25
  · replace he := if_go he h60
    refine lv_tableIn (pc := 1) (tgt := 387) hx hb d_M_happen_1 (by rw [h60]; decide) (by rw [h60]; decide) (by rw [h60]; rfl) (by decide) ?_
    refine lv_aload_n (pc := 387) hx hb d_M_happen_387 rfl (lv_at hl 0 rfl) ?_
    refine callVO (q0 := 4) (pc := 388) (As := []) (rest := []) X (k_M_next l g cs o st ) hC (NM_M_next_192 X rfl rfl ⟨by decide, by decide⟩) rfl rfl rfl hl.1 (Nat.le_of_ble_eq_true rfl) rfl d_M_happen_388 ⟨Nat.zero_le _, Nat.zero_le _⟩ (fun st61 H locs est61 hC => ?_)
    replace he := bS_go he est61
    refine lv_goto (pc := 391) (tgt := 400) hx hb d_M_happen_391 (by decide) ?_
    exact B400 _ _ _ st61   hC (lv_sub hl [] rfl) he
  replace he := if_no he h60
  by_cases h62 : v1 = 26
  · replace he := if_go he h62
    refine lv_tableIn (pc := 1) (tgt := 371) hx hb d_M_happen_1 (by rw [h62]; decide) (by rw [h62]; decide) (by rw [h62]; rfl) (by decide) ?_
    exact B371 _ _ _ st v2  hC (lv_sub hl [0, 2] rfl) he
  replace he := if_no he h62
  by_cases h63 : v1 = 27
  · replace he := if_go he h63
    refine lv_tableIn (pc := 1) (tgt := 371) hx hb d_M_happen_1 (by rw [h63]; decide) (by rw [h63]; decide) (by rw [h63]; rfl) (by decide) ?_
    exact B371 _ _ _ st v2  hC (lv_sub hl [0, 2] rfl) he
  replace he := if_no he h63
  by_cases h64 : v1 = 28
  · replace he := if_go he h64
    refine lv_tableIn (pc := 1) (tgt := 394) hx hb d_M_happen_1 (by rw [h64]; decide) (by rw [h64]; decide) (by rw [h64]; rfl) (by decide) ?_
    exact B394 _ _ _ st v1 v2  hC (lv_sub hl [0, 1, 2] rfl) he
  replace he := if_no he h64
  by_cases h65 : v1 = 29
  · replace he := if_go he h65
    refine lv_tableIn (pc := 1) (tgt := 394) hx hb d_M_happen_1 (by rw [h65]; decide) (by rw [h65]; decide) (by rw [h65]; rfl) (by decide) ?_
    exact B394 _ _ _ st v1 v2  hC (lv_sub hl [0, 1, 2] rfl) he
  replace he := if_no he h65
  by_cases h66 : v1 = 30
  · replace he := if_go he h66
    refine lv_tableIn (pc := 1) (tgt := 394) hx hb d_M_happen_1 (by rw [h66]; decide) (by rw [h66]; decide) (by rw [h66]; rfl) (by decide) ?_
    exact B394 _ _ _ st v1 v2  hC (lv_sub hl [0, 1, 2] rfl) he
  replace he := if_no he h66
  by_cases h67 : v1 = 31
  · replace he := if_go he h67
    refine lv_tableIn (pc := 1) (tgt := 360) hx hb d_M_happen_1 (by rw [h67]; decide) (by rw [h67]; decide) (by rw [h67]; rfl) (by decide) ?_
    refine lv_aload_n (pc := 360) hx hb d_M_happen_360 rfl (lv_at hl 0 rfl) ?_
    refine lv_aload_n (pc := 361) hx hb d_M_happen_361 rfl (lv_at hl 0 rfl) ?_
    refine callIO (q0 := 4) (pc := 362) (As := []) (rest := [.ref (g.model)]) X (k_M_target l g cs o st ) hC (NM_M_target_115 X rfl rfl ⟨by decide, by decide⟩) rfl rfl rfl hl.1 (Nat.le_of_ble_eq_true rfl) rfl d_M_happen_362 ⟨Nat.zero_le _, Nat.zero_le _⟩ (fun r69 st68 H locs est68 hC => ?_)
    replace he := bP_go he est68
    refine PM_pc (pc := 365) X hC d_M_happen_365 (fun st70 H locs est70 hC => ?_)
    replace he := bS_go he est70
    refine lv_goto (pc := 368) (tgt := 400) hx hb d_M_happen_368 (by decide) ?_
    exact B400 _ _ _ st70   hC (lv_sub hl [] rfl) he
  replace he := if_no he h67
  refine lv_tableOut (pc := 1) (tgt := 394) hx hb d_M_happen_1 (by have nh1 := lv_neT (a := 1) h1 (by decide); have nh9 := lv_neT (a := 2) h9 (by decide); have nh15 := lv_neT (a := 3) h15 (by decide); have nh21 := lv_neT (a := 4) h21 (by decide); have nh23 := lv_neT (a := 5) h23 (by decide); have nh24 := lv_neT (a := 6) h24 (by decide); have nh25 := lv_neT (a := 7) h25 (by decide); have nh26 := lv_neT (a := 8) h26 (by decide); have nh27 := lv_neT (a := 9) h27 (by decide); have nh29 := lv_neT (a := 10) h29 (by decide); have nh34 := lv_neT (a := 11) h34 (by decide); have nh37 := lv_neT (a := 12) h37 (by decide); have nh38 := lv_neT (a := 13) h38 (by decide); have nh40 := lv_neT (a := 14) h40 (by decide); have nh44 := lv_neT (a := 15) h44 (by decide); have nh51 := lv_neT (a := 16) h51 (by decide); have nh52 := lv_neT (a := 17) h52 (by decide); have nh53 := lv_neT (a := 18) h53 (by decide); have nh54 := lv_neT (a := 19) h54 (by decide); have nh55 := lv_neT (a := 20) h55 (by decide); have nh56 := lv_neT (a := 21) h56 (by decide); have nh57 := lv_neT (a := 22) h57 (by decide); have nh58 := lv_neT (a := 23) h58 (by decide); have nh59 := lv_neT (a := 24) h59 (by decide); have nh60 := lv_neT (a := 25) h60 (by decide); have nh62 := lv_neT (a := 26) h62 (by decide); have nh63 := lv_neT (a := 27) h63 (by decide); have nh64 := lv_neT (a := 28) h64 (by decide); have nh65 := lv_neT (a := 29) h65 (by decide); have nh66 := lv_neT (a := 30) h66 (by decide); have nh67 := lv_neT (a := 31) h67 (by decide); omega) (by decide) ?_
  exact B394 _ _ _ st v1 v2  hC (lv_sub hl [0, 1, 2] rfl) he
def f_M_clock_201 (st : MS) (v3 : Int32) : Int32 × MS := (v3, st)
def f_M_clock_198 (st : MS) (v3 : Int32) (s0 : Int32) : Int32 × MS := bS (tV st 11 s0) (fun st27 => f_M_clock_201 st27 v3)
def f_M_clock_197 (st : MS) (v3 : Int32) : Int32 × MS := f_M_clock_198 st v3 0
def f_M_clock_193 (st : MS) (v3 : Int32) : Int32 × MS := f_M_clock_198 st v3 1
def f_M_clock_150 (st : MS) (v3 : Int32) : Int32 × MS := bS (tV st 26 ((st.1 26) + 1)) (fun st19 => bS (tV st19 14 0) (fun st20 => bS (tV st20 12 0) (fun st21 => if (st21.1 10) = 0 then (if (st21.1 7) = 0 then (f_M_clock_197 st21 v3) else (bP (f_M_is st21 4) (fun r25 st24 => if r25 = 0 then (f_M_clock_193 st24 v3) else (f_M_clock_197 st24 v3)))) else (f_M_clock_193 st21 v3))))
def f_M_clock_143 (st : MS) (v3 : Int32) : Int32 × MS := bP (f_M_action st ) (fun r17 st16 => if r17 = 0 then (f_M_clock_150 st16 v3) else (f_M_clock_201 st16 v3))
def f_M_clock_124 (st : MS) (v3 : Int32) (s0 : Int32) : Int32 × MS := bS (tV st 12 s0) (fun st13 => if (st13.1 14) = 99 then (if (st13.1 11) = 0 then (f_M_clock_150 st13 v3) else (f_M_clock_143 st13 v3)) else (f_M_clock_143 st13 v3))
def f_M_clock_101 (st : MS) (v1 : Int32) (v2 : Int32) (v3 : Int32) : Int32 × MS := bS (f_M_happen st v1 v2) (fun st11 => if v1 = 32 then (f_M_clock_124 st11 v3 1) else (f_M_clock_124 st11 v3 ((st11.1 12) + 1)))
def f_M_clock_80 (st : MS) (v1 : Int32) (v2 : Int32) (v3 : Int32) : Int32 × MS := if (st.1 24) = 0 then (f_M_clock_101 st v1 v2 v3) else (bS (tM st (st.1 23) v2) (fun st10 => f_M_clock_101 st10 v1 v2 v3))
def f_M_clock_60 (st : MS) (v1 : Int32) (v2 : Int32) (s0 : Int32) (s1 : Int32) : Int32 × MS := bS (((s1 + s0) + v2) : Int32) (fun y6 => if (st.1 24) = 0 then (if (st.1 8) = 0 then ((y6, st)) else (f_M_clock_80 st v1 v2 y6)) else (f_M_clock_80 st v1 v2 y6))
def f_M_clock_37 (st : MS) (v1 : Int32) (s0 : Int32) : Int32 × MS := if (st.1 24) = 0 then (f_M_clock_60 st v1 s0 0 (512 * (st.1 23))) else (f_M_clock_60 st v1 s0 256 (512 * (st.1 23)))
def f_M_clock (st : MS)  : Int32 × MS := bP (f_M_action st ) (fun r2 st1 => bS (f_M_plan st1 r2) (fun st3 => if (st3.1 24) = 0 then (f_M_clock_37 st3 r2 (uM st3 (st3.1 23))) else (f_M_clock_37 st3 r2 (st3.1 25))))
abbrev rm_M_clock : Room := { frames := 6, cells := 0, slots := 0, locals := 134 }
set_option maxHeartbeats 4000000 in
set_option maxRecDepth 100000 in
theorem k_M_clock (l : Launch) (g : CG) (cs : CS) (o : Nat → Int64) (st : MS)  : KI l g y_M_clock (Cond.code y_M_clock c_M_clock 4 (some .int) :: ALL) rm_M_clock [.ref (g.model)] (wM g cs o) st (f_M_clock st ) := by
  refine KI.ofW (by decide) (Nat.le_of_ble_eq_true rfl) ?_
  intro p e s m args below meth c A Q ls Rv X he RET hC hl
  obtain ⟨hx, hb⟩ := FX_xb X
  have hl : lv_has ls 4 [(0, .ref (g.model))] := hl
  have B201 : ∀ (H : Heap) (locs : List Loc) (ls : Array Slot) (st : MS) (v3 : Int32), HC g A s (wM g cs o st) H locs → lv_has ls 4 [(3, .int v3)] → f_M_clock_201 st v3 = Rv → W p l e rm_M_clock s m args below meth c H locs 0 0 Q (F0 m 201 ls []) := by
    intro H locs ls st v3  hC hl he
    unfold f_M_clock_201 at he
    refine lv_iload_n (pc := 201) hx hb d_M_clock_201 rfl (lv_at hl 0 rfl) ?_
    exact RET (pc := 202) d_M_clock_202 hC he
  have B198 : ∀ (H : Heap) (locs : List Loc) (ls : Array Slot) (st : MS) (v3 : Int32) (s0 : Int32) (hs0 : s0 = 0 ∨ s0 = 1), HC g A s (wM g cs o st) H locs → lv_has ls 4 [(3, .int v3)] → f_M_clock_198 st v3 s0 = Rv → W p l e rm_M_clock s m args below meth c H locs 0 0 Q (F0 m 198 ls [.int s0, .ref (g.model)]) := by
    intro H locs ls st v3 s0 hs0 hC hl he
    unfold f_M_clock_198 at he
    refine PM_going (pc := 198) X hC d_M_clock_198 (fun st27 H locs est27 hC => ?_)
    replace he := bS_go he est27
    exact B201 _ _ _ st27 v3  hC (lv_sub hl [0] rfl) he
  have B197 : ∀ (H : Heap) (locs : List Loc) (ls : Array Slot) (st : MS) (v3 : Int32), HC g A s (wM g cs o st) H locs → lv_has ls 4 [(3, .int v3)] → f_M_clock_197 st v3 = Rv → W p l e rm_M_clock s m args below meth c H locs 0 0 Q (F0 m 197 ls [.ref (g.model)]) := by
    intro H locs ls st v3  hC hl he
    unfold f_M_clock_197 at he
    refine lv_iconst (pc := 197) (v := 0) hx hb d_M_clock_197 (by decide) ?_
    exact B198 _ _ _ st v3 0 b0 hC (lv_sub hl [0] rfl) he
  have B193 : ∀ (H : Heap) (locs : List Loc) (ls : Array Slot) (st : MS) (v3 : Int32), HC g A s (wM g cs o st) H locs → lv_has ls 4 [(3, .int v3)] → f_M_clock_193 st v3 = Rv → W p l e rm_M_clock s m args below meth c H locs 0 0 Q (F0 m 193 ls [.ref (g.model)]) := by
    intro H locs ls st v3  hC hl he
    unfold f_M_clock_193 at he
    refine lv_iconst (pc := 193) (v := 1) hx hb d_M_clock_193 (by decide) ?_
    refine lv_goto (pc := 194) (tgt := 198) hx hb d_M_clock_194 (by decide) ?_
    exact B198 _ _ _ st v3 1 b1 hC (lv_sub hl [0] rfl) he
  have B150 : ∀ (H : Heap) (locs : List Loc) (ls : Array Slot) (st : MS) (v3 : Int32), HC g A s (wM g cs o st) H locs → lv_has ls 4 [(0, .ref (g.model)), (3, .int v3)] → f_M_clock_150 st v3 = Rv → W p l e rm_M_clock s m args below meth c H locs 0 0 Q (F0 m 150 ls []) := by
    intro H locs ls st v3  hC hl he
    unfold f_M_clock_150 at he
    refine lv_aload_n (pc := 150) hx hb d_M_clock_150 rfl (lv_at hl 0 rfl) ?_
    refine lv_dup (pc := 151) hx hb d_M_clock_151 rfl ?_
    refine GM_ends (pc := 152) X hC d_M_clock_152 ?_
    refine lv_iconst (pc := 155) (v := 1) hx hb d_M_clock_155 (by decide) ?_
    refine lv_iadd (pc := 156) hx hb d_M_clock_156 ?_
    refine PM_ends (pc := 157) X hC d_M_clock_157 (fun st19 H locs est19 hC => ?_)
    replace he := bS_go he est19
    refine lv_aload_n (pc := 160) hx hb d_M_clock_160 rfl (lv_at hl 0 rfl) ?_
    refine lv_iconst (pc := 161) (v := 0) hx hb d_M_clock_161 (by decide) ?_
    refine PM_operation (pc := 162) X hC d_M_clock_162 (fun st20 H locs est20 hC => ?_)
    replace he := bS_go he est20
    refine lv_aload_n (pc := 165) hx hb d_M_clock_165 rfl (lv_at hl 0 rfl) ?_
    refine lv_iconst (pc := 166) (v := 0) hx hb d_M_clock_166 (by decide) ?_
    refine PM_done (pc := 167) X hC d_M_clock_167 (fun st21 H locs est21 hC => ?_)
    replace he := bS_go he est21
    refine lv_aload_n (pc := 170) hx hb d_M_clock_170 rfl (lv_at hl 0 rfl) ?_
    refine lv_aload_n (pc := 171) hx hb d_M_clock_171 rfl (lv_at hl 0 rfl) ?_
    refine GM_wanted (pc := 172) X hC d_M_clock_172 ?_
    refine lv_if_ne (pc := 175) (tgt := 193) hx hb d_M_clock_175 (by decide) (fun h22 => ?_) (fun h22 => ?_)
    · replace he := if_no he h22
      exact B193 _ _ _ st21 v3  hC (lv_sub hl [1] rfl) he
    replace he := if_go he h22
    refine lv_aload_n (pc := 178) hx hb d_M_clock_178 rfl (lv_at hl 0 rfl) ?_
    refine GM_irq (pc := 179) X hC d_M_clock_179 ?_
    refine lv_if_eq (pc := 182) (tgt := 197) hx hb d_M_clock_182 (by decide) (fun h23 => ?_) (fun h23 => ?_)
    · replace he := if_go he h23
      exact B197 _ _ _ st21 v3  hC (lv_sub hl [1] rfl) he
    replace he := if_no he h23
    refine lv_aload_n (pc := 185) hx hb d_M_clock_185 rfl (lv_at hl 0 rfl) ?_
    refine lv_iconst (pc := 186) (v := 4) hx hb d_M_clock_186 (by decide) ?_
    refine callZO (q0 := 4) (pc := 187) (As := [.int 4]) (rest := [.ref (g.model)]) X (k_M_is l g cs o st21 4) hC (NM_M_is_82 X rfl rfl ⟨by decide, by decide⟩) rfl rfl rfl hl.1 (Nat.le_of_ble_eq_true rfl) rfl d_M_clock_187 ⟨Nat.zero_le _, Nat.zero_le _⟩ (fun r25 st24 H locs est24 br25 hC => ?_)
    replace he := bP_go he est24
    refine lv_if_ne (pc := 190) (tgt := 197) hx hb d_M_clock_190 (by decide) (fun h26 => ?_) (fun h26 => ?_)
    · replace he := if_no he h26
      exact B197 _ _ _ st24 v3  hC (lv_sub hl [1] rfl) he
    replace he := if_go he h26
    exact B193 _ _ _ st24 v3  hC (lv_sub hl [1] rfl) he
  have B143 : ∀ (H : Heap) (locs : List Loc) (ls : Array Slot) (st : MS) (v3 : Int32), HC g A s (wM g cs o st) H locs → lv_has ls 4 [(0, .ref (g.model)), (3, .int v3)] → f_M_clock_143 st v3 = Rv → W p l e rm_M_clock s m args below meth c H locs 0 0 Q (F0 m 143 ls []) := by
    intro H locs ls st v3  hC hl he
    unfold f_M_clock_143 at he
    refine lv_aload_n (pc := 143) hx hb d_M_clock_143 rfl (lv_at hl 0 rfl) ?_
    refine callIO (q0 := 4) (pc := 144) (As := []) (rest := []) X (k_M_action l g cs o st ) hC (NM_M_action_232 X rfl rfl ⟨by decide, by decide⟩) rfl rfl rfl hl.1 (Nat.le_of_ble_eq_true rfl) rfl d_M_clock_144 ⟨Nat.zero_le _, Nat.zero_le _⟩ (fun r17 st16 H locs est16 hC => ?_)
    replace he := bP_go he est16
    refine lv_if_ne (pc := 147) (tgt := 201) hx hb d_M_clock_147 (by decide) (fun h18 => ?_) (fun h18 => ?_)
    · replace he := if_no he h18
      exact B201 _ _ _ st16 v3  hC (lv_sub hl [1] rfl) he
    replace he := if_go he h18
    exact B150 _ _ _ st16 v3  hC (lv_sub hl [0, 1] rfl) he
  have B124 : ∀ (H : Heap) (locs : List Loc) (ls : Array Slot) (st : MS) (v3 : Int32) (s0 : Int32), HC g A s (wM g cs o st) H locs → lv_has ls 4 [(0, .ref (g.model)), (3, .int v3)] → f_M_clock_124 st v3 s0 = Rv → W p l e rm_M_clock s m args below meth c H locs 0 0 Q (F0 m 124 ls [.int s0, .ref (g.model)]) := by
    intro H locs ls st v3 s0  hC hl he
    unfold f_M_clock_124 at he
    refine PM_done (pc := 124) X hC d_M_clock_124 (fun st13 H locs est13 hC => ?_)
    replace he := bS_go he est13
    refine lv_aload_n (pc := 127) hx hb d_M_clock_127 rfl (lv_at hl 0 rfl) ?_
    refine GM_operation (pc := 128) X hC d_M_clock_128 ?_
    refine lv_bipush (pc := 131) (v := 99) hx hb d_M_clock_131 (by decide) ?_
    refine lv_icmp_ne (pc := 133) (tgt := 143) hx hb d_M_clock_133 (by decide) (fun h14 => ?_) (fun h14 => ?_)
    · replace he := if_no he h14
      exact B143 _ _ _ st13 v3  hC (lv_sub hl [0, 1] rfl) he
    replace he := if_go he h14
    refine lv_aload_n (pc := 136) hx hb d_M_clock_136 rfl (lv_at hl 0 rfl) ?_
    refine GM_going (pc := 137) X hC d_M_clock_137 ?_
    refine lv_if_eq (pc := 140) (tgt := 150) hx hb d_M_clock_140 (by decide) (fun h15 => ?_) (fun h15 => ?_)
    · replace he := if_go he h15
      exact B150 _ _ _ st13 v3  hC (lv_sub hl [0, 1] rfl) he
    replace he := if_no he h15
    exact B143 _ _ _ st13 v3  hC (lv_sub hl [0, 1] rfl) he
  have B101 : ∀ (H : Heap) (locs : List Loc) (ls : Array Slot) (st : MS) (v1 : Int32) (v2 : Int32) (v3 : Int32), HC g A s (wM g cs o st) H locs → lv_has ls 4 [(0, .ref (g.model)), (1, .int v1), (2, .int v2), (3, .int v3)] → f_M_clock_101 st v1 v2 v3 = Rv → W p l e rm_M_clock s m args below meth c H locs 0 0 Q (F0 m 101 ls []) := by
    intro H locs ls st v1 v2 v3  hC hl he
    unfold f_M_clock_101 at he
    refine lv_aload_n (pc := 101) hx hb d_M_clock_101 rfl (lv_at hl 0 rfl) ?_
    refine lv_iload_n (pc := 102) hx hb d_M_clock_102 rfl (lv_at hl 1 rfl) ?_
    refine lv_iload_n (pc := 103) hx hb d_M_clock_103 rfl (lv_at hl 2 rfl) ?_
    refine callVO (q0 := 4) (pc := 104) (As := [.int v1, .int v2]) (rest := []) X (k_M_happen l g cs o st v1 v2) hC (NM_M_happen_238 X rfl rfl ⟨by decide, by decide⟩) rfl rfl rfl hl.1 (Nat.le_of_ble_eq_true rfl) rfl d_M_clock_104 ⟨Nat.zero_le _, Nat.zero_le _⟩ (fun st11 H locs est11 hC => ?_)
    replace he := bS_go he est11
    refine lv_aload_n (pc := 107) hx hb d_M_clock_107 rfl (lv_at hl 0 rfl) ?_
    refine lv_iload_n (pc := 108) hx hb d_M_clock_108 rfl (lv_at hl 1 rfl) ?_
    refine lv_bipush (pc := 109) (v := 32) hx hb d_M_clock_109 (by decide) ?_
    refine lv_icmp_ne (pc := 111) (tgt := 118) hx hb d_M_clock_111 (by decide) (fun h12 => ?_) (fun h12 => ?_)
    · replace he := if_no he h12
      refine lv_aload_n (pc := 118) hx hb d_M_clock_118 rfl (lv_at hl 0 rfl) ?_
      refine GM_done (pc := 119) X hC d_M_clock_119 ?_
      refine lv_iconst (pc := 122) (v := 1) hx hb d_M_clock_122 (by decide) ?_
      refine lv_iadd (pc := 123) hx hb d_M_clock_123 ?_
      exact B124 _ _ _ st11 v3 ((st11.1 12) + 1)  hC (lv_sub hl [0, 3] rfl) he
    replace he := if_go he h12
    refine lv_iconst (pc := 114) (v := 1) hx hb d_M_clock_114 (by decide) ?_
    refine lv_goto (pc := 115) (tgt := 124) hx hb d_M_clock_115 (by decide) ?_
    exact B124 _ _ _ st11 v3 1  hC (lv_sub hl [0, 3] rfl) he
  have B80 : ∀ (H : Heap) (locs : List Loc) (ls : Array Slot) (st : MS) (v1 : Int32) (v2 : Int32) (v3 : Int32), HC g A s (wM g cs o st) H locs → lv_has ls 4 [(0, .ref (g.model)), (1, .int v1), (2, .int v2), (3, .int v3)] → f_M_clock_80 st v1 v2 v3 = Rv → W p l e rm_M_clock s m args below meth c H locs 0 0 Q (F0 m 80 ls []) := by
    intro H locs ls st v1 v2 v3  hC hl he
    unfold f_M_clock_80 at he
    refine lv_aload_n (pc := 80) hx hb d_M_clock_80 rfl (lv_at hl 0 rfl) ?_
    refine GM_writes (pc := 81) X hC d_M_clock_81 ?_
    refine lv_if_eq (pc := 84) (tgt := 101) hx hb d_M_clock_84 (by decide) (fun h9 => ?_) (fun h9 => ?_)
    · replace he := if_go he h9
      exact B101 _ _ _ st v1 v2 v3  hC (lv_sub hl [0, 1, 2, 3] rfl) he
    replace he := if_no he h9
    refine lv_aload_n (pc := 87) hx hb d_M_clock_87 rfl (lv_at hl 0 rfl) ?_
    refine GM_memory (pc := 88) X hC d_M_clock_88 ?_
    refine lv_aload_n (pc := 91) hx hb d_M_clock_91 rfl (lv_at hl 0 rfl) ?_
    refine GM_address (pc := 92) X hC d_M_clock_92 ?_
    refine lv_sipush (pc := 95) (v := 1023) hx hb d_M_clock_95 (by decide) ?_
    refine lv_iand (pc := 98) hx hb d_M_clock_98 ?_
    refine lv_iload_n (pc := 99) hx hb d_M_clock_99 rfl (lv_at hl 2 rfl) ?_
    refine Bmmem (pc := 100) (i := (st.1 23)) X hC d_M_clock_100 (fun st10 H locs est10 hC => ?_)
    replace he := bS_go he est10
    exact B101 _ _ _ st10 v1 v2 v3  hC (lv_sub hl [0, 1, 2, 3] rfl) he
  have B60 : ∀ (H : Heap) (locs : List Loc) (ls : Array Slot) (st : MS) (v1 : Int32) (v2 : Int32) (s0 : Int32) (s1 : Int32), HC g A s (wM g cs o st) H locs → lv_has ls 4 [(0, .ref (g.model)), (1, .int v1), (2, .int v2)] → f_M_clock_60 st v1 v2 s0 s1 = Rv → W p l e rm_M_clock s m args below meth c H locs 0 0 Q (F0 m 60 ls [.int s0, .int s1]) := by
    intro H locs ls st v1 v2 s0 s1  hC hl he
    unfold f_M_clock_60 at he
    refine lv_iadd (pc := 60) hx hb d_M_clock_60 ?_
    refine lv_iload_n (pc := 61) hx hb d_M_clock_61 rfl (lv_at hl 2 rfl) ?_
    refine lv_iadd (pc := 62) hx hb d_M_clock_62 ?_
    refine lv_topi (fun y6 ey6 => ?_)
    replace he := bS_go he ey6.symm
    refine lv_istore_n (pc := 63) (nL := 4) (lv' := [(3, .int y6), (0, .ref (g.model)), (1, .int v1), (2, .int v2)]) hx hb d_M_clock_63 rfl hl (by decide) rfl (fun ls hl => ?_)
    refine lv_aload_n (pc := 64) hx hb d_M_clock_64 rfl (lv_at hl 1 rfl) ?_
    refine GM_writes (pc := 65) X hC d_M_clock_65 ?_
    refine lv_if_ne (pc := 68) (tgt := 80) hx hb d_M_clock_68 (by decide) (fun h7 => ?_) (fun h7 => ?_)
    · replace he := if_no he h7
      exact B80 _ _ _ st v1 v2 y6  hC (lv_sub hl [1, 2, 3, 0] rfl) he
    replace he := if_go he h7
    refine lv_aload_n (pc := 71) hx hb d_M_clock_71 rfl (lv_at hl 1 rfl) ?_
    refine GM_ready (pc := 72) X hC d_M_clock_72 ?_
    refine lv_if_ne (pc := 75) (tgt := 80) hx hb d_M_clock_75 (by decide) (fun h8 => ?_) (fun h8 => ?_)
    · replace he := if_no he h8
      exact B80 _ _ _ st v1 v2 y6  hC (lv_sub hl [1, 2, 3, 0] rfl) he
    replace he := if_go he h8
    refine lv_iload_n (pc := 78) hx hb d_M_clock_78 rfl (lv_at hl 0 rfl) ?_
    exact RET (pc := 79) d_M_clock_79 hC he
  have B37 : ∀ (H : Heap) (locs : List Loc) (ls : Array Slot) (st : MS) (v1 : Int32) (s0 : Int32), HC g A s (wM g cs o st) H locs → lv_has ls 4 [(0, .ref (g.model)), (1, .int v1)] → f_M_clock_37 st v1 s0 = Rv → W p l e rm_M_clock s m args below meth c H locs 0 0 Q (F0 m 37 ls [.int s0]) := by
    intro H locs ls st v1 s0  hC hl he
    unfold f_M_clock_37 at he
    refine lv_istore_n (pc := 37) (nL := 4) (lv' := [(2, .int s0), (0, .ref (g.model)), (1, .int v1)]) hx hb d_M_clock_37 rfl hl (by decide) rfl (fun ls hl => ?_)
    refine lv_sipush (pc := 38) (v := 512) hx hb d_M_clock_38 (by decide) ?_
    refine lv_aload_n (pc := 41) hx hb d_M_clock_41 rfl (lv_at hl 1 rfl) ?_
    refine GM_address (pc := 42) X hC d_M_clock_42 ?_
    refine lv_imul (pc := 45) hx hb d_M_clock_45 ?_
    refine lv_aload_n (pc := 46) hx hb d_M_clock_46 rfl (lv_at hl 1 rfl) ?_
    refine GM_writes (pc := 47) X hC d_M_clock_47 ?_
    refine lv_if_eq (pc := 50) (tgt := 59) hx hb d_M_clock_50 (by decide) (fun h5 => ?_) (fun h5 => ?_)
    · replace he := if_go he h5
      refine lv_iconst (pc := 59) (v := 0) hx hb d_M_clock_59 (by decide) ?_
      exact B60 _ _ _ st v1 s0 0 (512 * (st.1 23))  hC (lv_sub hl [1, 2, 0] rfl) he
    replace he := if_no he h5
    refine lv_sipush (pc := 53) (v := 256) hx hb d_M_clock_53 (by decide) ?_
    refine lv_goto (pc := 56) (tgt := 60) hx hb d_M_clock_56 (by decide) ?_
    exact B60 _ _ _ st v1 s0 256 (512 * (st.1 23))  hC (lv_sub hl [1, 2, 0] rfl) he
  unfold f_M_clock at he
  refine lv_aload_n (pc := 0) hx hb d_M_clock_0 rfl (lv_at hl 0 rfl) ?_
  refine callIO (q0 := 4) (pc := 1) (As := []) (rest := []) X (k_M_action l g cs o st ) hC (NM_M_action_232 X rfl rfl ⟨by decide, by decide⟩) rfl rfl rfl hl.1 (Nat.le_of_ble_eq_true rfl) rfl d_M_clock_1 ⟨Nat.zero_le _, Nat.zero_le _⟩ (fun r2 st1 H locs est1 hC => ?_)
  replace he := bP_go he est1
  refine lv_istore_n (pc := 4) (nL := 4) (lv' := [(1, .int r2), (0, .ref (g.model))]) hx hb d_M_clock_4 rfl hl (by decide) rfl (fun ls hl => ?_)
  refine lv_aload_n (pc := 5) hx hb d_M_clock_5 rfl (lv_at hl 1 rfl) ?_
  refine lv_iload_n (pc := 6) hx hb d_M_clock_6 rfl (lv_at hl 0 rfl) ?_
  refine callVO (q0 := 4) (pc := 7) (As := [.int r2]) (rest := []) X (k_M_plan l g cs o st1 r2) hC (NM_M_plan_235 X rfl rfl ⟨by decide, by decide⟩) rfl rfl rfl hl.1 (Nat.le_of_ble_eq_true rfl) rfl d_M_clock_7 ⟨Nat.zero_le _, Nat.zero_le _⟩ (fun st3 H locs est3 hC => ?_)
  replace he := bS_go he est3
  refine lv_aload_n (pc := 10) hx hb d_M_clock_10 rfl (lv_at hl 1 rfl) ?_
  refine GM_writes (pc := 11) X hC d_M_clock_11 ?_
  refine lv_if_eq (pc := 14) (tgt := 24) hx hb d_M_clock_14 (by decide) (fun h4 => ?_) (fun h4 => ?_)
  · replace he := if_go he h4
    refine lv_aload_n (pc := 24) hx hb d_M_clock_24 rfl (lv_at hl 1 rfl) ?_
    refine GM_memory (pc := 25) X hC d_M_clock_25 ?_
    refine lv_aload_n (pc := 28) hx hb d_M_clock_28 rfl (lv_at hl 1 rfl) ?_
    refine GM_address (pc := 29) X hC d_M_clock_29 ?_
    refine lv_sipush (pc := 32) (v := 1023) hx hb d_M_clock_32 (by decide) ?_
    refine lv_iand (pc := 35) hx hb d_M_clock_35 ?_
    refine Ammem (pc := 36) (i := (st3.1 23)) X hC d_M_clock_36 ?_
    exact B37 _ _ _ st3 r2 (uM st3 (st3.1 23))  hC (lv_sub hl [1, 0] rfl) he
  replace he := if_no he h4
  refine lv_aload_n (pc := 17) hx hb d_M_clock_17 rfl (lv_at hl 1 rfl) ?_
  refine GM_value (pc := 18) X hC d_M_clock_18 ?_
  refine lv_goto (pc := 21) (tgt := 37) hx hb d_M_clock_21 (by decide) ?_
  exact B37 _ _ _ st3 r2 (st3.1 25)  hC (lv_sub hl [1, 0] rfl) he
def f_M_cycle (st : MS)  : Int32 × MS := bS (tV st 27 0) (fun st1 => bP (f_M_clock st1 ) (fun r3 st2 => (r3, st2)))
abbrev rm_M_cycle : Room := { frames := 7, cells := 0, slots := 0, locals := 157 }
set_option maxHeartbeats 4000000 in
set_option maxRecDepth 100000 in
theorem k_M_cycle (l : Launch) (g : CG) (cs : CS) (o : Nat → Int64) (st : MS)  : KI l g y_M_cycle (Cond.code y_M_cycle c_M_cycle 1 (some .int) :: ALL) rm_M_cycle [.ref (g.model)] (wM g cs o) st (f_M_cycle st ) := by
  refine KI.ofW (by decide) (Nat.le_of_ble_eq_true rfl) ?_
  intro p e s m args below meth c A Q ls Rv X he RET hC hl
  obtain ⟨hx, hb⟩ := FX_xb X
  have hl : lv_has ls 1 [(0, .ref (g.model))] := hl
  unfold f_M_cycle at he
  refine lv_aload_n (pc := 0) hx hb d_M_cycle_0 rfl (lv_at hl 0 rfl) ?_
  refine lv_iconst (pc := 1) (v := 0) hx hb d_M_cycle_1 (by decide) ?_
  refine PM_thrown (pc := 2) X hC d_M_cycle_2 (fun st1 H locs est1 hC => ?_)
  replace he := bS_go he est1
  refine lv_aload_n (pc := 5) hx hb d_M_cycle_5 rfl (lv_at hl 0 rfl) ?_
  refine callIO (q0 := 4) (pc := 6) (As := []) (rest := []) X (k_M_clock l g cs o st1 ) hC (NM_M_clock_244 X rfl rfl ⟨by decide, by decide⟩) rfl rfl rfl hl.1 (Nat.le_of_ble_eq_true rfl) rfl d_M_cycle_6 ⟨Nat.zero_le _, Nat.zero_le _⟩ (fun r3 st2 H locs est2 hC => ?_)
  replace he := bP_go he est2
  exact RET (pc := 9) d_M_cycle_9 hC he
def f_M_register_117 (st : MS) (s0 : Int32) : Int32 × MS := (s0, st)
def f_M_register_16 (st : MS) (v1 : Int32) (s0 : Int32) : Int32 × MS := bS (tV st 27 s0) (fun st3 => if (st3.1 27) = 0 then (if v1 = 0 then (((st3.1 0), st3)) else (if v1 = 1 then (((st3.1 1), st3)) else (if v1 = 2 then (((st3.1 2), st3)) else (if v1 = 3 then (((st3.1 3), st3)) else (if v1 = 4 then (((st3.1 4), st3)) else (if v1 = 5 then ((((st3.1 5) ||| 32), st3)) else (if v1 = 6 then (if (st3.1 13) = 0 then (f_M_register_117 st3 0) else (f_M_register_117 st3 1)) else (((st3.1 12), st3))))))))) else ((0, st3)))
def f_M_register_11 (st : MS) (v1 : Int32) : Int32 × MS := f_M_register_16 st v1 1
def f_M_register (st : MS) (v1 : Int32) : Int32 × MS := if v1 < 0 then (f_M_register_11 st v1) else (if v1 ≤ 7 then (f_M_register_16 st v1 0) else (f_M_register_11 st v1))
abbrev rm_M_register : Room := { frames := 0, cells := 0, slots := 0, locals := 0 }
set_option maxHeartbeats 4000000 in
set_option maxRecDepth 100000 in
theorem k_M_register (l : Launch) (g : CG) (cs : CS) (o : Nat → Int64) (st : MS) (v1 : Int32) : KI l g y_M_register (Cond.code y_M_register c_M_register 2 (some .int) :: ALL) rm_M_register [.ref (g.model), .int v1] (wM g cs o) st (f_M_register st v1) := by
  refine KI.ofW (by decide) (Nat.le_of_ble_eq_true rfl) ?_
  intro p e s m args below meth c A Q ls Rv X he RET hC hl
  obtain ⟨hx, hb⟩ := FX_xb X
  have hl : lv_has ls 2 [(0, .ref (g.model)), (1, .int v1)] := hl
  have B117 : ∀ (H : Heap) (locs : List Loc) (ls : Array Slot) (st : MS) (s0 : Int32) (hs0 : s0 = 0 ∨ s0 = 1), HC g A s (wM g cs o st) H locs → lv_has ls 2 [] → f_M_register_117 st s0 = Rv → W p l e rm_M_register s m args below meth c H locs 0 0 Q (F0 m 117 ls [.int s0]) := by
    intro H locs ls st s0 hs0 hC hl he
    unfold f_M_register_117 at he
    exact RET (pc := 117) d_M_register_117 hC he
  have B16 : ∀ (H : Heap) (locs : List Loc) (ls : Array Slot) (st : MS) (v1 : Int32) (s0 : Int32) (hs0 : s0 = 0 ∨ s0 = 1), HC g A s (wM g cs o st) H locs → lv_has ls 2 [(0, .ref (g.model)), (1, .int v1)] → f_M_register_16 st v1 s0 = Rv → W p l e rm_M_register s m args below meth c H locs 0 0 Q (F0 m 16 ls [.int s0, .ref (g.model)]) := by
    intro H locs ls st v1 s0 hs0 hC hl he
    unfold f_M_register_16 at he
    refine PM_thrown (pc := 16) X hC d_M_register_16 (fun st3 H locs est3 hC => ?_)
    replace he := bS_go he est3
    refine lv_aload_n (pc := 19) hx hb d_M_register_19 rfl (lv_at hl 0 rfl) ?_
    refine GM_thrown (pc := 20) X hC d_M_register_20 ?_
    refine lv_if_eq (pc := 23) (tgt := 28) hx hb d_M_register_23 (by decide) (fun h4 => ?_) (fun h4 => ?_)
    · replace he := if_go he h4
      refine lv_iload_n (pc := 28) hx hb d_M_register_28 rfl (lv_at hl 1 rfl) ?_
      by_cases h5 : v1 = 0
      · replace he := if_go he h5
        refine lv_tableIn (pc := 29) (tgt := 72) hx hb d_M_register_29 (by rw [h5]; decide) (by rw [h5]; decide) (by rw [h5]; rfl) (by decide) ?_
        refine lv_aload_n (pc := 72) hx hb d_M_register_72 rfl (lv_at hl 0 rfl) ?_
        refine GM_a (pc := 73) X hC d_M_register_73 ?_
        exact RET (pc := 76) d_M_register_76 hC he
      replace he := if_no he h5
      by_cases h6 : v1 = 1
      · replace he := if_go he h6
        refine lv_tableIn (pc := 29) (tgt := 77) hx hb d_M_register_29 (by rw [h6]; decide) (by rw [h6]; decide) (by rw [h6]; rfl) (by decide) ?_
        refine lv_aload_n (pc := 77) hx hb d_M_register_77 rfl (lv_at hl 0 rfl) ?_
        refine GM_x (pc := 78) X hC d_M_register_78 ?_
        exact RET (pc := 81) d_M_register_81 hC he
      replace he := if_no he h6
      by_cases h7 : v1 = 2
      · replace he := if_go he h7
        refine lv_tableIn (pc := 29) (tgt := 82) hx hb d_M_register_29 (by rw [h7]; decide) (by rw [h7]; decide) (by rw [h7]; rfl) (by decide) ?_
        refine lv_aload_n (pc := 82) hx hb d_M_register_82 rfl (lv_at hl 0 rfl) ?_
        refine GM_y (pc := 83) X hC d_M_register_83 ?_
        exact RET (pc := 86) d_M_register_86 hC he
      replace he := if_no he h7
      by_cases h8 : v1 = 3
      · replace he := if_go he h8
        refine lv_tableIn (pc := 29) (tgt := 87) hx hb d_M_register_29 (by rw [h8]; decide) (by rw [h8]; decide) (by rw [h8]; rfl) (by decide) ?_
        refine lv_aload_n (pc := 87) hx hb d_M_register_87 rfl (lv_at hl 0 rfl) ?_
        refine GM_s (pc := 88) X hC d_M_register_88 ?_
        exact RET (pc := 91) d_M_register_91 hC he
      replace he := if_no he h8
      by_cases h9 : v1 = 4
      · replace he := if_go he h9
        refine lv_tableIn (pc := 29) (tgt := 92) hx hb d_M_register_29 (by rw [h9]; decide) (by rw [h9]; decide) (by rw [h9]; rfl) (by decide) ?_
        refine lv_aload_n (pc := 92) hx hb d_M_register_92 rfl (lv_at hl 0 rfl) ?_
        refine GM_pc (pc := 93) X hC d_M_register_93 ?_
        exact RET (pc := 96) d_M_register_96 hC he
      replace he := if_no he h9
      by_cases h10 : v1 = 5
      · replace he := if_go he h10
        refine lv_tableIn (pc := 29) (tgt := 97) hx hb d_M_register_29 (by rw [h10]; decide) (by rw [h10]; decide) (by rw [h10]; rfl) (by decide) ?_
        refine lv_aload_n (pc := 97) hx hb d_M_register_97 rfl (lv_at hl 0 rfl) ?_
        refine GM_flags (pc := 98) X hC d_M_register_98 ?_
        refine lv_bipush (pc := 101) (v := 32) hx hb d_M_register_101 (by decide) ?_
        refine lv_ior (pc := 103) hx hb d_M_register_103 ?_
        exact RET (pc := 104) d_M_register_104 hC he
      replace he := if_no he h10
      by_cases h11 : v1 = 6
      · replace he := if_go he h11
        refine lv_tableIn (pc := 29) (tgt := 105) hx hb d_M_register_29 (by rw [h11]; decide) (by rw [h11]; decide) (by rw [h11]; rfl) (by decide) ?_
        refine lv_aload_n (pc := 105) hx hb d_M_register_105 rfl (lv_at hl 0 rfl) ?_
        refine GM_jam (pc := 106) X hC d_M_register_106 ?_
        refine lv_if_eq (pc := 109) (tgt := 116) hx hb d_M_register_109 (by decide) (fun h12 => ?_) (fun h12 => ?_)
        · replace he := if_go he h12
          refine lv_iconst (pc := 116) (v := 0) hx hb d_M_register_116 (by decide) ?_
          exact B117 _ _ _ st3 0 b0 hC (lv_sub hl [] rfl) he
        replace he := if_no he h12
        refine lv_iconst (pc := 112) (v := 1) hx hb d_M_register_112 (by decide) ?_
        refine lv_goto (pc := 113) (tgt := 117) hx hb d_M_register_113 (by decide) ?_
        exact B117 _ _ _ st3 1 b1 hC (lv_sub hl [] rfl) he
      replace he := if_no he h11
      refine lv_tableOut (pc := 29) (tgt := 118) hx hb d_M_register_29 (by have nh5 := lv_neT (a := 0) h5 (by decide); have nh6 := lv_neT (a := 1) h6 (by decide); have nh7 := lv_neT (a := 2) h7 (by decide); have nh8 := lv_neT (a := 3) h8 (by decide); have nh9 := lv_neT (a := 4) h9 (by decide); have nh10 := lv_neT (a := 5) h10 (by decide); have nh11 := lv_neT (a := 6) h11 (by decide); omega) (by decide) ?_
      refine lv_aload_n (pc := 118) hx hb d_M_register_118 rfl (lv_at hl 0 rfl) ?_
      refine GM_done (pc := 119) X hC d_M_register_119 ?_
      exact RET (pc := 122) d_M_register_122 hC he
    replace he := if_no he h4
    refine lv_iconst (pc := 26) (v := 0) hx hb d_M_register_26 (by decide) ?_
    exact RET (pc := 27) d_M_register_27 hC he
  have B11 : ∀ (H : Heap) (locs : List Loc) (ls : Array Slot) (st : MS) (v1 : Int32), HC g A s (wM g cs o st) H locs → lv_has ls 2 [(0, .ref (g.model)), (1, .int v1)] → f_M_register_11 st v1 = Rv → W p l e rm_M_register s m args below meth c H locs 0 0 Q (F0 m 11 ls [.ref (g.model)]) := by
    intro H locs ls st v1  hC hl he
    unfold f_M_register_11 at he
    refine lv_iconst (pc := 11) (v := 1) hx hb d_M_register_11 (by decide) ?_
    refine lv_goto (pc := 12) (tgt := 16) hx hb d_M_register_12 (by decide) ?_
    exact B16 _ _ _ st v1 1 b1 hC (lv_sub hl [0, 1] rfl) he
  unfold f_M_register at he
  refine lv_aload_n (pc := 0) hx hb d_M_register_0 rfl (lv_at hl 0 rfl) ?_
  refine lv_iload_n (pc := 1) hx hb d_M_register_1 rfl (lv_at hl 1 rfl) ?_
  refine lv_if_lt (pc := 2) (tgt := 11) hx hb d_M_register_2 (by decide) (fun h1 => ?_) (fun h1 => ?_)
  · replace he := if_go he h1
    exact B11 _ _ _ st v1  hC (lv_sub hl [0, 1] rfl) he
  replace he := if_no he h1
  refine lv_iload_n (pc := 5) hx hb d_M_register_5 rfl (lv_at hl 1 rfl) ?_
  refine lv_bipush (pc := 6) (v := 7) hx hb d_M_register_6 (by decide) ?_
  refine lv_icmp_le (pc := 8) (tgt := 15) hx hb d_M_register_8 (by decide) (fun h2 => ?_) (fun h2 => ?_)
  · replace he := if_go he h2
    refine lv_iconst (pc := 15) (v := 0) hx hb d_M_register_15 (by decide) ?_
    exact B16 _ _ _ st v1 0 b0 hC (lv_sub hl [0, 1] rfl) he
  replace he := if_no he h2
  exact B11 _ _ _ st v1  hC (lv_sub hl [0, 1] rfl) he
def f_M_set_148 (st : MS)  : MS := st
def f_M_set_33 (st : MS) (v1 : Int32) (v2 : Int32) (s0 : Int32) : MS := bS (tV st 27 s0) (fun st5 => if (st5.1 27) = 0 then (if v1 = 0 then (bS (tV st5 0 (v2 &&& 255)) (fun st8 => f_M_set_148 st8 )) else (if v1 = 1 then (bS (tV st5 1 (v2 &&& 255)) (fun st10 => f_M_set_148 st10 )) else (if v1 = 2 then (bS (tV st5 2 (v2 &&& 255)) (fun st12 => f_M_set_148 st12 )) else (if v1 = 3 then (bS (tV st5 3 (v2 &&& 255)) (fun st14 => f_M_set_148 st14 )) else (if v1 = 4 then (bS (tV st5 4 (v2 &&& 65535)) (fun st16 => f_M_set_148 st16 )) else (bS (tV st5 5 (v2 &&& 207)) (fun st17 => f_M_set_148 st17 ))))))) else (st5))
def f_M_set_28 (st : MS) (v1 : Int32) (v2 : Int32) : MS := f_M_set_33 st v1 v2 2
def f_M_set_10 (st : MS) (v1 : Int32) (v2 : Int32) : MS := f_M_set_33 st v1 v2 1
def f_M_set (st : MS) (v1 : Int32) (v2 : Int32) : MS := if v1 < 0 then (f_M_set_10 st v1 v2) else (if v1 ≤ 5 then (if (st.1 11) = 0 then (if (st.1 12) = 0 then (f_M_set_33 st v1 v2 0) else (f_M_set_28 st v1 v2)) else (f_M_set_28 st v1 v2)) else (f_M_set_10 st v1 v2))
abbrev rm_M_set : Room := { frames := 0, cells := 0, slots := 0, locals := 0 }
set_option maxHeartbeats 4000000 in
set_option maxRecDepth 100000 in
theorem k_M_set (l : Launch) (g : CG) (cs : CS) (o : Nat → Int64) (st : MS) (v1 : Int32) (v2 : Int32) : KV l g y_M_set (Cond.code y_M_set c_M_set 3 none :: ALL) rm_M_set [.ref (g.model), .int v1, .int v2] (wM g cs o) st (f_M_set st v1 v2) := by
  refine KV.ofW (by decide) (Nat.le_of_ble_eq_true rfl) ?_
  intro p e s m args below meth c A Q ls Rv X he RET hC hl
  obtain ⟨hx, hb⟩ := FX_xb X
  have hl : lv_has ls 3 [(0, .ref (g.model)), (1, .int v1), (2, .int v2)] := hl
  have B148 : ∀ (H : Heap) (locs : List Loc) (ls : Array Slot) (st : MS) , HC g A s (wM g cs o st) H locs → lv_has ls 3 [] → f_M_set_148 st  = Rv → W p l e rm_M_set s m args below meth c H locs 0 0 Q (F0 m 148 ls []) := by
    intro H locs ls st   hC hl he
    unfold f_M_set_148 at he
    exact RET (pc := 148) d_M_set_148 hC he
  have B33 : ∀ (H : Heap) (locs : List Loc) (ls : Array Slot) (st : MS) (v1 : Int32) (v2 : Int32) (s0 : Int32), HC g A s (wM g cs o st) H locs → lv_has ls 3 [(0, .ref (g.model)), (1, .int v1), (2, .int v2)] → f_M_set_33 st v1 v2 s0 = Rv → W p l e rm_M_set s m args below meth c H locs 0 0 Q (F0 m 33 ls [.int s0, .ref (g.model)]) := by
    intro H locs ls st v1 v2 s0  hC hl he
    unfold f_M_set_33 at he
    refine PM_thrown (pc := 33) X hC d_M_set_33 (fun st5 H locs est5 hC => ?_)
    replace he := bS_go he est5
    refine lv_aload_n (pc := 36) hx hb d_M_set_36 rfl (lv_at hl 0 rfl) ?_
    refine GM_thrown (pc := 37) X hC d_M_set_37 ?_
    refine lv_if_eq (pc := 40) (tgt := 44) hx hb d_M_set_40 (by decide) (fun h6 => ?_) (fun h6 => ?_)
    · replace he := if_go he h6
      refine lv_iload_n (pc := 44) hx hb d_M_set_44 rfl (lv_at hl 1 rfl) ?_
      by_cases h7 : v1 = 0
      · replace he := if_go he h7
        refine lv_tableIn (pc := 45) (tgt := 80) hx hb d_M_set_45 (by rw [h7]; decide) (by rw [h7]; decide) (by rw [h7]; rfl) (by decide) ?_
        refine lv_aload_n (pc := 80) hx hb d_M_set_80 rfl (lv_at hl 0 rfl) ?_
        refine lv_iload_n (pc := 81) hx hb d_M_set_81 rfl (lv_at hl 2 rfl) ?_
        refine lv_sipush (pc := 82) (v := 255) hx hb d_M_set_82 (by decide) ?_
        refine lv_iand (pc := 85) hx hb d_M_set_85 ?_
        refine PM_a (pc := 86) X hC d_M_set_86 (fun st8 H locs est8 hC => ?_)
        replace he := bS_go he est8
        refine lv_goto (pc := 89) (tgt := 148) hx hb d_M_set_89 (by decide) ?_
        exact B148 _ _ _ st8   hC (lv_sub hl [] rfl) he
      replace he := if_no he h7
      by_cases h9 : v1 = 1
      · replace he := if_go he h9
        refine lv_tableIn (pc := 45) (tgt := 92) hx hb d_M_set_45 (by rw [h9]; decide) (by rw [h9]; decide) (by rw [h9]; rfl) (by decide) ?_
        refine lv_aload_n (pc := 92) hx hb d_M_set_92 rfl (lv_at hl 0 rfl) ?_
        refine lv_iload_n (pc := 93) hx hb d_M_set_93 rfl (lv_at hl 2 rfl) ?_
        refine lv_sipush (pc := 94) (v := 255) hx hb d_M_set_94 (by decide) ?_
        refine lv_iand (pc := 97) hx hb d_M_set_97 ?_
        refine PM_x (pc := 98) X hC d_M_set_98 (fun st10 H locs est10 hC => ?_)
        replace he := bS_go he est10
        refine lv_goto (pc := 101) (tgt := 148) hx hb d_M_set_101 (by decide) ?_
        exact B148 _ _ _ st10   hC (lv_sub hl [] rfl) he
      replace he := if_no he h9
      by_cases h11 : v1 = 2
      · replace he := if_go he h11
        refine lv_tableIn (pc := 45) (tgt := 104) hx hb d_M_set_45 (by rw [h11]; decide) (by rw [h11]; decide) (by rw [h11]; rfl) (by decide) ?_
        refine lv_aload_n (pc := 104) hx hb d_M_set_104 rfl (lv_at hl 0 rfl) ?_
        refine lv_iload_n (pc := 105) hx hb d_M_set_105 rfl (lv_at hl 2 rfl) ?_
        refine lv_sipush (pc := 106) (v := 255) hx hb d_M_set_106 (by decide) ?_
        refine lv_iand (pc := 109) hx hb d_M_set_109 ?_
        refine PM_y (pc := 110) X hC d_M_set_110 (fun st12 H locs est12 hC => ?_)
        replace he := bS_go he est12
        refine lv_goto (pc := 113) (tgt := 148) hx hb d_M_set_113 (by decide) ?_
        exact B148 _ _ _ st12   hC (lv_sub hl [] rfl) he
      replace he := if_no he h11
      by_cases h13 : v1 = 3
      · replace he := if_go he h13
        refine lv_tableIn (pc := 45) (tgt := 116) hx hb d_M_set_45 (by rw [h13]; decide) (by rw [h13]; decide) (by rw [h13]; rfl) (by decide) ?_
        refine lv_aload_n (pc := 116) hx hb d_M_set_116 rfl (lv_at hl 0 rfl) ?_
        refine lv_iload_n (pc := 117) hx hb d_M_set_117 rfl (lv_at hl 2 rfl) ?_
        refine lv_sipush (pc := 118) (v := 255) hx hb d_M_set_118 (by decide) ?_
        refine lv_iand (pc := 121) hx hb d_M_set_121 ?_
        refine PM_s (pc := 122) X hC d_M_set_122 (fun st14 H locs est14 hC => ?_)
        replace he := bS_go he est14
        refine lv_goto (pc := 125) (tgt := 148) hx hb d_M_set_125 (by decide) ?_
        exact B148 _ _ _ st14   hC (lv_sub hl [] rfl) he
      replace he := if_no he h13
      by_cases h15 : v1 = 4
      · replace he := if_go he h15
        refine lv_tableIn (pc := 45) (tgt := 128) hx hb d_M_set_45 (by rw [h15]; decide) (by rw [h15]; decide) (by rw [h15]; rfl) (by decide) ?_
        refine lv_aload_n (pc := 128) hx hb d_M_set_128 rfl (lv_at hl 0 rfl) ?_
        refine lv_iload_n (pc := 129) hx hb d_M_set_129 rfl (lv_at hl 2 rfl) ?_
        refine LM_71 (pc := 130) X d_M_set_130 ?_
        refine lv_iand (pc := 132) hx hb d_M_set_132 ?_
        refine PM_pc (pc := 133) X hC d_M_set_133 (fun st16 H locs est16 hC => ?_)
        replace he := bS_go he est16
        refine lv_goto (pc := 136) (tgt := 148) hx hb d_M_set_136 (by decide) ?_
        exact B148 _ _ _ st16   hC (lv_sub hl [] rfl) he
      replace he := if_no he h15
      refine lv_tableOut (pc := 45) (tgt := 139) hx hb d_M_set_45 (by have nh7 := lv_neT (a := 0) h7 (by decide); have nh9 := lv_neT (a := 1) h9 (by decide); have nh11 := lv_neT (a := 2) h11 (by decide); have nh13 := lv_neT (a := 3) h13 (by decide); have nh15 := lv_neT (a := 4) h15 (by decide); omega) (by decide) ?_
      refine lv_aload_n (pc := 139) hx hb d_M_set_139 rfl (lv_at hl 0 rfl) ?_
      refine lv_iload_n (pc := 140) hx hb d_M_set_140 rfl (lv_at hl 2 rfl) ?_
      refine lv_sipush (pc := 141) (v := 207) hx hb d_M_set_141 (by decide) ?_
      refine lv_iand (pc := 144) hx hb d_M_set_144 ?_
      refine PM_flags (pc := 145) X hC d_M_set_145 (fun st17 H locs est17 hC => ?_)
      replace he := bS_go he est17
      exact B148 _ _ _ st17   hC (lv_sub hl [] rfl) he
    replace he := if_no he h6
    exact RET (pc := 43) d_M_set_43 hC he
  have B28 : ∀ (H : Heap) (locs : List Loc) (ls : Array Slot) (st : MS) (v1 : Int32) (v2 : Int32), HC g A s (wM g cs o st) H locs → lv_has ls 3 [(0, .ref (g.model)), (1, .int v1), (2, .int v2)] → f_M_set_28 st v1 v2 = Rv → W p l e rm_M_set s m args below meth c H locs 0 0 Q (F0 m 28 ls [.ref (g.model)]) := by
    intro H locs ls st v1 v2  hC hl he
    unfold f_M_set_28 at he
    refine lv_iconst (pc := 28) (v := 2) hx hb d_M_set_28 (by decide) ?_
    refine lv_goto (pc := 29) (tgt := 33) hx hb d_M_set_29 (by decide) ?_
    exact B33 _ _ _ st v1 v2 2  hC (lv_sub hl [0, 1, 2] rfl) he
  have B10 : ∀ (H : Heap) (locs : List Loc) (ls : Array Slot) (st : MS) (v1 : Int32) (v2 : Int32), HC g A s (wM g cs o st) H locs → lv_has ls 3 [(0, .ref (g.model)), (1, .int v1), (2, .int v2)] → f_M_set_10 st v1 v2 = Rv → W p l e rm_M_set s m args below meth c H locs 0 0 Q (F0 m 10 ls [.ref (g.model)]) := by
    intro H locs ls st v1 v2  hC hl he
    unfold f_M_set_10 at he
    refine lv_iconst (pc := 10) (v := 1) hx hb d_M_set_10 (by decide) ?_
    refine lv_goto (pc := 11) (tgt := 33) hx hb d_M_set_11 (by decide) ?_
    exact B33 _ _ _ st v1 v2 1  hC (lv_sub hl [0, 1, 2] rfl) he
  unfold f_M_set at he
  refine lv_aload_n (pc := 0) hx hb d_M_set_0 rfl (lv_at hl 0 rfl) ?_
  refine lv_iload_n (pc := 1) hx hb d_M_set_1 rfl (lv_at hl 1 rfl) ?_
  refine lv_if_lt (pc := 2) (tgt := 10) hx hb d_M_set_2 (by decide) (fun h1 => ?_) (fun h1 => ?_)
  · replace he := if_go he h1
    exact B10 _ _ _ st v1 v2  hC (lv_sub hl [0, 1, 2] rfl) he
  replace he := if_no he h1
  refine lv_iload_n (pc := 5) hx hb d_M_set_5 rfl (lv_at hl 1 rfl) ?_
  refine lv_iconst (pc := 6) (v := 5) hx hb d_M_set_6 (by decide) ?_
  refine lv_icmp_le (pc := 7) (tgt := 14) hx hb d_M_set_7 (by decide) (fun h2 => ?_) (fun h2 => ?_)
  · replace he := if_go he h2
    refine lv_aload_n (pc := 14) hx hb d_M_set_14 rfl (lv_at hl 0 rfl) ?_
    refine GM_going (pc := 15) X hC d_M_set_15 ?_
    refine lv_if_ne (pc := 18) (tgt := 28) hx hb d_M_set_18 (by decide) (fun h3 => ?_) (fun h3 => ?_)
    · replace he := if_no he h3
      exact B28 _ _ _ st v1 v2  hC (lv_sub hl [0, 1, 2] rfl) he
    replace he := if_go he h3
    refine lv_aload_n (pc := 21) hx hb d_M_set_21 rfl (lv_at hl 0 rfl) ?_
    refine GM_done (pc := 22) X hC d_M_set_22 ?_
    refine lv_if_eq (pc := 25) (tgt := 32) hx hb d_M_set_25 (by decide) (fun h4 => ?_) (fun h4 => ?_)
    · replace he := if_go he h4
      refine lv_iconst (pc := 32) (v := 0) hx hb d_M_set_32 (by decide) ?_
      exact B33 _ _ _ st v1 v2 0  hC (lv_sub hl [0, 1, 2] rfl) he
    replace he := if_no he h4
    exact B28 _ _ _ st v1 v2  hC (lv_sub hl [0, 1, 2] rfl) he
  replace he := if_no he h2
  exact B10 _ _ _ st v1 v2  hC (lv_sub hl [0, 1, 2] rfl) he

/-! contracts of methods (printed by my own program: pure pictures and walks) -/
def f_M_plan_386 (st : MS)  : MS := st
def f_M_plan_381 (st : MS) (v1 : Int32) : MS := bS (f_M_planWrite st v1) (fun st55 => f_M_plan_386 st55 )
def f_M_plan_330 (st : MS) (s0 : Int32) : MS := bS (f_M_reads st s0) (fun st54 => f_M_plan_386 st54 )
def f_M_plan_281 (st : MS)  : MS := bS (f_M_reads st (256 + (((st.1 3) + 1) &&& 255))) (fun st53 => f_M_plan_386 st53 )
def f_M_plan_270 (st : MS)  : MS := bP (f_M_operand st ) (fun r51 st50 => bS (f_M_reads st50 r51) (fun st52 => f_M_plan_386 st52 ))
def f_M_plan_264 (st : MS) (s0 : Int32) : MS := bS (f_M_reads st s0) (fun st49 => f_M_plan_386 st49 )
def f_M_plan_221 (st : MS) (s0 : Int32) : MS := bS (f_M_reads st s0) (fun st48 => f_M_plan_386 st48 )
def f_M_plan_166 (st : MS)  : MS := bS (f_M_reads st (256 + (st.1 3))) (fun st47 => f_M_plan_386 st47 )
def f_M_plan_144 (st : MS)  : MS := bS (f_M_reads st (st.1 4)) (fun st46 => f_M_plan_386 st46 )
def f_M_plan (st : MS) (v1 : Int32) : MS := if v1 = 1 then (f_M_plan_144 st ) else (if v1 = 2 then (f_M_plan_144 st ) else (if v1 = 3 then (f_M_plan_144 st ) else (if v1 = 4 then (f_M_plan_144 st ) else (if v1 = 5 then (f_M_plan_144 st ) else (if v1 = 6 then (bS (f_M_reads st (st.1 16)) (fun st7 => f_M_plan_386 st7 )) else (if v1 = 7 then (f_M_plan_166 st ) else (if v1 = 8 then (bP (f_M_half st ) (fun r11 st10 => bS (f_M_reads st10 r11) (fun st12 => f_M_plan_386 st12 ))) else (if v1 = 9 then (if (st.1 15) = 5 then (f_M_plan_221 st (((st.1 16) + (st.1 1)) &&& 255)) else (f_M_plan_221 st (st.1 16))) else (if v1 = 10 then (if (st.1 15) = 5 then (f_M_plan_264 st ((((st.1 16) + (st.1 1)) + 1) &&& 255)) else (f_M_plan_264 st (((st.1 16) + 1) &&& 255))) else (if v1 = 11 then (f_M_plan_270 st ) else (if v1 = 12 then (f_M_plan_381 st v1) else (if v1 = 13 then (f_M_plan_270 st ) else (if v1 = 14 then (f_M_plan_381 st v1) else (if v1 = 15 then (f_M_plan_381 st v1) else (if v1 = 16 then (f_M_plan_381 st v1) else (if v1 = 17 then (f_M_plan_381 st v1) else (if v1 = 18 then (f_M_plan_381 st v1) else (if v1 = 19 then (f_M_plan_381 st v1) else (if v1 = 20 then (f_M_plan_381 st v1) else (if v1 = 21 then (f_M_plan_281 st ) else (if v1 = 22 then (f_M_plan_281 st ) else (if v1 = 23 then (f_M_plan_281 st ) else (if v1 = 24 then (f_M_plan_281 st ) else (if v1 = 25 then (f_M_plan_144 st ) else (if v1 = 26 then (f_M_plan_144 st ) else (if v1 = 27 then (f_M_plan_144 st ) else (if v1 = 28 then (if (st.1 11) = 2 then (f_M_plan_330 st 65532) else (if (st.1 10) = 0 then (f_M_plan_330 st 65534) else (f_M_plan_330 st 65530))) else (if v1 = 29 then (bS (f_M_reads st ((st.1 19) + 1)) (fun st38 => f_M_plan_386 st38 )) else (if v1 = 30 then (f_M_plan_166 st ) else (if v1 = 31 then (bP (f_M_target st ) (fun r42 st41 => bS (f_M_reads st41 (((st.1 4) &&& 65280) ||| (r42 &&& 255))) (fun st43 => f_M_plan_386 st43 ))) else (if v1 = 32 then (bS (f_M_reads st 65535) (fun st45 => f_M_plan_386 st45 )) else (f_M_plan_381 st v1))))))))))))))))))))))))))))))))
abbrev rm_M_plan : Room := { frames := 2, cells := 0, slots := 0, locals := 42 }
set_option maxHeartbeats 4000000 in
set_option maxRecDepth 100000 in
theorem k_M_plan (l : Launch) (g : CG) (cs : CS) (o : Nat → Int64) (st : MS) (v1 : Int32) : KV l g y_M_plan (Cond.code y_M_plan c_M_plan 2 none :: ALL) rm_M_plan [.ref (g.model), .int v1] (wM g cs o) st (f_M_plan st v1) := by
  refine KV.ofW (by decide) (Nat.le_of_ble_eq_true rfl) ?_
  intro p e s m args below meth c A Q ls Rv X he RET hC hl
  obtain ⟨hx, hb⟩ := FX_xb X
  have hl : lv_has ls 2 [(0, .ref (g.model)), (1, .int v1)] := hl
  have B386 : ∀ (H : Heap) (locs : List Loc) (ls : Array Slot) (st : MS) , HC g A s (wM g cs o st) H locs → lv_has ls 2 [] → f_M_plan_386 st  = Rv → W p l e rm_M_plan s m args below meth c H locs 0 0 Q (F0 m 386 ls []) := by
    intro H locs ls st   hC hl he
    unfold f_M_plan_386 at he
    exact RET (pc := 386) d_M_plan_386 hC he
  have B381 : ∀ (H : Heap) (locs : List Loc) (ls : Array Slot) (st : MS) (v1 : Int32), HC g A s (wM g cs o st) H locs → lv_has ls 2 [(0, .ref (g.model)), (1, .int v1)] → f_M_plan_381 st v1 = Rv → W p l e rm_M_plan s m args below meth c H locs 0 0 Q (F0 m 381 ls []) := by
    intro H locs ls st v1  hC hl he
    unfold f_M_plan_381 at he
    refine lv_aload_n (pc := 381) hx hb d_M_plan_381 rfl (lv_at hl 0 rfl) ?_
    refine lv_iload_n (pc := 382) hx hb d_M_plan_382 rfl (lv_at hl 1 rfl) ?_
    refine callVO (q0 := 4) (pc := 383) (As := [.int v1]) (rest := []) X (k_M_planWrite l g cs o st v1) hC (NM_M_planWrite_180 X rfl rfl ⟨by decide, by decide⟩) rfl rfl rfl hl.1 (Nat.le_of_ble_eq_true rfl) rfl d_M_plan_383 ⟨Nat.zero_le _, Nat.zero_le _⟩ (fun st55 H locs est55 hC => ?_)
    replace he := bS_go he est55
    exact B386 _ _ _ st55   hC (lv_sub hl [] rfl) he
  have B330 : ∀ (H : Heap) (locs : List Loc) (ls : Array Slot) (st : MS) (s0 : Int32), HC g A s (wM g cs o st) H locs → lv_has ls 2 [] → f_M_plan_330 st s0 = Rv → W p l e rm_M_plan s m args below meth c H locs 0 0 Q (F0 m 330 ls [.int s0, .ref (g.model)]) := by
    intro H locs ls st s0  hC hl he
    unfold f_M_plan_330 at he
    refine callVO (q0 := 4) (pc := 330) (As := [.int s0]) (rest := []) X (k_M_reads l g cs o st s0) hC (NM_M_reads_166 X rfl rfl ⟨by decide, by decide⟩) rfl rfl rfl hl.1 (Nat.le_of_ble_eq_true rfl) rfl d_M_plan_330 ⟨Nat.zero_le _, Nat.zero_le _⟩ (fun st54 H locs est54 hC => ?_)
    replace he := bS_go he est54
    refine lv_goto (pc := 333) (tgt := 386) hx hb d_M_plan_333 (by decide) ?_
    exact B386 _ _ _ st54   hC (lv_sub hl [] rfl) he
  have B281 : ∀ (H : Heap) (locs : List Loc) (ls : Array Slot) (st : MS) , HC g A s (wM g cs o st) H locs → lv_has ls 2 [(0, .ref (g.model))] → f_M_plan_281 st  = Rv → W p l e rm_M_plan s m args below meth c H locs 0 0 Q (F0 m 281 ls []) := by
    intro H locs ls st   hC hl he
    unfold f_M_plan_281 at he
    refine lv_aload_n (pc := 281) hx hb d_M_plan_281 rfl (lv_at hl 0 rfl) ?_
    refine lv_sipush (pc := 282) (v := 256) hx hb d_M_plan_282 (by decide) ?_
    refine lv_aload_n (pc := 285) hx hb d_M_plan_285 rfl (lv_at hl 0 rfl) ?_
    refine GM_s (pc := 286) X hC d_M_plan_286 ?_
    refine lv_iconst (pc := 289) (v := 1) hx hb d_M_plan_289 (by decide) ?_
    refine lv_iadd (pc := 290) hx hb d_M_plan_290 ?_
    refine lv_sipush (pc := 291) (v := 255) hx hb d_M_plan_291 (by decide) ?_
    refine lv_iand (pc := 294) hx hb d_M_plan_294 ?_
    refine lv_iadd (pc := 295) hx hb d_M_plan_295 ?_
    refine callVO (q0 := 4) (pc := 296) (As := [.int (256 + (((st.1 3) + 1) &&& 255))]) (rest := []) X (k_M_reads l g cs o st (256 + (((st.1 3) + 1) &&& 255))) hC (NM_M_reads_166 X rfl rfl ⟨by decide, by decide⟩) rfl rfl rfl hl.1 (Nat.le_of_ble_eq_true rfl) rfl d_M_plan_296 ⟨Nat.zero_le _, Nat.zero_le _⟩ (fun st53 H locs est53 hC => ?_)
    replace he := bS_go he est53
    refine lv_goto (pc := 299) (tgt := 386) hx hb d_M_plan_299 (by decide) ?_
    exact B386 _ _ _ st53   hC (lv_sub hl [] rfl) he
  have B270 : ∀ (H : Heap) (locs : List Loc) (ls : Array Slot) (st : MS) , HC g A s (wM g cs o st) H locs → lv_has ls 2 [(0, .ref (g.model))] → f_M_plan_270 st  = Rv → W p l e rm_M_plan s m args below meth c H locs 0 0 Q (F0 m 270 ls []) := by
    intro H locs ls st   hC hl he
    unfold f_M_plan_270 at he
    refine lv_aload_n (pc := 270) hx hb d_M_plan_270 rfl (lv_at hl 0 rfl) ?_
    refine lv_aload_n (pc := 271) hx hb d_M_plan_271 rfl (lv_at hl 0 rfl) ?_
    refine callIO (q0 := 4) (pc := 272) (As := []) (rest := [.ref (g.model)]) X (k_M_operand l g cs o st ) hC (NM_M_operand_78 X rfl rfl ⟨by decide, by decide⟩) rfl rfl rfl hl.1 (Nat.le_of_ble_eq_true rfl) rfl d_M_plan_272 ⟨Nat.zero_le _, Nat.zero_le _⟩ (fun r51 st50 H locs est50 hC => ?_)
    replace he := bP_go he est50
    refine callVO (q0 := 4) (pc := 275) (As := [.int r51]) (rest := []) X (k_M_reads l g cs o st50 r51) hC (NM_M_reads_166 X rfl rfl ⟨by decide, by decide⟩) rfl rfl rfl hl.1 (Nat.le_of_ble_eq_true rfl) rfl d_M_plan_275 ⟨Nat.zero_le _, Nat.zero_le _⟩ (fun st52 H locs est52 hC => ?_)
    replace he := bS_go he est52
    refine lv_goto (pc := 278) (tgt := 386) hx hb d_M_plan_278 (by decide) ?_
    exact B386 _ _ _ st52   hC (lv_sub hl [] rfl) he
  have B264 : ∀ (H : Heap) (locs : List Loc) (ls : Array Slot) (st : MS) (s0 : Int32), HC g A s (wM g cs o st) H locs → lv_has ls 2 [] → f_M_plan_264 st s0 = Rv → W p l e rm_M_plan s m args below meth c H locs 0 0 Q (F0 m 264 ls [.int s0, .ref (g.model)]) := by
    intro H locs ls st s0  hC hl he
    unfold f_M_plan_264 at he
    refine callVO (q0 := 4) (pc := 264) (As := [.int s0]) (rest := []) X (k_M_reads l g cs o st s0) hC (NM_M_reads_166 X rfl rfl ⟨by decide, by decide⟩) rfl rfl rfl hl.1 (Nat.le_of_ble_eq_true rfl) rfl d_M_plan_264 ⟨Nat.zero_le _, Nat.zero_le _⟩ (fun st49 H locs est49 hC => ?_)
    replace he := bS_go he est49
    refine lv_goto (pc := 267) (tgt := 386) hx hb d_M_plan_267 (by decide) ?_
    exact B386 _ _ _ st49   hC (lv_sub hl [] rfl) he
  have B221 : ∀ (H : Heap) (locs : List Loc) (ls : Array Slot) (st : MS) (s0 : Int32), HC g A s (wM g cs o st) H locs → lv_has ls 2 [] → f_M_plan_221 st s0 = Rv → W p l e rm_M_plan s m args below meth c H locs 0 0 Q (F0 m 221 ls [.int s0, .ref (g.model)]) := by
    intro H locs ls st s0  hC hl he
    unfold f_M_plan_221 at he
    refine callVO (q0 := 4) (pc := 221) (As := [.int s0]) (rest := []) X (k_M_reads l g cs o st s0) hC (NM_M_reads_166 X rfl rfl ⟨by decide, by decide⟩) rfl rfl rfl hl.1 (Nat.le_of_ble_eq_true rfl) rfl d_M_plan_221 ⟨Nat.zero_le _, Nat.zero_le _⟩ (fun st48 H locs est48 hC => ?_)
    replace he := bS_go he est48
    refine lv_goto (pc := 224) (tgt := 386) hx hb d_M_plan_224 (by decide) ?_
    exact B386 _ _ _ st48   hC (lv_sub hl [] rfl) he
  have B166 : ∀ (H : Heap) (locs : List Loc) (ls : Array Slot) (st : MS) , HC g A s (wM g cs o st) H locs → lv_has ls 2 [(0, .ref (g.model))] → f_M_plan_166 st  = Rv → W p l e rm_M_plan s m args below meth c H locs 0 0 Q (F0 m 166 ls []) := by
    intro H locs ls st   hC hl he
    unfold f_M_plan_166 at he
    refine lv_aload_n (pc := 166) hx hb d_M_plan_166 rfl (lv_at hl 0 rfl) ?_
    refine lv_sipush (pc := 167) (v := 256) hx hb d_M_plan_167 (by decide) ?_
    refine lv_aload_n (pc := 170) hx hb d_M_plan_170 rfl (lv_at hl 0 rfl) ?_
    refine GM_s (pc := 171) X hC d_M_plan_171 ?_
    refine lv_iadd (pc := 174) hx hb d_M_plan_174 ?_
    refine callVO (q0 := 4) (pc := 175) (As := [.int (256 + (st.1 3))]) (rest := []) X (k_M_reads l g cs o st (256 + (st.1 3))) hC (NM_M_reads_166 X rfl rfl ⟨by decide, by decide⟩) rfl rfl rfl hl.1 (Nat.le_of_ble_eq_true rfl) rfl d_M_plan_175 ⟨Nat.zero_le _, Nat.zero_le _⟩ (fun st47 H locs est47 hC => ?_)
    replace he := bS_go he est47
    refine lv_goto (pc := 178) (tgt := 386) hx hb d_M_plan_178 (by decide) ?_
    exact B386 _ _ _ st47   hC (lv_sub hl [] rfl) he
  have B144 : ∀ (H : Heap) (locs : List Loc) (ls : Array Slot) (st : MS) , HC g A s (wM g cs o st) H locs → lv_has ls 2 [(0, .ref (g.model))] → f_M_plan_144 st  = Rv → W p l e rm_M_plan s m args below meth c H locs 0 0 Q (F0 m 144 ls []) := by
    intro H locs ls st   hC hl he
    unfold f_M_plan_144 at he
    refine lv_aload_n (pc := 144) hx hb d_M_plan_144 rfl (lv_at hl 0 rfl) ?_
    refine lv_aload_n (pc := 145) hx hb d_M_plan_145 rfl (lv_at hl 0 rfl) ?_
    refine GM_pc (pc := 146) X hC d_M_plan_146 ?_
    refine callVO (q0 := 4) (pc := 149) (As := [.int (st.1 4)]) (rest := []) X (k_M_reads l g cs o st (st.1 4)) hC (NM_M_reads_166 X rfl rfl ⟨by decide, by decide⟩) rfl rfl rfl hl.1 (Nat.le_of_ble_eq_true rfl) rfl d_M_plan_149 ⟨Nat.zero_le _, Nat.zero_le _⟩ (fun st46 H locs est46 hC => ?_)
    replace he := bS_go he est46
    refine lv_goto (pc := 152) (tgt := 386) hx hb d_M_plan_152 (by decide) ?_
    exact B386 _ _ _ st46   hC (lv_sub hl [] rfl) he
  unfold f_M_plan at he
  refine lv_iload_n (pc := 0) hx hb d_M_plan_0 rfl (lv_at hl 1 rfl) ?_
  by_cases h1 : v1 = 1
  · replace he := if_go he h1
    refine lv_tableIn (pc := 1) (tgt := 144) hx hb d_M_plan_1 (by rw [h1]; decide) (by rw [h1]; decide) (by rw [h1]; rfl) (by decide) ?_
    exact B144 _ _ _ st   hC (lv_sub hl [0] rfl) he
  replace he := if_no he h1
  by_cases h2 : v1 = 2
  · replace he := if_go he h2
    refine lv_tableIn (pc := 1) (tgt := 144) hx hb d_M_plan_1 (by rw [h2]; decide) (by rw [h2]; decide) (by rw [h2]; rfl) (by decide) ?_
    exact B144 _ _ _ st   hC (lv_sub hl [0] rfl) he
  replace he := if_no he h2
  by_cases h3 : v1 = 3
  · replace he := if_go he h3
    refine lv_tableIn (pc := 1) (tgt := 144) hx hb d_M_plan_1 (by rw [h3]; decide) (by rw [h3]; decide) (by rw [h3]; rfl) (by decide) ?_
    exact B144 _ _ _ st   hC (lv_sub hl [0] rfl) he
  replace he := if_no he h3
  by_cases h4 : v1 = 4
  · replace he := if_go he h4
    refine lv_tableIn (pc := 1) (tgt := 144) hx hb d_M_plan_1 (by rw [h4]; decide) (by rw [h4]; decide) (by rw [h4]; rfl) (by decide) ?_
    exact B144 _ _ _ st   hC (lv_sub hl [0] rfl) he
  replace he := if_no he h4
  by_cases h5 : v1 = 5
  · replace he := if_go he h5
    refine lv_tableIn (pc := 1) (tgt := 144) hx hb d_M_plan_1 (by rw [h5]; decide) (by rw [h5]; decide) (by rw [h5]; rfl) (by decide) ?_
    exact B144 _ _ _ st   hC (lv_sub hl [0] rfl) he
  replace he := if_no he h5
  by_cases h6 : v1 = 6
  · replace he := if_go he h6
    refine lv_tableIn (pc := 1) (tgt := 155) hx hb d_M_plan_1 (by rw [h6]; decide) (by rw [h6]; decide) (by rw [h6]; rfl) (by decide) ?_
    refine lv_aload_n (pc := 155) hx hb d_M_plan_155 rfl (lv_at hl 0 rfl) ?_
    refine lv_aload_n (pc := 156) hx hb d_M_plan_156 rfl (lv_at hl 0 rfl) ?_
    refine GM_z (pc := 157) X hC d_M_plan_157 ?_
    refine callVO (q0 := 4) (pc := 160) (As := [.int (st.1 16)]) (rest := []) X (k_M_reads l g cs o st (st.1 16)) hC (NM_M_reads_166 X rfl rfl ⟨by decide, by decide⟩) rfl rfl rfl hl.1 (Nat.le_of_ble_eq_true rfl) rfl d_M_plan_160 ⟨Nat.zero_le _, Nat.zero_le _⟩ (fun st7 H locs est7 hC => ?_)
    replace he := bS_go he est7
    refine lv_goto (pc := 163) (tgt := 386) hx hb d_M_plan_163 (by decide) ?_
    exact B386 _ _ _ st7   hC (lv_sub hl [] rfl) he
  replace he := if_no he h6
  by_cases h8 : v1 = 7
  · replace he := if_go he h8
    refine lv_tableIn (pc := 1) (tgt := 166) hx hb d_M_plan_1 (by rw [h8]; decide) (by rw [h8]; decide) (by rw [h8]; rfl) (by decide) ?_
    exact B166 _ _ _ st   hC (lv_sub hl [0] rfl) he
  replace he := if_no he h8
  by_cases h9 : v1 = 8
  · replace he := if_go he h9
    refine lv_tableIn (pc := 1) (tgt := 181) hx hb d_M_plan_1 (by rw [h9]; decide) (by rw [h9]; decide) (by rw [h9]; rfl) (by decide) ?_
    refine lv_aload_n (pc := 181) hx hb d_M_plan_181 rfl (lv_at hl 0 rfl) ?_
    refine lv_aload_n (pc := 182) hx hb d_M_plan_182 rfl (lv_at hl 0 rfl) ?_
    refine callIO (q0 := 4) (pc := 183) (As := []) (rest := [.ref (g.model)]) X (k_M_half l g cs o st ) hC (NM_M_half_170 X rfl rfl ⟨by decide, by decide⟩) rfl rfl rfl hl.1 (Nat.le_of_ble_eq_true rfl) rfl d_M_plan_183 ⟨Nat.zero_le _, Nat.zero_le _⟩ (fun r11 st10 H locs est10 hC => ?_)
    replace he := bP_go he est10
    refine callVO (q0 := 4) (pc := 186) (As := [.int r11]) (rest := []) X (k_M_reads l g cs o st10 r11) hC (NM_M_reads_166 X rfl rfl ⟨by decide, by decide⟩) rfl rfl rfl hl.1 (Nat.le_of_ble_eq_true rfl) rfl d_M_plan_186 ⟨Nat.zero_le _, Nat.zero_le _⟩ (fun st12 H locs est12 hC => ?_)
    replace he := bS_go he est12
    refine lv_goto (pc := 189) (tgt := 386) hx hb d_M_plan_189 (by decide) ?_
    exact B386 _ _ _ st12   hC (lv_sub hl [] rfl) he
  replace he := if_no he h9
  by_cases h13 : v1 = 9
  · replace he := if_go he h13
    refine lv_tableIn (pc := 1) (tgt := 192) hx hb d_M_plan_1 (by rw [h13]; decide) (by rw [h13]; decide) (by rw [h13]; rfl) (by decide) ?_
    refine lv_aload_n (pc := 192) hx hb d_M_plan_192 rfl (lv_at hl 0 rfl) ?_
    refine lv_aload_n (pc := 193) hx hb d_M_plan_193 rfl (lv_at hl 0 rfl) ?_
    refine GM_mode (pc := 194) X hC d_M_plan_194 ?_
    refine lv_iconst (pc := 197) (v := 5) hx hb d_M_plan_197 (by decide) ?_
    refine lv_icmp_ne (pc := 198) (tgt := 217) hx hb d_M_plan_198 (by decide) (fun h14 => ?_) (fun h14 => ?_)
    · replace he := if_no he h14
      refine lv_aload_n (pc := 217) hx hb d_M_plan_217 rfl (lv_at hl 0 rfl) ?_
      refine GM_z (pc := 218) X hC d_M_plan_218 ?_
      exact B221 _ _ _ st (st.1 16)  hC (lv_sub hl [] rfl) he
    replace he := if_go he h14
    refine lv_aload_n (pc := 201) hx hb d_M_plan_201 rfl (lv_at hl 0 rfl) ?_
    refine GM_z (pc := 202) X hC d_M_plan_202 ?_
    refine lv_aload_n (pc := 205) hx hb d_M_plan_205 rfl (lv_at hl 0 rfl) ?_
    refine GM_x (pc := 206) X hC d_M_plan_206 ?_
    refine lv_iadd (pc := 209) hx hb d_M_plan_209 ?_
    refine lv_sipush (pc := 210) (v := 255) hx hb d_M_plan_210 (by decide) ?_
    refine lv_iand (pc := 213) hx hb d_M_plan_213 ?_
    refine lv_goto (pc := 214) (tgt := 221) hx hb d_M_plan_214 (by decide) ?_
    exact B221 _ _ _ st (((st.1 16) + (st.1 1)) &&& 255)  hC (lv_sub hl [] rfl) he
  replace he := if_no he h13
  by_cases h15 : v1 = 10
  · replace he := if_go he h15
    refine lv_tableIn (pc := 1) (tgt := 227) hx hb d_M_plan_1 (by rw [h15]; decide) (by rw [h15]; decide) (by rw [h15]; rfl) (by decide) ?_
    refine lv_aload_n (pc := 227) hx hb d_M_plan_227 rfl (lv_at hl 0 rfl) ?_
    refine lv_aload_n (pc := 228) hx hb d_M_plan_228 rfl (lv_at hl 0 rfl) ?_
    refine GM_mode (pc := 229) X hC d_M_plan_229 ?_
    refine lv_iconst (pc := 232) (v := 5) hx hb d_M_plan_232 (by decide) ?_
    refine lv_icmp_ne (pc := 233) (tgt := 254) hx hb d_M_plan_233 (by decide) (fun h16 => ?_) (fun h16 => ?_)
    · replace he := if_no he h16
      refine lv_aload_n (pc := 254) hx hb d_M_plan_254 rfl (lv_at hl 0 rfl) ?_
      refine GM_z (pc := 255) X hC d_M_plan_255 ?_
      refine lv_iconst (pc := 258) (v := 1) hx hb d_M_plan_258 (by decide) ?_
      refine lv_iadd (pc := 259) hx hb d_M_plan_259 ?_
      refine lv_sipush (pc := 260) (v := 255) hx hb d_M_plan_260 (by decide) ?_
      refine lv_iand (pc := 263) hx hb d_M_plan_263 ?_
      exact B264 _ _ _ st (((st.1 16) + 1) &&& 255)  hC (lv_sub hl [] rfl) he
    replace he := if_go he h16
    refine lv_aload_n (pc := 236) hx hb d_M_plan_236 rfl (lv_at hl 0 rfl) ?_
    refine GM_z (pc := 237) X hC d_M_plan_237 ?_
    refine lv_aload_n (pc := 240) hx hb d_M_plan_240 rfl (lv_at hl 0 rfl) ?_
    refine GM_x (pc := 241) X hC d_M_plan_241 ?_
    refine lv_iadd (pc := 244) hx hb d_M_plan_244 ?_
    refine lv_iconst (pc := 245) (v := 1) hx hb d_M_plan_245 (by decide) ?_
    refine lv_iadd (pc := 246) hx hb d_M_plan_246 ?_
    refine lv_sipush (pc := 247) (v := 255) hx hb d_M_plan_247 (by decide) ?_
    refine lv_iand (pc := 250) hx hb d_M_plan_250 ?_
    refine lv_goto (pc := 251) (tgt := 264) hx hb d_M_plan_251 (by decide) ?_
    exact B264 _ _ _ st ((((st.1 16) + (st.1 1)) + 1) &&& 255)  hC (lv_sub hl [] rfl) he
  replace he := if_no he h15
  by_cases h17 : v1 = 11
  · replace he := if_go he h17
    refine lv_tableIn (pc := 1) (tgt := 270) hx hb d_M_plan_1 (by rw [h17]; decide) (by rw [h17]; decide) (by rw [h17]; rfl) (by decide) ?_
    exact B270 _ _ _ st   hC (lv_sub hl [0] rfl) he
  replace he := if_no he h17
  by_cases h18 : v1 = 12
  · replace he := if_go he h18
    refine lv_tableIn (pc := 1) (tgt := 381) hx hb d_M_plan_1 (by rw [h18]; decide) (by rw [h18]; decide) (by rw [h18]; rfl) (by decide) ?_
    exact B381 _ _ _ st v1  hC (lv_sub hl [0, 1] rfl) he
  replace he := if_no he h18
  by_cases h19 : v1 = 13
  · replace he := if_go he h19
    refine lv_tableIn (pc := 1) (tgt := 270) hx hb d_M_plan_1 (by rw [h19]; decide) (by rw [h19]; decide) (by rw [h19]; rfl) (by decide) ?_
    exact B270 _ _ _ st   hC (lv_sub hl [0] rfl) he
  replace he := if_no he h19
  by_cases h20 : v1 = 14
  · replace he := if_go he h20
    refine lv_tableIn (pc := 1) (tgt := 381) hx hb d_M_plan_1 (by rw [h20]; decide) (by rw [h20]; decide) (by rw [h20]; rfl) (by decide) ?_
    exact B381 _ _ _ st v1  hC (lv_sub hl [0, 1] rfl) he
  replace he := if_no he h20
  by_cases h21 : v1 = 15
  · replace he := if_go he h21
    refine lv_tableIn (pc := 1) (tgt := 381) hx hb d_M_plan_1 (by rw [h21]; decide) (by rw [h21]; decide) (by rw [h21]; rfl) (by decide) ?_
    exact B381 _ _ _ st v1  hC (lv_sub hl [0, 1] rfl) he
  replace he := if_no he h21
  by_cases h22 : v1 = 16
  · replace he := if_go he h22
    refine lv_tableIn (pc := 1) (tgt := 381) hx hb d_M_plan_1 (by rw [h22]; decide) (by rw [h22]; decide) (by rw [h22]; rfl) (by decide) ?_
    exact B381 _ _ _ st v1  hC (lv_sub hl [0, 1] rfl) he
  replace he := if_no he h22
  by_cases h23 : v1 = 17
  · replace he := if_go he h23
    refine lv_tableIn (pc := 1) (tgt := 381) hx hb d_M_plan_1 (by rw [h23]; decide) (by rw [h23]; decide) (by rw [h23]; rfl) (by decide) ?_
    exact B381 _ _ _ st v1  hC (lv_sub hl [0, 1] rfl) he
  replace he := if_no he h23
  by_cases h24 : v1 = 18
  · replace he := if_go he h24
    refine lv_tableIn (pc := 1) (tgt := 381) hx hb d_M_plan_1 (by rw [h24]; decide) (by rw [h24]; decide) (by rw [h24]; rfl) (by decide) ?_
    exact B381 _ _ _ st v1  hC (lv_sub hl [0, 1] rfl) he
  replace he := if_no he h24
  by_cases h25 : v1 = 19
  · replace he := if_go he h25
    refine lv_tableIn (pc := 1) (tgt := 381) hx hb d_M_plan_1 (by rw [h25]; decide) (by rw [h25]; decide) (by rw [h25]; rfl) (by decide) ?_
    exact B381 _ _ _ st v1  hC (lv_sub hl [0, 1] rfl) he
  replace he := if_no he h25
  by_cases h26 : v1 = 20
  · replace he := if_go he h26
    refine lv_tableIn (pc := 1) (tgt := 381) hx hb d_M_plan_1 (by rw [h26]; decide) (by rw [h26]; decide) (by rw [h26]; rfl) (by decide) ?_
    exact B381 _ _ _ st v1  hC (lv_sub hl [0, 1] rfl) he
  replace he := if_no he h26
  by_cases h27 : v1 = 21
  · replace he := if_go he h27
    refine lv_tableIn (pc := 1) (tgt := 281) hx hb d_M_plan_1 (by rw [h27]; decide) (by rw [h27]; decide) (by rw [h27]; rfl) (by decide) ?_
    exact B281 _ _ _ st   hC (lv_sub hl [0] rfl) he
  replace he := if_no he h27
  by_cases h28 : v1 = 22
  · replace he := if_go he h28
    refine lv_tableIn (pc := 1) (tgt := 281) hx hb d_M_plan_1 (by rw [h28]; decide) (by rw [h28]; decide) (by rw [h28]; rfl) (by decide) ?_
    exact B281 _ _ _ st   hC (lv_sub hl [0] rfl) he
  replace he := if_no he h28
  by_cases h29 : v1 = 23
  · replace he := if_go he h29
    refine lv_tableIn (pc := 1) (tgt := 281) hx hb d_M_plan_1 (by rw [h29]; decide) (by rw [h29]; decide) (by rw [h29]; rfl) (by decide) ?_
    exact B281 _ _ _ st   hC (lv_sub hl [0] rfl) he
  replace he := if_no he h29
  by_cases h30 : v1 = 24
  · replace he := if_go he h30
    refine lv_tableIn (pc := 1) (tgt := 281) hx hb d_M_plan_1 (by rw [h30]; decide) (by rw [h30]; decide) (by rw [h30]; rfl) (by decide) ?_
    exact B281 _ _ _ st   hC (lv_sub hl [0] rfl) he
  replace he := if_no he h30
  by_cases h31 : v1 = 25
  · replace he := if_go he h31
    refine lv_tableIn (pc := 1) (tgt := 144) hx hb d_M_plan_1 (by rw [h31]; decide) (by rw [h31]; decide) (by rw [h31]; rfl) (by decide) ?_
    exact B144 _ _ _ st   hC (lv_sub hl [0] rfl) he
  replace he := if_no he h31
  by_cases h32 : v1 = 26
  · replace he := if_go he h32
    refine lv_tableIn (pc := 1) (tgt := 144) hx hb d_M_plan_1 (by rw [h32]; decide) (by rw [h32]; decide) (by rw [h32]; rfl) (by decide) ?_
    exact B144 _ _ _ st   hC (lv_sub hl [0] rfl) he
  replace he := if_no he h32
  by_cases h33 : v1 = 27
  · replace he := if_go he h33
    refine lv_tableIn (pc := 1) (tgt := 144) hx hb d_M_plan_1 (by rw [h33]; decide) (by rw [h33]; decide) (by rw [h33]; rfl) (by decide) ?_
    exact B144 _ _ _ st   hC (lv_sub hl [0] rfl) he
  replace he := if_no he h33
  by_cases h34 : v1 = 28
  · replace he := if_go he h34
    refine lv_tableIn (pc := 1) (tgt := 302) hx hb d_M_plan_1 (by rw [h34]; decide) (by rw [h34]; decide) (by rw [h34]; rfl) (by decide) ?_
    refine lv_aload_n (pc := 302) hx hb d_M_plan_302 rfl (lv_at hl 0 rfl) ?_
    refine lv_aload_n (pc := 303) hx hb d_M_plan_303 rfl (lv_at hl 0 rfl) ?_
    refine GM_going (pc := 304) X hC d_M_plan_304 ?_
    refine lv_iconst (pc := 307) (v := 2) hx hb d_M_plan_307 (by decide) ?_
    refine lv_icmp_ne (pc := 308) (tgt := 316) hx hb d_M_plan_308 (by decide) (fun h35 => ?_) (fun h35 => ?_)
    · replace he := if_no he h35
      refine lv_aload_n (pc := 316) hx hb d_M_plan_316 rfl (lv_at hl 0 rfl) ?_
      refine GM_wanted (pc := 317) X hC d_M_plan_317 ?_
      refine lv_if_eq (pc := 320) (tgt := 328) hx hb d_M_plan_320 (by decide) (fun h36 => ?_) (fun h36 => ?_)
      · replace he := if_go he h36
        refine LM_175 (pc := 328) X d_M_plan_328 ?_
        exact B330 _ _ _ st 65534  hC (lv_sub hl [] rfl) he
      replace he := if_no he h36
      refine LM_174 (pc := 323) X d_M_plan_323 ?_
      refine lv_goto (pc := 325) (tgt := 330) hx hb d_M_plan_325 (by decide) ?_
      exact B330 _ _ _ st 65530  hC (lv_sub hl [] rfl) he
    replace he := if_go he h35
    refine LM_173 (pc := 311) X d_M_plan_311 ?_
    refine lv_goto (pc := 313) (tgt := 330) hx hb d_M_plan_313 (by decide) ?_
    exact B330 _ _ _ st 65532  hC (lv_sub hl [] rfl) he
  replace he := if_no he h34
  by_cases h37 : v1 = 29
  · replace he := if_go he h37
    refine lv_tableIn (pc := 1) (tgt := 336) hx hb d_M_plan_1 (by rw [h37]; decide) (by rw [h37]; decide) (by rw [h37]; rfl) (by decide) ?_
    refine lv_aload_n (pc := 336) hx hb d_M_plan_336 rfl (lv_at hl 0 rfl) ?_
    refine lv_aload_n (pc := 337) hx hb d_M_plan_337 rfl (lv_at hl 0 rfl) ?_
    refine GM_vector (pc := 338) X hC d_M_plan_338 ?_
    refine lv_iconst (pc := 341) (v := 1) hx hb d_M_plan_341 (by decide) ?_
    refine lv_iadd (pc := 342) hx hb d_M_plan_342 ?_
    refine callVO (q0 := 4) (pc := 343) (As := [.int ((st.1 19) + 1)]) (rest := []) X (k_M_reads l g cs o st ((st.1 19) + 1)) hC (NM_M_reads_166 X rfl rfl ⟨by decide, by decide⟩) rfl rfl rfl hl.1 (Nat.le_of_ble_eq_true rfl) rfl d_M_plan_343 ⟨Nat.zero_le _, Nat.zero_le _⟩ (fun st38 H locs est38 hC => ?_)
    replace he := bS_go he est38
    refine lv_goto (pc := 346) (tgt := 386) hx hb d_M_plan_346 (by decide) ?_
    exact B386 _ _ _ st38   hC (lv_sub hl [] rfl) he
  replace he := if_no he h37
  by_cases h39 : v1 = 30
  · replace he := if_go he h39
    refine lv_tableIn (pc := 1) (tgt := 166) hx hb d_M_plan_1 (by rw [h39]; decide) (by rw [h39]; decide) (by rw [h39]; rfl) (by decide) ?_
    exact B166 _ _ _ st   hC (lv_sub hl [0] rfl) he
  replace he := if_no he h39
  by_cases h40 : v1 = 31
  · replace he := if_go he h40
    refine lv_tableIn (pc := 1) (tgt := 349) hx hb d_M_plan_1 (by rw [h40]; decide) (by rw [h40]; decide) (by rw [h40]; rfl) (by decide) ?_
    refine lv_aload_n (pc := 349) hx hb d_M_plan_349 rfl (lv_at hl 0 rfl) ?_
    refine lv_aload_n (pc := 350) hx hb d_M_plan_350 rfl (lv_at hl 0 rfl) ?_
    refine GM_pc (pc := 351) X hC d_M_plan_351 ?_
    refine LM_179 (pc := 354) X d_M_plan_354 ?_
    refine lv_iand (pc := 356) hx hb d_M_plan_356 ?_
    refine lv_aload_n (pc := 357) hx hb d_M_plan_357 rfl (lv_at hl 0 rfl) ?_
    refine callIO (q0 := 4) (pc := 358) (As := []) (rest := [.int ((st.1 4) &&& 65280), .ref (g.model)]) X (k_M_target l g cs o st ) hC (NM_M_target_115 X rfl rfl ⟨by decide, by decide⟩) rfl rfl rfl hl.1 (Nat.le_of_ble_eq_true rfl) rfl d_M_plan_358 ⟨Nat.zero_le _, Nat.zero_le _⟩ (fun r42 st41 H locs est41 hC => ?_)
    replace he := bP_go he est41
    refine lv_sipush (pc := 361) (v := 255) hx hb d_M_plan_361 (by decide) ?_
    refine lv_iand (pc := 364) hx hb d_M_plan_364 ?_
    refine lv_ior (pc := 365) hx hb d_M_plan_365 ?_
    refine callVO (q0 := 4) (pc := 366) (As := [.int (((st.1 4) &&& 65280) ||| (r42 &&& 255))]) (rest := []) X (k_M_reads l g cs o st41 (((st.1 4) &&& 65280) ||| (r42 &&& 255))) hC (NM_M_reads_166 X rfl rfl ⟨by decide, by decide⟩) rfl rfl rfl hl.1 (Nat.le_of_ble_eq_true rfl) rfl d_M_plan_366 ⟨Nat.zero_le _, Nat.zero_le _⟩ (fun st43 H locs est43 hC => ?_)
    replace he := bS_go he est43
    refine lv_goto (pc := 369) (tgt := 386) hx hb d_M_plan_369 (by decide) ?_
    exact B386 _ _ _ st43   hC (lv_sub hl [] rfl) he
  replace he := if_no he h40
  by_cases h44 : v1 = 32
  · replace he := if_go he h44
    refine lv_tableIn (pc := 1) (tgt := 372) hx hb d_M_plan_1 (by rw [h44]; decide) (by rw [h44]; decide) (by rw [h44]; rfl) (by decide) ?_
    refine lv_aload_n (pc := 372) hx hb d_M_plan_372 rfl (lv_at hl 0 rfl) ?_
    refine LM_71 (pc := 373) X d_M_plan_373 ?_
    refine callVO (q0 := 4) (pc := 375) (As := [.int 65535]) (rest := []) X (k_M_reads l g cs o st 65535) hC (NM_M_reads_166 X rfl rfl ⟨by decide, by decide⟩) rfl rfl rfl hl.1 (Nat.le_of_ble_eq_true rfl) rfl d_M_plan_375 ⟨Nat.zero_le _, Nat.zero_le _⟩ (fun st45 H locs est45 hC => ?_)
    replace he := bS_go he est45
    refine lv_goto (pc := 378) (tgt := 386) hx hb d_M_plan_378 (by decide) ?_
    exact B386 _ _ _ st45   hC (lv_sub hl [] rfl) he
  replace he := if_no he h44
  refine lv_tableOut (pc := 1) (tgt := 381) hx hb d_M_plan_1 (by have nh1 := lv_neT (a := 1) h1 (by decide); have nh2 := lv_neT (a := 2) h2 (by decide); have nh3 := lv_neT (a := 3) h3 (by decide); have nh4 := lv_neT (a := 4) h4 (by decide); have nh5 := lv_neT (a := 5) h5 (by decide); have nh6 := lv_neT (a := 6) h6 (by decide); have nh8 := lv_neT (a := 7) h8 (by decide); have nh9 := lv_neT (a := 8) h9 (by decide); have nh13 := lv_neT (a := 9) h13 (by decide); have nh15 := lv_neT (a := 10) h15 (by decide); have nh17 := lv_neT (a := 11) h17 (by decide); have nh18 := lv_neT (a := 12) h18 (by decide); have nh19 := lv_neT (a := 13) h19 (by decide); have nh20 := lv_neT (a := 14) h20 (by decide); have nh21 := lv_neT (a := 15) h21 (by decide); have nh22 := lv_neT (a := 16) h22 (by decide); have nh23 := lv_neT (a := 17) h23 (by decide); have nh24 := lv_neT (a := 18) h24 (by decide); have nh25 := lv_neT (a := 19) h25 (by decide); have nh26 := lv_neT (a := 20) h26 (by decide); have nh27 := lv_neT (a := 21) h27 (by decide); have nh28 := lv_neT (a := 22) h28 (by decide); have nh29 := lv_neT (a := 23) h29 (by decide); have nh30 := lv_neT (a := 24) h30 (by decide); have nh31 := lv_neT (a := 25) h31 (by decide); have nh32 := lv_neT (a := 26) h32 (by decide); have nh33 := lv_neT (a := 27) h33 (by decide); have nh34 := lv_neT (a := 28) h34 (by decide); have nh37 := lv_neT (a := 29) h37 (by decide); have nh39 := lv_neT (a := 30) h39 (by decide); have nh40 := lv_neT (a := 31) h40 (by decide); have nh44 := lv_neT (a := 32) h44 (by decide); omega) (by decide) ?_
  exact B381 _ _ _ st v1  hC (lv_sub hl [0, 1] rfl) he
def f_M_next (st : MS)  : MS := bS (tV st 4 (((st.1 4) + 1) &&& 65535)) (fun st1 => st1)
abbrev rm_M_next : Room := { frames := 0, cells := 0, slots := 0, locals := 0 }
set_option maxHeartbeats 4000000 in
set_option maxRecDepth 100000 in
theorem k_M_next (l : Launch) (g : CG) (cs : CS) (o : Nat → Int64) (st : MS)  : KV l g y_M_next (Cond.code y_M_next c_M_next 1 none :: ALL) rm_M_next [.ref (g.model)] (wM g cs o) st (f_M_next st ) := by
  refine KV.ofW (by decide) (Nat.le_of_ble_eq_true rfl) ?_
  intro p e s m args below meth c A Q ls Rv X he RET hC hl
  obtain ⟨hx, hb⟩ := FX_xb X
  have hl : lv_has ls 1 [(0, .ref (g.model))] := hl
  unfold f_M_next at he
  refine lv_aload_n (pc := 0) hx hb d_M_next_0 rfl (lv_at hl 0 rfl) ?_
  refine lv_aload_n (pc := 1) hx hb d_M_next_1 rfl (lv_at hl 0 rfl) ?_
  refine GM_pc (pc := 2) X hC d_M_next_2 ?_
  refine lv_iconst (pc := 5) (v := 1) hx hb d_M_next_5 (by decide) ?_
  refine lv_iadd (pc := 6) hx hb d_M_next_6 ?_
  refine LM_71 (pc := 7) X d_M_next_7 ?_
  refine lv_iand (pc := 9) hx hb d_M_next_9 ?_
  refine PM_pc (pc := 10) X hC d_M_next_10 (fun st1 H locs est1 hC => ?_)
  replace he := bS_go he est1
  exact RET (pc := 13) d_M_next_13 hC he
def f_M_isJam_143 (st : MS) (s0 : Int32) : Int32 × MS := (s0, st)
def f_M_isJam_142 (st : MS)  : Int32 × MS := f_M_isJam_143 st 0
def f_M_isJam_138 (st : MS)  : Int32 × MS := f_M_isJam_143 st 1
def f_M_isJam_130 (st : MS)  : Int32 × MS := if (st.1 15) = 3 then (f_M_isJam_142 st ) else (f_M_isJam_138 st )
def f_M_isJam_112 (st : MS)  : Int32 × MS := if (st.1 14) = 24 then (f_M_isJam_130 st ) else (if (st.1 14) = 25 then (f_M_isJam_130 st ) else (f_M_isJam_138 st ))
def f_M_isJam_86 (st : MS) (s0 : Int32) : Int32 × MS := (s0, st)
def f_M_isJam_85 (st : MS)  : Int32 × MS := f_M_isJam_86 st 0
def f_M_isJam_81 (st : MS)  : Int32 × MS := f_M_isJam_86 st 1
def f_M_isJam_53 (st : MS) (s0 : Int32) : Int32 × MS := if s0 = 0 then (bP (f_M_isChange st ) (fun r11 st10 => if r11 = 0 then (f_M_isJam_85 st10 ) else (if (st10.1 15) < 1 then (f_M_isJam_81 st10 ) else (if (st10.1 15) ≤ 4 then (f_M_isJam_85 st10 ) else (f_M_isJam_81 st10 ))))) else (f_M_isJam_81 st )
def f_M_isJam_52 (st : MS)  : Int32 × MS := f_M_isJam_53 st 0
def f_M_isJam_23 (st : MS) (s0 : Int32) : Int32 × MS := (s0, st)
def f_M_isJam (st : MS)  : Int32 × MS := if (st.1 15) = 7 then (if (st.1 14) ≤ 22 then (f_M_isJam_23 st 0) else (f_M_isJam_23 st 1)) else (if 14 ≤ (st.1 14) then (if (st.1 14) < 16 then (f_M_isJam_112 st ) else (if 23 < (st.1 14) then (f_M_isJam_112 st ) else (if (st.1 15) = 0 then (f_M_isJam_142 st ) else (f_M_isJam_112 st )))) else (if (st.1 14) = 1 then (if (st.1 15) = 0 then (f_M_isJam_53 st 1) else (f_M_isJam_52 st )) else (f_M_isJam_52 st )))
abbrev rm_M_isJam : Room := { frames := 1, cells := 0, slots := 0, locals := 20 }
set_option maxHeartbeats 4000000 in
set_option maxRecDepth 100000 in
theorem k_M_isJam (l : Launch) (g : CG) (cs : CS) (o : Nat → Int64) (st : MS)  : KZ l g y_M_isJam (Cond.code y_M_isJam c_M_isJam 2 (some .boolean) :: ALL) rm_M_isJam [.ref (g.model)] (wM g cs o) st (f_M_isJam st ) := by
  refine KZ.ofW (by decide) (Nat.le_of_ble_eq_true rfl) ?_
  intro p e s m args below meth c A Q ls Rv X he RET hC hl
  obtain ⟨hx, hb⟩ := FX_xb X
  have hl : lv_has ls 2 [(0, .ref (g.model))] := hl
  have B143 : ∀ (H : Heap) (locs : List Loc) (ls : Array Slot) (st : MS) (s0 : Int32) (hs0 : s0 = 0 ∨ s0 = 1), HC g A s (wM g cs o st) H locs → lv_has ls 2 [] → f_M_isJam_143 st s0 = Rv → W p l e rm_M_isJam s m args below meth c H locs 0 0 Q (F0 m 143 ls [.int s0]) := by
    intro H locs ls st s0 hs0 hC hl he
    unfold f_M_isJam_143 at he
    exact RET (pc := 143) d_M_isJam_143 hs0 hC he
  have B142 : ∀ (H : Heap) (locs : List Loc) (ls : Array Slot) (st : MS) , HC g A s (wM g cs o st) H locs → lv_has ls 2 [] → f_M_isJam_142 st  = Rv → W p l e rm_M_isJam s m args below meth c H locs 0 0 Q (F0 m 142 ls []) := by
    intro H locs ls st   hC hl he
    unfold f_M_isJam_142 at he
    refine lv_iconst (pc := 142) (v := 0) hx hb d_M_isJam_142 (by decide) ?_
    exact B143 _ _ _ st 0 b0 hC (lv_sub hl [] rfl) he
  have B138 : ∀ (H : Heap) (locs : List Loc) (ls : Array Slot) (st : MS) , HC g A s (wM g cs o st) H locs → lv_has ls 2 [] → f_M_isJam_138 st  = Rv → W p l e rm_M_isJam s m args below meth c H locs 0 0 Q (F0 m 138 ls []) := by
    intro H locs ls st   hC hl he
    unfold f_M_isJam_138 at he
    refine lv_iconst (pc := 138) (v := 1) hx hb d_M_isJam_138 (by decide) ?_
    refine lv_goto (pc := 139) (tgt := 143) hx hb d_M_isJam_139 (by decide) ?_
    exact B143 _ _ _ st 1 b1 hC (lv_sub hl [] rfl) he
  have B130 : ∀ (H : Heap) (locs : List Loc) (ls : Array Slot) (st : MS) , HC g A s (wM g cs o st) H locs → lv_has ls 2 [(0, .ref (g.model))] → f_M_isJam_130 st  = Rv → W p l e rm_M_isJam s m args below meth c H locs 0 0 Q (F0 m 130 ls []) := by
    intro H locs ls st   hC hl he
    unfold f_M_isJam_130 at he
    refine lv_aload_n (pc := 130) hx hb d_M_isJam_130 rfl (lv_at hl 0 rfl) ?_
    refine GM_mode (pc := 131) X hC d_M_isJam_131 ?_
    refine lv_iconst (pc := 134) (v := 3) hx hb d_M_isJam_134 (by decide) ?_
    refine lv_icmp_eq (pc := 135) (tgt := 142) hx hb d_M_isJam_135 (by decide) (fun h17 => ?_) (fun h17 => ?_)
    · replace he := if_go he h17
      exact B142 _ _ _ st   hC (lv_sub hl [] rfl) he
    replace he := if_no he h17
    exact B138 _ _ _ st   hC (lv_sub hl [] rfl) he
  have B112 : ∀ (H : Heap) (locs : List Loc) (ls : Array Slot) (st : MS) , HC g A s (wM g cs o st) H locs → lv_has ls 2 [(0, .ref (g.model))] → f_M_isJam_112 st  = Rv → W p l e rm_M_isJam s m args below meth c H locs 0 0 Q (F0 m 112 ls []) := by
    intro H locs ls st   hC hl he
    unfold f_M_isJam_112 at he
    refine lv_aload_n (pc := 112) hx hb d_M_isJam_112 rfl (lv_at hl 0 rfl) ?_
    refine GM_operation (pc := 113) X hC d_M_isJam_113 ?_
    refine lv_bipush (pc := 116) (v := 24) hx hb d_M_isJam_116 (by decide) ?_
    refine lv_icmp_eq (pc := 118) (tgt := 130) hx hb d_M_isJam_118 (by decide) (fun h15 => ?_) (fun h15 => ?_)
    · replace he := if_go he h15
      exact B130 _ _ _ st   hC (lv_sub hl [0] rfl) he
    replace he := if_no he h15
    refine lv_aload_n (pc := 121) hx hb d_M_isJam_121 rfl (lv_at hl 0 rfl) ?_
    refine GM_operation (pc := 122) X hC d_M_isJam_122 ?_
    refine lv_bipush (pc := 125) (v := 25) hx hb d_M_isJam_125 (by decide) ?_
    refine lv_icmp_ne (pc := 127) (tgt := 138) hx hb d_M_isJam_127 (by decide) (fun h16 => ?_) (fun h16 => ?_)
    · replace he := if_no he h16
      exact B138 _ _ _ st   hC (lv_sub hl [] rfl) he
    replace he := if_go he h16
    exact B130 _ _ _ st   hC (lv_sub hl [0] rfl) he
  have B86 : ∀ (H : Heap) (locs : List Loc) (ls : Array Slot) (st : MS) (s0 : Int32) (hs0 : s0 = 0 ∨ s0 = 1), HC g A s (wM g cs o st) H locs → lv_has ls 2 [] → f_M_isJam_86 st s0 = Rv → W p l e rm_M_isJam s m args below meth c H locs 0 0 Q (F0 m 86 ls [.int s0]) := by
    intro H locs ls st s0 hs0 hC hl he
    unfold f_M_isJam_86 at he
    exact RET (pc := 86) d_M_isJam_86 hs0 hC he
  have B85 : ∀ (H : Heap) (locs : List Loc) (ls : Array Slot) (st : MS) , HC g A s (wM g cs o st) H locs → lv_has ls 2 [] → f_M_isJam_85 st  = Rv → W p l e rm_M_isJam s m args below meth c H locs 0 0 Q (F0 m 85 ls []) := by
    intro H locs ls st   hC hl he
    unfold f_M_isJam_85 at he
    refine lv_iconst (pc := 85) (v := 0) hx hb d_M_isJam_85 (by decide) ?_
    exact B86 _ _ _ st 0 b0 hC (lv_sub hl [] rfl) he
  have B81 : ∀ (H : Heap) (locs : List Loc) (ls : Array Slot) (st : MS) , HC g A s (wM g cs o st) H locs → lv_has ls 2 [] → f_M_isJam_81 st  = Rv → W p l e rm_M_isJam s m args below meth c H locs 0 0 Q (F0 m 81 ls []) := by
    intro H locs ls st   hC hl he
    unfold f_M_isJam_81 at he
    refine lv_iconst (pc := 81) (v := 1) hx hb d_M_isJam_81 (by decide) ?_
    refine lv_goto (pc := 82) (tgt := 86) hx hb d_M_isJam_82 (by decide) ?_
    exact B86 _ _ _ st 1 b1 hC (lv_sub hl [] rfl) he
  have B53 : ∀ (H : Heap) (locs : List Loc) (ls : Array Slot) (st : MS) (s0 : Int32) (hs0 : s0 = 0 ∨ s0 = 1), HC g A s (wM g cs o st) H locs → lv_has ls 2 [(0, .ref (g.model))] → f_M_isJam_53 st s0 = Rv → W p l e rm_M_isJam s m args below meth c H locs 0 0 Q (F0 m 53 ls [.int s0]) := by
    intro H locs ls st s0 hs0 hC hl he
    unfold f_M_isJam_53 at he
    refine lv_istore_n (pc := 53) (nL := 2) (lv' := [(1, .int s0), (0, .ref (g.model))]) hx hb d_M_isJam_53 rfl hl (by decide) rfl (fun ls hl => ?_)
    refine lv_iload_n (pc := 54) hx hb d_M_isJam_54 rfl (lv_at hl 0 rfl) ?_
    refine lv_if_ne (pc := 55) (tgt := 81) hx hb d_M_isJam_55 (by decide) (fun h9 => ?_) (fun h9 => ?_)
    · replace he := if_no he h9
      exact B81 _ _ _ st   hC (lv_sub hl [] rfl) he
    replace he := if_go he h9
    refine lv_aload_n (pc := 58) hx hb d_M_isJam_58 rfl (lv_at hl 1 rfl) ?_
    refine callZO (q0 := 4) (pc := 59) (As := []) (rest := []) X (k_M_isChange l g cs o st ) hC (NM_M_isChange_55 X rfl rfl ⟨by decide, by decide⟩) rfl rfl rfl hl.1 (Nat.le_of_ble_eq_true rfl) rfl d_M_isJam_59 ⟨Nat.zero_le _, Nat.zero_le _⟩ (fun r11 st10 H locs est10 br11 hC => ?_)
    replace he := bP_go he est10
    refine lv_if_eq (pc := 62) (tgt := 85) hx hb d_M_isJam_62 (by decide) (fun h12 => ?_) (fun h12 => ?_)
    · replace he := if_go he h12
      exact B85 _ _ _ st10   hC (lv_sub hl [] rfl) he
    replace he := if_no he h12
    refine lv_aload_n (pc := 65) hx hb d_M_isJam_65 rfl (lv_at hl 1 rfl) ?_
    refine GM_mode (pc := 66) X hC d_M_isJam_66 ?_
    refine lv_iconst (pc := 69) (v := 1) hx hb d_M_isJam_69 (by decide) ?_
    refine lv_icmp_lt (pc := 70) (tgt := 81) hx hb d_M_isJam_70 (by decide) (fun h13 => ?_) (fun h13 => ?_)
    · replace he := if_go he h13
      exact B81 _ _ _ st10   hC (lv_sub hl [] rfl) he
    replace he := if_no he h13
    refine lv_aload_n (pc := 73) hx hb d_M_isJam_73 rfl (lv_at hl 1 rfl) ?_
    refine GM_mode (pc := 74) X hC d_M_isJam_74 ?_
    refine lv_iconst (pc := 77) (v := 4) hx hb d_M_isJam_77 (by decide) ?_
    refine lv_icmp_le (pc := 78) (tgt := 85) hx hb d_M_isJam_78 (by decide) (fun h14 => ?_) (fun h14 => ?_)
    · replace he := if_go he h14
      exact B85 _ _ _ st10   hC (lv_sub hl [] rfl) he
    replace he := if_no he h14
    exact B81 _ _ _ st10   hC (lv_sub hl [] rfl) he
  have B52 : ∀ (H : Heap) (locs : List Loc) (ls : Array Slot) (st : MS) , HC g A s (wM g cs o st) H locs → lv_has ls 2 [(0, .ref (g.model))] → f_M_isJam_52 st  = Rv → W p l e rm_M_isJam s m args below meth c H locs 0 0 Q (F0 m 52 ls []) := by
    intro H locs ls st   hC hl he
    unfold f_M_isJam_52 at he
    refine lv_iconst (pc := 52) (v := 0) hx hb d_M_isJam_52 (by decide) ?_
    exact B53 _ _ _ st 0 b0 hC (lv_sub hl [0] rfl) he
  have B23 : ∀ (H : Heap) (locs : List Loc) (ls : Array Slot) (st : MS) (s0 : Int32) (hs0 : s0 = 0 ∨ s0 = 1), HC g A s (wM g cs o st) H locs → lv_has ls 2 [] → f_M_isJam_23 st s0 = Rv → W p l e rm_M_isJam s m args below meth c H locs 0 0 Q (F0 m 23 ls [.int s0]) := by
    intro H locs ls st s0 hs0 hC hl he
    unfold f_M_isJam_23 at he
    exact RET (pc := 23) d_M_isJam_23 hs0 hC he
  unfold f_M_isJam at he
  refine lv_aload_n (pc := 0) hx hb d_M_isJam_0 rfl (lv_at hl 0 rfl) ?_
  refine GM_mode (pc := 1) X hC d_M_isJam_1 ?_
  refine lv_bipush (pc := 4) (v := 7) hx hb d_M_isJam_4 (by decide) ?_
  refine lv_icmp_ne (pc := 6) (tgt := 24) hx hb d_M_isJam_6 (by decide) (fun h1 => ?_) (fun h1 => ?_)
  · replace he := if_no he h1
    refine lv_aload_n (pc := 24) hx hb d_M_isJam_24 rfl (lv_at hl 0 rfl) ?_
    refine GM_operation (pc := 25) X hC d_M_isJam_25 ?_
    refine lv_bipush (pc := 28) (v := 14) hx hb d_M_isJam_28 (by decide) ?_
    refine lv_icmp_ge (pc := 30) (tgt := 87) hx hb d_M_isJam_30 (by decide) (fun h2 => ?_) (fun h2 => ?_)
    · replace he := if_go he h2
      refine lv_aload_n (pc := 87) hx hb d_M_isJam_87 rfl (lv_at hl 0 rfl) ?_
      refine GM_operation (pc := 88) X hC d_M_isJam_88 ?_
      refine lv_bipush (pc := 91) (v := 16) hx hb d_M_isJam_91 (by decide) ?_
      refine lv_icmp_lt (pc := 93) (tgt := 112) hx hb d_M_isJam_93 (by decide) (fun h3 => ?_) (fun h3 => ?_)
      · replace he := if_go he h3
        exact B112 _ _ _ st   hC (lv_sub hl [0] rfl) he
      replace he := if_no he h3
      refine lv_aload_n (pc := 96) hx hb d_M_isJam_96 rfl (lv_at hl 0 rfl) ?_
      refine GM_operation (pc := 97) X hC d_M_isJam_97 ?_
      refine lv_bipush (pc := 100) (v := 23) hx hb d_M_isJam_100 (by decide) ?_
      refine lv_icmp_gt (pc := 102) (tgt := 112) hx hb d_M_isJam_102 (by decide) (fun h4 => ?_) (fun h4 => ?_)
      · replace he := if_go he h4
        exact B112 _ _ _ st   hC (lv_sub hl [0] rfl) he
      replace he := if_no he h4
      refine lv_aload_n (pc := 105) hx hb d_M_isJam_105 rfl (lv_at hl 0 rfl) ?_
      refine GM_mode (pc := 106) X hC d_M_isJam_106 ?_
      refine lv_if_eq (pc := 109) (tgt := 142) hx hb d_M_isJam_109 (by decide) (fun h5 => ?_) (fun h5 => ?_)
      · replace he := if_go he h5
        exact B142 _ _ _ st   hC (lv_sub hl [] rfl) he
      replace he := if_no he h5
      exact B112 _ _ _ st   hC (lv_sub hl [0] rfl) he
    replace he := if_no he h2
    refine lv_aload_n (pc := 33) hx hb d_M_isJam_33 rfl (lv_at hl 0 rfl) ?_
    refine GM_operation (pc := 34) X hC d_M_isJam_34 ?_
    refine lv_iconst (pc := 37) (v := 1) hx hb d_M_isJam_37 (by decide) ?_
    refine lv_icmp_ne (pc := 38) (tgt := 52) hx hb d_M_isJam_38 (by decide) (fun h6 => ?_) (fun h6 => ?_)
    · replace he := if_no he h6
      exact B52 _ _ _ st   hC (lv_sub hl [0] rfl) he
    replace he := if_go he h6
    refine lv_aload_n (pc := 41) hx hb d_M_isJam_41 rfl (lv_at hl 0 rfl) ?_
    refine GM_mode (pc := 42) X hC d_M_isJam_42 ?_
    refine lv_if_ne (pc := 45) (tgt := 52) hx hb d_M_isJam_45 (by decide) (fun h7 => ?_) (fun h7 => ?_)
    · replace he := if_no he h7
      exact B52 _ _ _ st   hC (lv_sub hl [0] rfl) he
    replace he := if_go he h7
    refine lv_iconst (pc := 48) (v := 1) hx hb d_M_isJam_48 (by decide) ?_
    refine lv_goto (pc := 49) (tgt := 53) hx hb d_M_isJam_49 (by decide) ?_
    exact B53 _ _ _ st 1 b1 hC (lv_sub hl [0] rfl) he
  replace he := if_go he h1
  refine lv_aload_n (pc := 9) hx hb d_M_isJam_9 rfl (lv_at hl 0 rfl) ?_
  refine GM_operation (pc := 10) X hC d_M_isJam_10 ?_
  refine lv_bipush (pc := 13) (v := 22) hx hb d_M_isJam_13 (by decide) ?_
  refine lv_icmp_le (pc := 15) (tgt := 22) hx hb d_M_isJam_15 (by decide) (fun h8 => ?_) (fun h8 => ?_)
  · replace he := if_go he h8
    refine lv_iconst (pc := 22) (v := 0) hx hb d_M_isJam_22 (by decide) ?_
    exact B23 _ _ _ st 0 b0 hC (lv_sub hl [] rfl) he
  replace he := if_no he h8
  refine lv_iconst (pc := 18) (v := 1) hx hb d_M_isJam_18 (by decide) ?_
  refine lv_goto (pc := 19) (tgt := 23) hx hb d_M_isJam_19 (by decide) ?_
  exact B23 _ _ _ st 1 b1 hC (lv_sub hl [] rfl) he
def f_M_is_14 (st : MS) (s0 : Int32) : Int32 × MS := (s0, st)
def f_M_is (st : MS) (v1 : Int32) : Int32 × MS := if ((st.1 5) &&& v1) = 0 then (f_M_is_14 st 0) else (f_M_is_14 st 1)
abbrev rm_M_is : Room := { frames := 0, cells := 0, slots := 0, locals := 0 }
set_option maxHeartbeats 4000000 in
set_option maxRecDepth 100000 in
theorem k_M_is (l : Launch) (g : CG) (cs : CS) (o : Nat → Int64) (st : MS) (v1 : Int32) : KZ l g y_M_is (Cond.code y_M_is c_M_is 2 (some .boolean) :: ALL) rm_M_is [.ref (g.model), .int v1] (wM g cs o) st (f_M_is st v1) := by
  refine KZ.ofW (by decide) (Nat.le_of_ble_eq_true rfl) ?_
  intro p e s m args below meth c A Q ls Rv X he RET hC hl
  obtain ⟨hx, hb⟩ := FX_xb X
  have hl : lv_has ls 2 [(0, .ref (g.model)), (1, .int v1)] := hl
  have B14 : ∀ (H : Heap) (locs : List Loc) (ls : Array Slot) (st : MS) (s0 : Int32) (hs0 : s0 = 0 ∨ s0 = 1), HC g A s (wM g cs o st) H locs → lv_has ls 2 [] → f_M_is_14 st s0 = Rv → W p l e rm_M_is s m args below meth c H locs 0 0 Q (F0 m 14 ls [.int s0]) := by
    intro H locs ls st s0 hs0 hC hl he
    unfold f_M_is_14 at he
    exact RET (pc := 14) d_M_is_14 hs0 hC he
  unfold f_M_is at he
  refine lv_aload_n (pc := 0) hx hb d_M_is_0 rfl (lv_at hl 0 rfl) ?_
  refine GM_flags (pc := 1) X hC d_M_is_1 ?_
  refine lv_iload_n (pc := 4) hx hb d_M_is_4 rfl (lv_at hl 1 rfl) ?_
  refine lv_iand (pc := 5) hx hb d_M_is_5 ?_
  refine lv_if_eq (pc := 6) (tgt := 13) hx hb d_M_is_6 (by decide) (fun h1 => ?_) (fun h1 => ?_)
  · replace he := if_go he h1
    refine lv_iconst (pc := 13) (v := 0) hx hb d_M_is_13 (by decide) ?_
    exact B14 _ _ _ st 0 b0 hC (lv_sub hl [] rfl) he
  replace he := if_no he h1
  refine lv_iconst (pc := 9) (v := 1) hx hb d_M_is_9 (by decide) ?_
  refine lv_goto (pc := 10) (tgt := 14) hx hb d_M_is_10 (by decide) ?_
  exact B14 _ _ _ st 1 b1 hC (lv_sub hl [] rfl) he
def f_M_isTaken_66 (st : MS) (s0 : Int32) : Int32 × MS := (s0, st)
def f_M_isTaken_58 (st : MS) (s0 : Int32) (s1 : Int32) : Int32 × MS := if s1 = s0 then (f_M_isTaken_66 st 1) else (f_M_isTaken_66 st 0)
def f_M_isTaken_40 (st : MS) (v1 : Int32) (s0 : Int32) : Int32 × MS := bP (f_M_is st s0) (fun r6 st5 => if (v1 - v1 / 2 * 2) = 1 then (f_M_isTaken_58 st5 1 r6) else (f_M_isTaken_58 st5 0 r6))
def f_M_isTaken (st : MS)  : Int32 × MS := bS (((st.1 14) - 16) : Int32) (fun y1 => if 2 ≤ y1 then (if 4 ≤ y1 then (if 6 ≤ y1 then (f_M_isTaken_40 st y1 2) else (f_M_isTaken_40 st y1 1)) else (f_M_isTaken_40 st y1 64)) else (f_M_isTaken_40 st y1 128))
abbrev rm_M_isTaken : Room := { frames := 1, cells := 0, slots := 0, locals := 21 }
set_option maxHeartbeats 4000000 in
set_option maxRecDepth 100000 in
theorem k_M_isTaken (l : Launch) (g : CG) (cs : CS) (o : Nat → Int64) (st : MS)  : KZ l g y_M_isTaken (Cond.code y_M_isTaken c_M_isTaken 3 (some .boolean) :: ALL) rm_M_isTaken [.ref (g.model)] (wM g cs o) st (f_M_isTaken st ) := by
  refine KZ.ofW (by decide) (Nat.le_of_ble_eq_true rfl) ?_
  intro p e s m args below meth c A Q ls Rv X he RET hC hl
  obtain ⟨hx, hb⟩ := FX_xb X
  have hl : lv_has ls 3 [(0, .ref (g.model))] := hl
  have B66 : ∀ (H : Heap) (locs : List Loc) (ls : Array Slot) (st : MS) (s0 : Int32) (hs0 : s0 = 0 ∨ s0 = 1), HC g A s (wM g cs o st) H locs → lv_has ls 3 [] → f_M_isTaken_66 st s0 = Rv → W p l e rm_M_isTaken s m args below meth c H locs 0 0 Q (F0 m 66 ls [.int s0]) := by
    intro H locs ls st s0 hs0 hC hl he
    unfold f_M_isTaken_66 at he
    exact RET (pc := 66) d_M_isTaken_66 hs0 hC he
  have B58 : ∀ (H : Heap) (locs : List Loc) (ls : Array Slot) (st : MS) (s0 : Int32) (s1 : Int32) (hs0 : s0 = 0 ∨ s0 = 1) (hs1 : s1 = 0 ∨ s1 = 1), HC g A s (wM g cs o st) H locs → lv_has ls 3 [] → f_M_isTaken_58 st s0 s1 = Rv → W p l e rm_M_isTaken s m args below meth c H locs 0 0 Q (F0 m 58 ls [.int s0, .int s1]) := by
    intro H locs ls st s0 s1 hs0 hs1 hC hl he
    unfold f_M_isTaken_58 at he
    refine lv_icmp_ne (pc := 58) (tgt := 65) hx hb d_M_isTaken_58 (by decide) (fun h8 => ?_) (fun h8 => ?_)
    · replace he := if_no he h8
      refine lv_iconst (pc := 65) (v := 0) hx hb d_M_isTaken_65 (by decide) ?_
      exact B66 _ _ _ st 0 b0 hC (lv_sub hl [] rfl) he
    replace he := if_go he h8
    refine lv_iconst (pc := 61) (v := 1) hx hb d_M_isTaken_61 (by decide) ?_
    refine lv_goto (pc := 62) (tgt := 66) hx hb d_M_isTaken_62 (by decide) ?_
    exact B66 _ _ _ st 1 b1 hC (lv_sub hl [] rfl) he
  have B40 : ∀ (H : Heap) (locs : List Loc) (ls : Array Slot) (st : MS) (v1 : Int32) (s0 : Int32), HC g A s (wM g cs o st) H locs → lv_has ls 3 [(0, .ref (g.model)), (1, .int v1)] → f_M_isTaken_40 st v1 s0 = Rv → W p l e rm_M_isTaken s m args below meth c H locs 0 0 Q (F0 m 40 ls [.int s0]) := by
    intro H locs ls st v1 s0  hC hl he
    unfold f_M_isTaken_40 at he
    refine lv_istore_n (pc := 40) (nL := 3) (lv' := [(2, .int s0), (0, .ref (g.model)), (1, .int v1)]) hx hb d_M_isTaken_40 rfl hl (by decide) rfl (fun ls hl => ?_)
    refine lv_aload_n (pc := 41) hx hb d_M_isTaken_41 rfl (lv_at hl 1 rfl) ?_
    refine lv_iload_n (pc := 42) hx hb d_M_isTaken_42 rfl (lv_at hl 0 rfl) ?_
    refine callZO (q0 := 4) (pc := 43) (As := [.int s0]) (rest := []) X (k_M_is l g cs o st s0) hC (NM_M_is_82 X rfl rfl ⟨by decide, by decide⟩) rfl rfl rfl hl.1 (Nat.le_of_ble_eq_true rfl) rfl d_M_isTaken_43 ⟨Nat.zero_le _, Nat.zero_le _⟩ (fun r6 st5 H locs est5 br6 hC => ?_)
    replace he := bP_go he est5
    refine lv_iload_n (pc := 46) hx hb d_M_isTaken_46 rfl (lv_at hl 2 rfl) ?_
    refine lv_iconst (pc := 47) (v := 2) hx hb d_M_isTaken_47 (by decide) ?_
    refine lv_irem (pc := 48) hx hb d_M_isTaken_48 (by decide) ?_
    refine lv_iconst (pc := 49) (v := 1) hx hb d_M_isTaken_49 (by decide) ?_
    refine lv_icmp_ne (pc := 50) (tgt := 57) hx hb d_M_isTaken_50 (by decide) (fun h7 => ?_) (fun h7 => ?_)
    · replace he := if_no he h7
      refine lv_iconst (pc := 57) (v := 0) hx hb d_M_isTaken_57 (by decide) ?_
      exact B58 _ _ _ st5 0 r6 b0 br6 hC (lv_sub hl [] rfl) he
    replace he := if_go he h7
    refine lv_iconst (pc := 53) (v := 1) hx hb d_M_isTaken_53 (by decide) ?_
    refine lv_goto (pc := 54) (tgt := 58) hx hb d_M_isTaken_54 (by decide) ?_
    exact B58 _ _ _ st5 1 r6 b1 br6 hC (lv_sub hl [] rfl) he
  unfold f_M_isTaken at he
  refine lv_aload_n (pc := 0) hx hb d_M_isTaken_0 rfl (lv_at hl 0 rfl) ?_
  refine GM_operation (pc := 1) X hC d_M_isTaken_1 ?_
  refine lv_bipush (pc := 4) (v := 16) hx hb d_M_isTaken_4 (by decide) ?_
  refine lv_isub (pc := 6) hx hb d_M_isTaken_6 ?_
  refine lv_topi (fun y1 ey1 => ?_)
  replace he := bS_go he ey1.symm
  refine lv_istore_n (pc := 7) (nL := 3) (lv' := [(1, .int y1), (0, .ref (g.model))]) hx hb d_M_isTaken_7 rfl hl (by decide) rfl (fun ls hl => ?_)
  refine lv_iload_n (pc := 8) hx hb d_M_isTaken_8 rfl (lv_at hl 0 rfl) ?_
  refine lv_iconst (pc := 9) (v := 2) hx hb d_M_isTaken_9 (by decide) ?_
  refine lv_icmp_ge (pc := 10) (tgt := 19) hx hb d_M_isTaken_10 (by decide) (fun h2 => ?_) (fun h2 => ?_)
  · replace he := if_go he h2
    refine lv_iload_n (pc := 19) hx hb d_M_isTaken_19 rfl (lv_at hl 0 rfl) ?_
    refine lv_iconst (pc := 20) (v := 4) hx hb d_M_isTaken_20 (by decide) ?_
    refine lv_icmp_ge (pc := 21) (tgt := 29) hx hb d_M_isTaken_21 (by decide) (fun h3 => ?_) (fun h3 => ?_)
    · replace he := if_go he h3
      refine lv_iload_n (pc := 29) hx hb d_M_isTaken_29 rfl (lv_at hl 0 rfl) ?_
      refine lv_bipush (pc := 30) (v := 6) hx hb d_M_isTaken_30 (by decide) ?_
      refine lv_icmp_ge (pc := 32) (tgt := 39) hx hb d_M_isTaken_32 (by decide) (fun h4 => ?_) (fun h4 => ?_)
      · replace he := if_go he h4
        refine lv_iconst (pc := 39) (v := 2) hx hb d_M_isTaken_39 (by decide) ?_
        exact B40 _ _ _ st y1 2  hC (lv_sub hl [1, 0] rfl) he
      replace he := if_no he h4
      refine lv_iconst (pc := 35) (v := 1) hx hb d_M_isTaken_35 (by decide) ?_
      refine lv_goto (pc := 36) (tgt := 40) hx hb d_M_isTaken_36 (by decide) ?_
      exact B40 _ _ _ st y1 1  hC (lv_sub hl [1, 0] rfl) he
    replace he := if_no he h3
    refine lv_bipush (pc := 24) (v := 64) hx hb d_M_isTaken_24 (by decide) ?_
    refine lv_goto (pc := 26) (tgt := 40) hx hb d_M_isTaken_26 (by decide) ?_
    exact B40 _ _ _ st y1 64  hC (lv_sub hl [1, 0] rfl) he
  replace he := if_no he h2
  refine lv_sipush (pc := 13) (v := 128) hx hb d_M_isTaken_13 (by decide) ?_
  refine lv_goto (pc := 16) (tgt := 40) hx hb d_M_isTaken_16 (by decide) ?_
  exact B40 _ _ _ st y1 128  hC (lv_sub hl [1, 0] rfl) he
def f_M_isHalf_55 (st : MS) (s0 : Int32) : Int32 × MS := (s0, st)
def f_M_isHalf_50 (st : MS)  : Int32 × MS := f_M_isHalf_55 st 1
def f_M_isHalf_21 (st : MS)  : Int32 × MS := if (st.1 14) = 1 then (f_M_isHalf_50 st ) else (bP (f_M_isChange st ) (fun r5 st4 => if r5 = 0 then (bP (f_M_operand st4 ) (fun r8 st7 => if (r8 >>> ((8 : Int32) &&& 31)) = (st7.1 17) then (f_M_isHalf_55 st7 0) else (f_M_isHalf_50 st7 ))) else (f_M_isHalf_50 st4 )))
def f_M_isHalf (st : MS)  : Int32 × MS := if (st.1 15) = 4 then (f_M_isHalf_21 st ) else (if (st.1 15) = 6 then (f_M_isHalf_21 st ) else (f_M_isHalf_55 st 0))
abbrev rm_M_isHalf : Room := { frames := 1, cells := 0, slots := 0, locals := 20 }
set_option maxHeartbeats 4000000 in
set_option maxRecDepth 100000 in
theorem k_M_isHalf (l : Launch) (g : CG) (cs : CS) (o : Nat → Int64) (st : MS)  : KZ l g y_M_isHalf (Cond.code y_M_isHalf c_M_isHalf 1 (some .boolean) :: ALL) rm_M_isHalf [.ref (g.model)] (wM g cs o) st (f_M_isHalf st ) := by
  refine KZ.ofW (by decide) (Nat.le_of_ble_eq_true rfl) ?_
  intro p e s m args below meth c A Q ls Rv X he RET hC hl
  obtain ⟨hx, hb⟩ := FX_xb X
  have hl : lv_has ls 1 [(0, .ref (g.model))] := hl
  have B55 : ∀ (H : Heap) (locs : List Loc) (ls : Array Slot) (st : MS) (s0 : Int32) (hs0 : s0 = 0 ∨ s0 = 1), HC g A s (wM g cs o st) H locs → lv_has ls 1 [] → f_M_isHalf_55 st s0 = Rv → W p l e rm_M_isHalf s m args below meth c H locs 0 0 Q (F0 m 55 ls [.int s0]) := by
    intro H locs ls st s0 hs0 hC hl he
    unfold f_M_isHalf_55 at he
    exact RET (pc := 55) d_M_isHalf_55 hs0 hC he
  have B50 : ∀ (H : Heap) (locs : List Loc) (ls : Array Slot) (st : MS) , HC g A s (wM g cs o st) H locs → lv_has ls 1 [] → f_M_isHalf_50 st  = Rv → W p l e rm_M_isHalf s m args below meth c H locs 0 0 Q (F0 m 50 ls []) := by
    intro H locs ls st   hC hl he
    unfold f_M_isHalf_50 at he
    refine lv_iconst (pc := 50) (v := 1) hx hb d_M_isHalf_50 (by decide) ?_
    refine lv_goto (pc := 51) (tgt := 55) hx hb d_M_isHalf_51 (by decide) ?_
    exact B55 _ _ _ st 1 b1 hC (lv_sub hl [] rfl) he
  have B21 : ∀ (H : Heap) (locs : List Loc) (ls : Array Slot) (st : MS) , HC g A s (wM g cs o st) H locs → lv_has ls 1 [(0, .ref (g.model))] → f_M_isHalf_21 st  = Rv → W p l e rm_M_isHalf s m args below meth c H locs 0 0 Q (F0 m 21 ls []) := by
    intro H locs ls st   hC hl he
    unfold f_M_isHalf_21 at he
    refine lv_aload_n (pc := 21) hx hb d_M_isHalf_21 rfl (lv_at hl 0 rfl) ?_
    refine GM_operation (pc := 22) X hC d_M_isHalf_22 ?_
    refine lv_iconst (pc := 25) (v := 1) hx hb d_M_isHalf_25 (by decide) ?_
    refine lv_icmp_eq (pc := 26) (tgt := 50) hx hb d_M_isHalf_26 (by decide) (fun h3 => ?_) (fun h3 => ?_)
    · replace he := if_go he h3
      exact B50 _ _ _ st   hC (lv_sub hl [] rfl) he
    replace he := if_no he h3
    refine lv_aload_n (pc := 29) hx hb d_M_isHalf_29 rfl (lv_at hl 0 rfl) ?_
    refine callZO (q0 := 4) (pc := 30) (As := []) (rest := []) X (k_M_isChange l g cs o st ) hC (NM_M_isChange_55 X rfl rfl ⟨by decide, by decide⟩) rfl rfl rfl hl.1 (Nat.le_of_ble_eq_true rfl) rfl d_M_isHalf_30 ⟨Nat.zero_le _, Nat.zero_le _⟩ (fun r5 st4 H locs est4 br5 hC => ?_)
    replace he := bP_go he est4
    refine lv_if_ne (pc := 33) (tgt := 50) hx hb d_M_isHalf_33 (by decide) (fun h6 => ?_) (fun h6 => ?_)
    · replace he := if_no he h6
      exact B50 _ _ _ st4   hC (lv_sub hl [] rfl) he
    replace he := if_go he h6
    refine lv_aload_n (pc := 36) hx hb d_M_isHalf_36 rfl (lv_at hl 0 rfl) ?_
    refine callIO (q0 := 4) (pc := 37) (As := []) (rest := []) X (k_M_operand l g cs o st4 ) hC (NM_M_operand_78 X rfl rfl ⟨by decide, by decide⟩) rfl rfl rfl hl.1 (Nat.le_of_ble_eq_true rfl) rfl d_M_isHalf_37 ⟨Nat.zero_le _, Nat.zero_le _⟩ (fun r8 st7 H locs est7 hC => ?_)
    replace he := bP_go he est7
    refine lv_bipush (pc := 40) (v := 8) hx hb d_M_isHalf_40 (by decide) ?_
    refine lv_ishr (pc := 42) hx hb d_M_isHalf_42 ?_
    refine lv_aload_n (pc := 43) hx hb d_M_isHalf_43 rfl (lv_at hl 0 rfl) ?_
    refine GM_high (pc := 44) X hC d_M_isHalf_44 ?_
    refine lv_icmp_eq (pc := 47) (tgt := 54) hx hb d_M_isHalf_47 (by decide) (fun h9 => ?_) (fun h9 => ?_)
    · replace he := if_go he h9
      refine lv_iconst (pc := 54) (v := 0) hx hb d_M_isHalf_54 (by decide) ?_
      exact B55 _ _ _ st7 0 b0 hC (lv_sub hl [] rfl) he
    replace he := if_no he h9
    exact B50 _ _ _ st7   hC (lv_sub hl [] rfl) he
  unfold f_M_isHalf at he
  refine lv_aload_n (pc := 0) hx hb d_M_isHalf_0 rfl (lv_at hl 0 rfl) ?_
  refine GM_mode (pc := 1) X hC d_M_isHalf_1 ?_
  refine lv_iconst (pc := 4) (v := 4) hx hb d_M_isHalf_4 (by decide) ?_
  refine lv_icmp_eq (pc := 5) (tgt := 21) hx hb d_M_isHalf_5 (by decide) (fun h1 => ?_) (fun h1 => ?_)
  · replace he := if_go he h1
    exact B21 _ _ _ st   hC (lv_sub hl [0] rfl) he
  replace he := if_no he h1
  refine lv_aload_n (pc := 8) hx hb d_M_isHalf_8 rfl (lv_at hl 0 rfl) ?_
  refine GM_mode (pc := 9) X hC d_M_isHalf_9 ?_
  refine lv_bipush (pc := 12) (v := 6) hx hb d_M_isHalf_12 (by decide) ?_
  refine lv_icmp_eq (pc := 14) (tgt := 21) hx hb d_M_isHalf_14 (by decide) (fun h2 => ?_) (fun h2 => ?_)
  · replace he := if_go he h2
    exact B21 _ _ _ st   hC (lv_sub hl [0] rfl) he
  replace he := if_no he h2
  refine lv_iconst (pc := 17) (v := 0) hx hb d_M_isHalf_17 (by decide) ?_
  refine lv_goto (pc := 18) (tgt := 55) hx hb d_M_isHalf_18 (by decide) ?_
  exact B55 _ _ _ st 0 b0 hC (lv_sub hl [] rfl) he
def f_M_put_22 (st : MS) (s0 : Int32) : MS := bS (tV st 5 s0) (fun st2 => st2)
def f_M_put (st : MS) (v1 : Int32) (v2 : Int32) : MS := if v2 = 0 then (f_M_put_22 st ((st.1 5) &&& (v1 ^^^ (-1)))) else (f_M_put_22 st ((st.1 5) ||| v1))
abbrev rm_M_put : Room := { frames := 0, cells := 0, slots := 0, locals := 0 }
set_option maxHeartbeats 4000000 in
set_option maxRecDepth 100000 in
theorem k_M_put (l : Launch) (g : CG) (cs : CS) (o : Nat → Int64) (st : MS) (v1 : Int32) (v2 : Int32) : KV l g y_M_put (Cond.code y_M_put c_M_put 3 none :: ALL) rm_M_put [.ref (g.model), .int v1, .int v2] (wM g cs o) st (f_M_put st v1 v2) := by
  refine KV.ofW (by decide) (Nat.le_of_ble_eq_true rfl) ?_
  intro p e s m args below meth c A Q ls Rv X he RET hC hl
  obtain ⟨hx, hb⟩ := FX_xb X
  have hl : lv_has ls 3 [(0, .ref (g.model)), (1, .int v1), (2, .int v2)] := hl
  have B22 : ∀ (H : Heap) (locs : List Loc) (ls : Array Slot) (st : MS) (s0 : Int32), HC g A s (wM g cs o st) H locs → lv_has ls 3 [] → f_M_put_22 st s0 = Rv → W p l e rm_M_put s m args below meth c H locs 0 0 Q (F0 m 22 ls [.int s0, .ref (g.model)]) := by
    intro H locs ls st s0  hC hl he
    unfold f_M_put_22 at he
    refine PM_flags (pc := 22) X hC d_M_put_22 (fun st2 H locs est2 hC => ?_)
    replace he := bS_go he est2
    exact RET (pc := 25) d_M_put_25 hC he
  unfold f_M_put at he
  refine lv_aload_n (pc := 0) hx hb d_M_put_0 rfl (lv_at hl 0 rfl) ?_
  refine lv_iload_n (pc := 1) hx hb d_M_put_1 rfl (lv_at hl 2 rfl) ?_
  refine lv_if_eq (pc := 2) (tgt := 14) hx hb d_M_put_2 (by decide) (fun h1 => ?_) (fun h1 => ?_)
  · replace he := if_go he h1
    refine lv_aload_n (pc := 14) hx hb d_M_put_14 rfl (lv_at hl 0 rfl) ?_
    refine GM_flags (pc := 15) X hC d_M_put_15 ?_
    refine lv_iload_n (pc := 18) hx hb d_M_put_18 rfl (lv_at hl 1 rfl) ?_
    refine lv_iconst (pc := 19) (v := (-1)) hx hb d_M_put_19 (by decide) ?_
    refine lv_ixor (pc := 20) hx hb d_M_put_20 ?_
    refine lv_iand (pc := 21) hx hb d_M_put_21 ?_
    exact B22 _ _ _ st ((st.1 5) &&& (v1 ^^^ (-1)))  hC (lv_sub hl [] rfl) he
  replace he := if_no he h1
  refine lv_aload_n (pc := 5) hx hb d_M_put_5 rfl (lv_at hl 0 rfl) ?_
  refine GM_flags (pc := 6) X hC d_M_put_6 ?_
  refine lv_iload_n (pc := 9) hx hb d_M_put_9 rfl (lv_at hl 1 rfl) ?_
  refine lv_ior (pc := 10) hx hb d_M_put_10 ?_
  refine lv_goto (pc := 11) (tgt := 22) hx hb d_M_put_11 (by decide) ?_
  exact B22 _ _ _ st ((st.1 5) ||| v1)  hC (lv_sub hl [] rfl) he
def f_M_mark_29 (st : MS) (v1 : Int32) (s0 : Int32) (s1 : Int32) : Int32 × MS := bS (f_M_put st s1 s0) (fun st4 => (v1, st4))
def f_M_mark_15 (st : MS) (v1 : Int32) (s0 : Int32) (s1 : Int32) : Int32 × MS := bS (f_M_put st s1 s0) (fun st2 => if v1 = 0 then (f_M_mark_29 st2 v1 1 2) else (f_M_mark_29 st2 v1 0 2))
def f_M_mark (st : MS) (v1 : Int32) : Int32 × MS := if v1 ≤ 127 then (f_M_mark_15 st v1 0 128) else (f_M_mark_15 st v1 1 128)
abbrev rm_M_mark : Room := { frames := 1, cells := 0, slots := 0, locals := 22 }
set_option maxHeartbeats 4000000 in
set_option maxRecDepth 100000 in
theorem k_M_mark (l : Launch) (g : CG) (cs : CS) (o : Nat → Int64) (st : MS) (v1 : Int32) : KI l g y_M_mark (Cond.code y_M_mark c_M_mark 2 (some .int) :: ALL) rm_M_mark [.ref (g.model), .int v1] (wM g cs o) st (f_M_mark st v1) := by
  refine KI.ofW (by decide) (Nat.le_of_ble_eq_true rfl) ?_
  intro p e s m args below meth c A Q ls Rv X he RET hC hl
  obtain ⟨hx, hb⟩ := FX_xb X
  have hl : lv_has ls 2 [(0, .ref (g.model)), (1, .int v1)] := hl
  have B29 : ∀ (H : Heap) (locs : List Loc) (ls : Array Slot) (st : MS) (v1 : Int32) (s0 : Int32) (s1 : Int32) (hs0 : s0 = 0 ∨ s0 = 1), HC g A s (wM g cs o st) H locs → lv_has ls 2 [(1, .int v1)] → f_M_mark_29 st v1 s0 s1 = Rv → W p l e rm_M_mark s m args below meth c H locs 0 0 Q (F0 m 29 ls [.int s0, .int s1, .ref (g.model)]) := by
    intro H locs ls st v1 s0 s1 hs0 hC hl he
    unfold f_M_mark_29 at he
    refine callVO (q0 := 4) (pc := 29) (As := [.int s1, .int s0]) (rest := []) X (k_M_put l g cs o st s1 s0) hC (NM_M_put_24 X rfl rfl ⟨by decide, by decide⟩) rfl rfl rfl hl.1 (Nat.le_of_ble_eq_true rfl) rfl d_M_mark_29 ⟨Nat.zero_le _, Nat.zero_le _⟩ (fun st4 H locs est4 hC => ?_)
    replace he := bS_go he est4
    refine lv_iload_n (pc := 32) hx hb d_M_mark_32 rfl (lv_at hl 0 rfl) ?_
    exact RET (pc := 33) d_M_mark_33 hC he
  have B15 : ∀ (H : Heap) (locs : List Loc) (ls : Array Slot) (st : MS) (v1 : Int32) (s0 : Int32) (s1 : Int32) (hs0 : s0 = 0 ∨ s0 = 1), HC g A s (wM g cs o st) H locs → lv_has ls 2 [(0, .ref (g.model)), (1, .int v1)] → f_M_mark_15 st v1 s0 s1 = Rv → W p l e rm_M_mark s m args below meth c H locs 0 0 Q (F0 m 15 ls [.int s0, .int s1, .ref (g.model)]) := by
    intro H locs ls st v1 s0 s1 hs0 hC hl he
    unfold f_M_mark_15 at he
    refine callVO (q0 := 4) (pc := 15) (As := [.int s1, .int s0]) (rest := []) X (k_M_put l g cs o st s1 s0) hC (NM_M_put_24 X rfl rfl ⟨by decide, by decide⟩) rfl rfl rfl hl.1 (Nat.le_of_ble_eq_true rfl) rfl d_M_mark_15 ⟨Nat.zero_le _, Nat.zero_le _⟩ (fun st2 H locs est2 hC => ?_)
    replace he := bS_go he est2
    refine lv_aload_n (pc := 18) hx hb d_M_mark_18 rfl (lv_at hl 0 rfl) ?_
    refine lv_iconst (pc := 19) (v := 2) hx hb d_M_mark_19 (by decide) ?_
    refine lv_iload_n (pc := 20) hx hb d_M_mark_20 rfl (lv_at hl 1 rfl) ?_
    refine lv_if_ne (pc := 21) (tgt := 28) hx hb d_M_mark_21 (by decide) (fun h3 => ?_) (fun h3 => ?_)
    · replace he := if_no he h3
      refine lv_iconst (pc := 28) (v := 0) hx hb d_M_mark_28 (by decide) ?_
      exact B29 _ _ _ st2 v1 0 2 b0 hC (lv_sub hl [1] rfl) he
    replace he := if_go he h3
    refine lv_iconst (pc := 24) (v := 1) hx hb d_M_mark_24 (by decide) ?_
    refine lv_goto (pc := 25) (tgt := 29) hx hb d_M_mark_25 (by decide) ?_
    exact B29 _ _ _ st2 v1 1 2 b1 hC (lv_sub hl [1] rfl) he
  unfold f_M_mark at he
  refine lv_aload_n (pc := 0) hx hb d_M_mark_0 rfl (lv_at hl 0 rfl) ?_
  refine lv_sipush (pc := 1) (v := 128) hx hb d_M_mark_1 (by decide) ?_
  refine lv_iload_n (pc := 4) hx hb d_M_mark_4 rfl (lv_at hl 1 rfl) ?_
  refine lv_bipush (pc := 5) (v := 127) hx hb d_M_mark_5 (by decide) ?_
  refine lv_icmp_le (pc := 7) (tgt := 14) hx hb d_M_mark_7 (by decide) (fun h1 => ?_) (fun h1 => ?_)
  · replace he := if_go he h1
    refine lv_iconst (pc := 14) (v := 0) hx hb d_M_mark_14 (by decide) ?_
    exact B15 _ _ _ st v1 0 128 b0 hC (lv_sub hl [0, 1] rfl) he
  replace he := if_no he h1
  refine lv_iconst (pc := 10) (v := 1) hx hb d_M_mark_10 (by decide) ?_
  refine lv_goto (pc := 11) (tgt := 15) hx hb d_M_mark_11 (by decide) ?_
  exact B15 _ _ _ st v1 1 128 b1 hC (lv_sub hl [0, 1] rfl) he

/-! contracts of methods (printed by my own program: pure pictures and walks) -/
def f_R_changed_61 (st : CS) (s0 : Int32) : Int32 × CS := (s0, st)
def f_R_changed (st : CS) (v1 : Int32) (v2 : Int32) : Int32 × CS := if v1 = 10 then (f_R_changed_61 st ((v2 + 1) &&& 255)) else (if v1 = 11 then (f_R_changed_61 st ((v2 - 1) &&& 255)) else (if v1 = 12 then (f_R_changed_61 st ((v2 <<< ((1 : Int32) &&& 31)) &&& 255)) else (f_R_changed_61 st (v2 >>> ((1 : Int32) &&& 31)))))
abbrev rm_R_changed : Room := { frames := 0, cells := 0, slots := 0, locals := 0 }
set_option maxHeartbeats 4000000 in
set_option maxRecDepth 100000 in
theorem k_R_changed (l : Launch) (g : CG) (rt : MS) (o : Nat → Int64) (st : CS) (v1 : Int32) (v2 : Int32) : KI l g y_R_changed (Cond.code y_R_changed c_R_changed 3 (some .int) :: ALL) rm_R_changed [.ref (g.regs), .int v1, .int v2] (wC g rt o) st (f_R_changed st v1 v2) := by
  refine KI.ofW (by decide) (Nat.le_of_ble_eq_true rfl) ?_
  intro p e s m args below meth c A Q ls Rv X he RET hC hl
  obtain ⟨hx, hb⟩ := FX_xb X
  have hl : lv_has ls 3 [(0, .ref (g.regs)), (1, .int v1), (2, .int v2)] := hl
  have B61 : ∀ (H : Heap) (locs : List Loc) (ls : Array Slot) (st : CS) (s0 : Int32), HC g A s (wC g rt o st) H locs → lv_has ls 3 [] → f_R_changed_61 st s0 = Rv → W p l e rm_R_changed s m args below meth c H locs 0 0 Q (F0 m 61 ls [.int s0]) := by
    intro H locs ls st s0  hC hl he
    unfold f_R_changed_61 at he
    exact RET (pc := 61) d_R_changed_61 hC he
  unfold f_R_changed at he
  refine lv_iload_n (pc := 0) hx hb d_R_changed_0 rfl (lv_at hl 1 rfl) ?_
  by_cases h1 : v1 = 10
  · replace he := if_go he h1
    refine lv_tableIn (pc := 1) (tgt := 28) hx hb d_R_changed_1 (by rw [h1]; decide) (by rw [h1]; decide) (by rw [h1]; rfl) (by decide) ?_
    refine lv_iload_n (pc := 28) hx hb d_R_changed_28 rfl (lv_at hl 2 rfl) ?_
    refine lv_iconst (pc := 29) (v := 1) hx hb d_R_changed_29 (by decide) ?_
    refine lv_iadd (pc := 30) hx hb d_R_changed_30 ?_
    refine lv_sipush (pc := 31) (v := 255) hx hb d_R_changed_31 (by decide) ?_
    refine lv_iand (pc := 34) hx hb d_R_changed_34 ?_
    refine lv_goto (pc := 35) (tgt := 61) hx hb d_R_changed_35 (by decide) ?_
    exact B61 _ _ _ st ((v2 + 1) &&& 255)  hC (lv_sub hl [] rfl) he
  replace he := if_no he h1
  by_cases h2 : v1 = 11
  · replace he := if_go he h2
    refine lv_tableIn (pc := 1) (tgt := 38) hx hb d_R_changed_1 (by rw [h2]; decide) (by rw [h2]; decide) (by rw [h2]; rfl) (by decide) ?_
    refine lv_iload_n (pc := 38) hx hb d_R_changed_38 rfl (lv_at hl 2 rfl) ?_
    refine lv_iconst (pc := 39) (v := 1) hx hb d_R_changed_39 (by decide) ?_
    refine lv_isub (pc := 40) hx hb d_R_changed_40 ?_
    refine lv_sipush (pc := 41) (v := 255) hx hb d_R_changed_41 (by decide) ?_
    refine lv_iand (pc := 44) hx hb d_R_changed_44 ?_
    refine lv_goto (pc := 45) (tgt := 61) hx hb d_R_changed_45 (by decide) ?_
    exact B61 _ _ _ st ((v2 - 1) &&& 255)  hC (lv_sub hl [] rfl) he
  replace he := if_no he h2
  by_cases h3 : v1 = 12
  · replace he := if_go he h3
    refine lv_tableIn (pc := 1) (tgt := 48) hx hb d_R_changed_1 (by rw [h3]; decide) (by rw [h3]; decide) (by rw [h3]; rfl) (by decide) ?_
    refine lv_iload_n (pc := 48) hx hb d_R_changed_48 rfl (lv_at hl 2 rfl) ?_
    refine lv_iconst (pc := 49) (v := 1) hx hb d_R_changed_49 (by decide) ?_
    refine lv_ishl (pc := 50) hx hb d_R_changed_50 ?_
    refine lv_sipush (pc := 51) (v := 255) hx hb d_R_changed_51 (by decide) ?_
    refine lv_iand (pc := 54) hx hb d_R_changed_54 ?_
    refine lv_goto (pc := 55) (tgt := 61) hx hb d_R_changed_55 (by decide) ?_
    exact B61 _ _ _ st ((v2 <<< ((1 : Int32) &&& 31)) &&& 255)  hC (lv_sub hl [] rfl) he
  replace he := if_no he h3
  refine lv_tableOut (pc := 1) (tgt := 58) hx hb d_R_changed_1 (by have nh1 := lv_neT (a := 10) h1 (by decide); have nh2 := lv_neT (a := 11) h2 (by decide); have nh3 := lv_neT (a := 12) h3 (by decide); omega) (by decide) ?_
  refine lv_iload_n (pc := 58) hx hb d_R_changed_58 rfl (lv_at hl 2 rfl) ?_
  refine lv_iconst (pc := 59) (v := 1) hx hb d_R_changed_59 (by decide) ?_
  refine lv_ishr (pc := 60) hx hb d_R_changed_60 ?_
  exact B61 _ _ _ st (v2 >>> ((1 : Int32) &&& 31))  hC (lv_sub hl [] rfl) he
def f_R_p (st : CS)  : Int32 × CS := (((st.1 5) + 32), st)
abbrev rm_R_p : Room := { frames := 0, cells := 0, slots := 0, locals := 0 }
set_option maxHeartbeats 4000000 in
set_option maxRecDepth 100000 in
theorem k_R_p (l : Launch) (g : CG) (rt : MS) (o : Nat → Int64) (st : CS)  : KI l g y_R_p (Cond.code y_R_p c_R_p 1 (some .int) :: ALL) rm_R_p [.ref (g.regs)] (wC g rt o) st (f_R_p st ) := by
  refine KI.ofW (by decide) (Nat.le_of_ble_eq_true rfl) ?_
  intro p e s m args below meth c A Q ls Rv X he RET hC hl
  obtain ⟨hx, hb⟩ := FX_xb X
  have hl : lv_has ls 1 [(0, .ref (g.regs))] := hl
  unfold f_R_p at he
  refine lv_aload_n (pc := 0) hx hb d_R_p_0 rfl (lv_at hl 0 rfl) ?_
  refine GR_flags (pc := 1) X hC d_R_p_1 ?_
  refine lv_bipush (pc := 4) (v := 32) hx hb d_R_p_4 (by decide) ?_
  refine lv_iadd (pc := 6) hx hb d_R_p_6 ?_
  exact RET (pc := 7) d_R_p_7 hC he
def f_R_put_22 (st : CS) (s0 : Int32) : CS := bS (sV st 5 s0) (fun st2 => st2)
def f_R_put (st : CS) (v1 : Int32) (v2 : Int32) : CS := if v2 = 0 then (f_R_put_22 st ((st.1 5) &&& (v1 ^^^ (-1)))) else (f_R_put_22 st ((st.1 5) ||| v1))
abbrev rm_R_put : Room := { frames := 0, cells := 0, slots := 0, locals := 0 }
set_option maxHeartbeats 4000000 in
set_option maxRecDepth 100000 in
theorem k_R_put (l : Launch) (g : CG) (rt : MS) (o : Nat → Int64) (st : CS) (v1 : Int32) (v2 : Int32) : KV l g y_R_put (Cond.code y_R_put c_R_put 3 none :: ALL) rm_R_put [.ref (g.regs), .int v1, .int v2] (wC g rt o) st (f_R_put st v1 v2) := by
  refine KV.ofW (by decide) (Nat.le_of_ble_eq_true rfl) ?_
  intro p e s m args below meth c A Q ls Rv X he RET hC hl
  obtain ⟨hx, hb⟩ := FX_xb X
  have hl : lv_has ls 3 [(0, .ref (g.regs)), (1, .int v1), (2, .int v2)] := hl
  have B22 : ∀ (H : Heap) (locs : List Loc) (ls : Array Slot) (st : CS) (s0 : Int32), HC g A s (wC g rt o st) H locs → lv_has ls 3 [] → f_R_put_22 st s0 = Rv → W p l e rm_R_put s m args below meth c H locs 0 0 Q (F0 m 22 ls [.int s0, .ref (g.regs)]) := by
    intro H locs ls st s0  hC hl he
    unfold f_R_put_22 at he
    refine PR_flags (pc := 22) X hC d_R_put_22 (fun st2 H locs est2 hC => ?_)
    replace he := bS_go he est2
    exact RET (pc := 25) d_R_put_25 hC he
  unfold f_R_put at he
  refine lv_aload_n (pc := 0) hx hb d_R_put_0 rfl (lv_at hl 0 rfl) ?_
  refine lv_iload_n (pc := 1) hx hb d_R_put_1 rfl (lv_at hl 2 rfl) ?_
  refine lv_if_eq (pc := 2) (tgt := 14) hx hb d_R_put_2 (by decide) (fun h1 => ?_) (fun h1 => ?_)
  · replace he := if_go he h1
    refine lv_aload_n (pc := 14) hx hb d_R_put_14 rfl (lv_at hl 0 rfl) ?_
    refine GR_flags (pc := 15) X hC d_R_put_15 ?_
    refine lv_iload_n (pc := 18) hx hb d_R_put_18 rfl (lv_at hl 1 rfl) ?_
    refine lv_iconst (pc := 19) (v := (-1)) hx hb d_R_put_19 (by decide) ?_
    refine lv_ixor (pc := 20) hx hb d_R_put_20 ?_
    refine lv_iand (pc := 21) hx hb d_R_put_21 ?_
    exact B22 _ _ _ st ((st.1 5) &&& (v1 ^^^ (-1)))  hC (lv_sub hl [] rfl) he
  replace he := if_no he h1
  refine lv_aload_n (pc := 5) hx hb d_R_put_5 rfl (lv_at hl 0 rfl) ?_
  refine GR_flags (pc := 6) X hC d_R_put_6 ?_
  refine lv_iload_n (pc := 9) hx hb d_R_put_9 rfl (lv_at hl 1 rfl) ?_
  refine lv_ior (pc := 10) hx hb d_R_put_10 ?_
  refine lv_goto (pc := 11) (tgt := 22) hx hb d_R_put_11 (by decide) ?_
  exact B22 _ _ _ st ((st.1 5) ||| v1)  hC (lv_sub hl [] rfl) he
def f_R_putNz_26 (st : CS) (s0 : Int32) (s1 : Int32) : CS := bS (sV st 5 (s1 ||| s0)) (fun st3 => st3)
def f_R_putNz (st : CS) (v1 : Int32) : CS := bS (((st.1 5) &&& (-131)) : Int32) (fun y1 => if v1 = 0 then (f_R_putNz_26 st 2 (y1 ||| (v1 &&& 128))) else (f_R_putNz_26 st 0 (y1 ||| (v1 &&& 128))))
abbrev rm_R_putNz : Room := { frames := 0, cells := 0, slots := 0, locals := 0 }
set_option maxHeartbeats 4000000 in
set_option maxRecDepth 100000 in
theorem k_R_putNz (l : Launch) (g : CG) (rt : MS) (o : Nat → Int64) (st : CS) (v1 : Int32) : KV l g y_R_putNz (Cond.code y_R_putNz c_R_putNz 3 none :: ALL) rm_R_putNz [.ref (g.regs), .int v1] (wC g rt o) st (f_R_putNz st v1) := by
  refine KV.ofW (by decide) (Nat.le_of_ble_eq_true rfl) ?_
  intro p e s m args below meth c A Q ls Rv X he RET hC hl
  obtain ⟨hx, hb⟩ := FX_xb X
  have hl : lv_has ls 3 [(0, .ref (g.regs)), (1, .int v1)] := hl
  have B26 : ∀ (H : Heap) (locs : List Loc) (ls : Array Slot) (st : CS) (s0 : Int32) (s1 : Int32), HC g A s (wC g rt o st) H locs → lv_has ls 3 [] → f_R_putNz_26 st s0 s1 = Rv → W p l e rm_R_putNz s m args below meth c H locs 0 0 Q (F0 m 26 ls [.int s0, .int s1, .ref (g.regs)]) := by
    intro H locs ls st s0 s1  hC hl he
    unfold f_R_putNz_26 at he
    refine lv_ior (pc := 26) hx hb d_R_putNz_26 ?_
    refine PR_flags (pc := 27) X hC d_R_putNz_27 (fun st3 H locs est3 hC => ?_)
    replace he := bS_go he est3
    exact RET (pc := 30) d_R_putNz_30 hC he
  unfold f_R_putNz at he
  refine lv_aload_n (pc := 0) hx hb d_R_putNz_0 rfl (lv_at hl 0 rfl) ?_
  refine GR_flags (pc := 1) X hC d_R_putNz_1 ?_
  refine lv_sipush (pc := 4) (v := (-131)) hx hb d_R_putNz_4 (by decide) ?_
  refine lv_iand (pc := 7) hx hb d_R_putNz_7 ?_
  refine lv_topi (fun y1 ey1 => ?_)
  replace he := bS_go he ey1.symm
  refine lv_istore_n (pc := 8) (nL := 3) (lv' := [(2, .int y1), (0, .ref (g.regs)), (1, .int v1)]) hx hb d_R_putNz_8 rfl hl (by decide) rfl (fun ls hl => ?_)
  refine lv_aload_n (pc := 9) hx hb d_R_putNz_9 rfl (lv_at hl 1 rfl) ?_
  refine lv_iload_n (pc := 10) hx hb d_R_putNz_10 rfl (lv_at hl 0 rfl) ?_
  refine lv_iload_n (pc := 11) hx hb d_R_putNz_11 rfl (lv_at hl 2 rfl) ?_
  refine lv_sipush (pc := 12) (v := 128) hx hb d_R_putNz_12 (by decide) ?_
  refine lv_iand (pc := 15) hx hb d_R_putNz_15 ?_
  refine lv_ior (pc := 16) hx hb d_R_putNz_16 ?_
  refine lv_iload_n (pc := 17) hx hb d_R_putNz_17 rfl (lv_at hl 2 rfl) ?_
  refine lv_if_ne (pc := 18) (tgt := 25) hx hb d_R_putNz_18 (by decide) (fun h2 => ?_) (fun h2 => ?_)
  · replace he := if_no he h2
    refine lv_iconst (pc := 25) (v := 0) hx hb d_R_putNz_25 (by decide) ?_
    exact B26 _ _ _ st 0 (y1 ||| (v1 &&& 128))  hC (lv_sub hl [] rfl) he
  replace he := if_go he h2
  refine lv_iconst (pc := 21) (v := 2) hx hb d_R_putNz_21 (by decide) ?_
  refine lv_goto (pc := 22) (tgt := 26) hx hb d_R_putNz_22 (by decide) ?_
  exact B26 _ _ _ st 2 (y1 ||| (v1 &&& 128))  hC (lv_sub hl [] rfl) he
def f_R_flagsOfChange_49 (st : CS) (v1 : Int32) (v2 : Int32) : CS := bP (f_R_changed st v1 v2) (fun r8 st7 => bS (f_R_putNz st7 r8) (fun st9 => st9))
def f_R_flagsOfChange_46 (st : CS) (v1 : Int32) (v2 : Int32) (s0 : Int32) (s1 : Int32) : CS := bS (f_R_put st s1 s0) (fun st6 => f_R_flagsOfChange_49 st6 v1 v2)
def f_R_flagsOfChange_20 (st : CS) (v1 : Int32) (v2 : Int32) (s0 : Int32) (s1 : Int32) : CS := bS (f_R_put st s1 s0) (fun st5 => f_R_flagsOfChange_49 st5 v1 v2)
def f_R_flagsOfChange (st : CS) (v1 : Int32) (v2 : Int32) : CS := if v1 = 12 then (if v2 < 128 then (f_R_flagsOfChange_20 st v1 v2 0 1) else (f_R_flagsOfChange_20 st v1 v2 1 1)) else (if v1 = 13 then (if (v2 &&& 1) = 1 then (f_R_flagsOfChange_46 st v1 v2 1 1) else (f_R_flagsOfChange_46 st v1 v2 0 1)) else (f_R_flagsOfChange_49 st v1 v2))
abbrev rm_R_flagsOfChange : Room := { frames := 1, cells := 0, slots := 0, locals := 22 }
set_option maxHeartbeats 4000000 in
set_option maxRecDepth 100000 in
theorem k_R_flagsOfChange (l : Launch) (g : CG) (rt : MS) (o : Nat → Int64) (st : CS) (v1 : Int32) (v2 : Int32) : KV l g y_R_flagsOfChange (Cond.code y_R_flagsOfChange c_R_flagsOfChange 3 none :: ALL) rm_R_flagsOfChange [.ref (g.regs), .int v1, .int v2] (wC g rt o) st (f_R_flagsOfChange st v1 v2) := by
  refine KV.ofW (by decide) (Nat.le_of_ble_eq_true rfl) ?_
  intro p e s m args below meth c A Q ls Rv X he RET hC hl
  obtain ⟨hx, hb⟩ := FX_xb X
  have hl : lv_has ls 3 [(0, .ref (g.regs)), (1, .int v1), (2, .int v2)] := hl
  have B49 : ∀ (H : Heap) (locs : List Loc) (ls : Array Slot) (st : CS) (v1 : Int32) (v2 : Int32), HC g A s (wC g rt o st) H locs → lv_has ls 3 [(0, .ref (g.regs)), (1, .int v1), (2, .int v2)] → f_R_flagsOfChange_49 st v1 v2 = Rv → W p l e rm_R_flagsOfChange s m args below meth c H locs 0 0 Q (F0 m 49 ls []) := by
    intro H locs ls st v1 v2  hC hl he
    unfold f_R_flagsOfChange_49 at he
    refine lv_aload_n (pc := 49) hx hb d_R_flagsOfChange_49 rfl (lv_at hl 0 rfl) ?_
    refine lv_aload_n (pc := 50) hx hb d_R_flagsOfChange_50 rfl (lv_at hl 0 rfl) ?_
    refine lv_iload_n (pc := 51) hx hb d_R_flagsOfChange_51 rfl (lv_at hl 1 rfl) ?_
    refine lv_iload_n (pc := 52) hx hb d_R_flagsOfChange_52 rfl (lv_at hl 2 rfl) ?_
    refine callIO (q0 := 3) (pc := 53) (As := [.int v1, .int v2]) (rest := [.ref (g.regs)]) X (k_R_changed l g rt o st v1 v2) hC (NR_R_changed_61 X rfl rfl ⟨by decide, by decide⟩) rfl rfl rfl hl.1 (Nat.le_of_ble_eq_true rfl) rfl d_R_flagsOfChange_53 ⟨Nat.zero_le _, Nat.zero_le _⟩ (fun r8 st7 H locs est7 hC => ?_)
    replace he := bP_go he est7
    refine callVO (q0 := 3) (pc := 56) (As := [.int r8]) (rest := []) X (k_R_putNz l g rt o st7 r8) hC (NR_R_putNz_25 X rfl rfl ⟨by decide, by decide⟩) rfl rfl rfl hl.1 (Nat.le_of_ble_eq_true rfl) rfl d_R_flagsOfChange_56 ⟨Nat.zero_le _, Nat.zero_le _⟩ (fun st9 H locs est9 hC => ?_)
    replace he := bS_go he est9
    exact RET (pc := 59) d_R_flagsOfChange_59 hC he
  have B46 : ∀ (H : Heap) (locs : List Loc) (ls : Array Slot) (st : CS) (v1 : Int32) (v2 : Int32) (s0 : Int32) (s1 : Int32) (hs0 : s0 = 0 ∨ s0 = 1) (hs1 : s1 = 0 ∨ s1 = 1), HC g A s (wC g rt o st) H locs → lv_has ls 3 [(0, .ref (g.regs)), (1, .int v1), (2, .int v2)] → f_R_flagsOfChange_46 st v1 v2 s0 s1 = Rv → W p l e rm_R_flagsOfChange s m args below meth c H locs 0 0 Q (F0 m 46 ls [.int s0, .int s1, .ref (g.regs)]) := by
    intro H locs ls st v1 v2 s0 s1 hs0 hs1 hC hl he
    unfold f_R_flagsOfChange_46 at he
    refine callVO (q0 := 3) (pc := 46) (As := [.int s1, .int s0]) (rest := []) X (k_R_put l g rt o st s1 s0) hC (NR_R_put_57 X rfl rfl ⟨by decide, by decide⟩) rfl rfl rfl hl.1 (Nat.le_of_ble_eq_true rfl) rfl d_R_flagsOfChange_46 ⟨Nat.zero_le _, Nat.zero_le _⟩ (fun st6 H locs est6 hC => ?_)
    replace he := bS_go he est6
    exact B49 _ _ _ st6 v1 v2  hC (lv_sub hl [0, 1, 2] rfl) he
  have B20 : ∀ (H : Heap) (locs : List Loc) (ls : Array Slot) (st : CS) (v1 : Int32) (v2 : Int32) (s0 : Int32) (s1 : Int32) (hs0 : s0 = 0 ∨ s0 = 1) (hs1 : s1 = 0 ∨ s1 = 1), HC g A s (wC g rt o st) H locs → lv_has ls 3 [(0, .ref (g.regs)), (1, .int v1), (2, .int v2)] → f_R_flagsOfChange_20 st v1 v2 s0 s1 = Rv → W p l e rm_R_flagsOfChange s m args below meth c H locs 0 0 Q (F0 m 20 ls [.int s0, .int s1, .ref (g.regs)]) := by
    intro H locs ls st v1 v2 s0 s1 hs0 hs1 hC hl he
    unfold f_R_flagsOfChange_20 at he
    refine callVO (q0 := 3) (pc := 20) (As := [.int s1, .int s0]) (rest := []) X (k_R_put l g rt o st s1 s0) hC (NR_R_put_57 X rfl rfl ⟨by decide, by decide⟩) rfl rfl rfl hl.1 (Nat.le_of_ble_eq_true rfl) rfl d_R_flagsOfChange_20 ⟨Nat.zero_le _, Nat.zero_le _⟩ (fun st5 H locs est5 hC => ?_)
    replace he := bS_go he est5
    refine lv_goto (pc := 23) (tgt := 49) hx hb d_R_flagsOfChange_23 (by decide) ?_
    exact B49 _ _ _ st5 v1 v2  hC (lv_sub hl [0, 1, 2] rfl) he
  unfold f_R_flagsOfChange at he
  refine lv_iload_n (pc := 0) hx hb d_R_flagsOfChange_0 rfl (lv_at hl 1 rfl) ?_
  refine lv_bipush (pc := 1) (v := 12) hx hb d_R_flagsOfChange_1 (by decide) ?_
  refine lv_icmp_ne (pc := 3) (tgt := 26) hx hb d_R_flagsOfChange_3 (by decide) (fun h1 => ?_) (fun h1 => ?_)
  · replace he := if_no he h1
    refine lv_iload_n (pc := 26) hx hb d_R_flagsOfChange_26 rfl (lv_at hl 1 rfl) ?_
    refine lv_bipush (pc := 27) (v := 13) hx hb d_R_flagsOfChange_27 (by decide) ?_
    refine lv_icmp_ne (pc := 29) (tgt := 49) hx hb d_R_flagsOfChange_29 (by decide) (fun h2 => ?_) (fun h2 => ?_)
    · replace he := if_no he h2
      exact B49 _ _ _ st v1 v2  hC (lv_sub hl [0, 1, 2] rfl) he
    replace he := if_go he h2
    refine lv_aload_n (pc := 32) hx hb d_R_flagsOfChange_32 rfl (lv_at hl 0 rfl) ?_
    refine lv_iconst (pc := 33) (v := 1) hx hb d_R_flagsOfChange_33 (by decide) ?_
    refine lv_iload_n (pc := 34) hx hb d_R_flagsOfChange_34 rfl (lv_at hl 2 rfl) ?_
    refine lv_iconst (pc := 35) (v := 1) hx hb d_R_flagsOfChange_35 (by decide) ?_
    refine lv_iand (pc := 36) hx hb d_R_flagsOfChange_36 ?_
    refine lv_iconst (pc := 37) (v := 1) hx hb d_R_flagsOfChange_37 (by decide) ?_
    refine lv_icmp_ne (pc := 38) (tgt := 45) hx hb d_R_flagsOfChange_38 (by decide) (fun h3 => ?_) (fun h3 => ?_)
    · replace he := if_no he h3
      refine lv_iconst (pc := 45) (v := 0) hx hb d_R_flagsOfChange_45 (by decide) ?_
      exact B46 _ _ _ st v1 v2 0 1 b0 b1 hC (lv_sub hl [0, 1, 2] rfl) he
    replace he := if_go he h3
    refine lv_iconst (pc := 41) (v := 1) hx hb d_R_flagsOfChange_41 (by decide) ?_
    refine lv_goto (pc := 42) (tgt := 46) hx hb d_R_flagsOfChange_42 (by decide) ?_
    exact B46 _ _ _ st v1 v2 1 1 b1 b1 hC (lv_sub hl [0, 1, 2] rfl) he
  replace he := if_go he h1
  refine lv_aload_n (pc := 6) hx hb d_R_flagsOfChange_6 rfl (lv_at hl 0 rfl) ?_
  refine lv_iconst (pc := 7) (v := 1) hx hb d_R_flagsOfChange_7 (by decide) ?_
  refine lv_iload_n (pc := 8) hx hb d_R_flagsOfChange_8 rfl (lv_at hl 2 rfl) ?_
  refine lv_sipush (pc := 9) (v := 128) hx hb d_R_flagsOfChange_9 (by decide) ?_
  refine lv_icmp_lt (pc := 12) (tgt := 19) hx hb d_R_flagsOfChange_12 (by decide) (fun h4 => ?_) (fun h4 => ?_)
  · replace he := if_go he h4
    refine lv_iconst (pc := 19) (v := 0) hx hb d_R_flagsOfChange_19 (by decide) ?_
    exact B20 _ _ _ st v1 v2 0 1 b0 b1 hC (lv_sub hl [0, 1, 2] rfl) he
  replace he := if_no he h4
  refine lv_iconst (pc := 15) (v := 1) hx hb d_R_flagsOfChange_15 (by decide) ?_
  refine lv_goto (pc := 16) (tgt := 20) hx hb d_R_flagsOfChange_16 (by decide) ?_
  exact B20 _ _ _ st v1 v2 1 1 b1 b1 hC (lv_sub hl [0, 1, 2] rfl) he
def f_R_has_14 (st : CS) (s0 : Int32) : Int32 × CS := (s0, st)
def f_R_has (st : CS) (v1 : Int32) : Int32 × CS := if ((st.1 5) &&& v1) = 0 then (f_R_has_14 st 0) else (f_R_has_14 st 1)
abbrev rm_R_has : Room := { frames := 0, cells := 0, slots := 0, locals := 0 }
set_option maxHeartbeats 4000000 in
set_option maxRecDepth 100000 in
theorem k_R_has (l : Launch) (g : CG) (rt : MS) (o : Nat → Int64) (st : CS) (v1 : Int32) : KZ l g y_R_has (Cond.code y_R_has c_R_has 2 (some .boolean) :: ALL) rm_R_has [.ref (g.regs), .int v1] (wC g rt o) st (f_R_has st v1) := by
  refine KZ.ofW (by decide) (Nat.le_of_ble_eq_true rfl) ?_
  intro p e s m args below meth c A Q ls Rv X he RET hC hl
  obtain ⟨hx, hb⟩ := FX_xb X
  have hl : lv_has ls 2 [(0, .ref (g.regs)), (1, .int v1)] := hl
  have B14 : ∀ (H : Heap) (locs : List Loc) (ls : Array Slot) (st : CS) (s0 : Int32) (hs0 : s0 = 0 ∨ s0 = 1), HC g A s (wC g rt o st) H locs → lv_has ls 2 [] → f_R_has_14 st s0 = Rv → W p l e rm_R_has s m args below meth c H locs 0 0 Q (F0 m 14 ls [.int s0]) := by
    intro H locs ls st s0 hs0 hC hl he
    unfold f_R_has_14 at he
    exact RET (pc := 14) d_R_has_14 hs0 hC he
  unfold f_R_has at he
  refine lv_aload_n (pc := 0) hx hb d_R_has_0 rfl (lv_at hl 0 rfl) ?_
  refine GR_flags (pc := 1) X hC d_R_has_1 ?_
  refine lv_iload_n (pc := 4) hx hb d_R_has_4 rfl (lv_at hl 1 rfl) ?_
  refine lv_iand (pc := 5) hx hb d_R_has_5 ?_
  refine lv_if_eq (pc := 6) (tgt := 13) hx hb d_R_has_6 (by decide) (fun h1 => ?_) (fun h1 => ?_)
  · replace he := if_go he h1
    refine lv_iconst (pc := 13) (v := 0) hx hb d_R_has_13 (by decide) ?_
    exact B14 _ _ _ st 0 b0 hC (lv_sub hl [] rfl) he
  replace he := if_no he h1
  refine lv_iconst (pc := 9) (v := 1) hx hb d_R_has_9 (by decide) ?_
  refine lv_goto (pc := 10) (tgt := 14) hx hb d_R_has_10 (by decide) ?_
  exact B14 _ _ _ st 1 b1 hC (lv_sub hl [] rfl) he
def f_R_moveStack (st : CS) (v1 : Int32) : CS := bS (sV st 3 (((st.1 3) + v1) &&& 255)) (fun st1 => st1)
abbrev rm_R_moveStack : Room := { frames := 0, cells := 0, slots := 0, locals := 0 }
set_option maxHeartbeats 4000000 in
set_option maxRecDepth 100000 in
theorem k_R_moveStack (l : Launch) (g : CG) (rt : MS) (o : Nat → Int64) (st : CS) (v1 : Int32) : KV l g y_R_moveStack (Cond.code y_R_moveStack c_R_moveStack 2 none :: ALL) rm_R_moveStack [.ref (g.regs), .int v1] (wC g rt o) st (f_R_moveStack st v1) := by
  refine KV.ofW (by decide) (Nat.le_of_ble_eq_true rfl) ?_
  intro p e s m args below meth c A Q ls Rv X he RET hC hl
  obtain ⟨hx, hb⟩ := FX_xb X
  have hl : lv_has ls 2 [(0, .ref (g.regs)), (1, .int v1)] := hl
  unfold f_R_moveStack at he
  refine lv_aload_n (pc := 0) hx hb d_R_moveStack_0 rfl (lv_at hl 0 rfl) ?_
  refine lv_aload_n (pc := 1) hx hb d_R_moveStack_1 rfl (lv_at hl 0 rfl) ?_
  refine GR_s (pc := 2) X hC d_R_moveStack_2 ?_
  refine lv_iload_n (pc := 5) hx hb d_R_moveStack_5 rfl (lv_at hl 1 rfl) ?_
  refine lv_iadd (pc := 6) hx hb d_R_moveStack_6 ?_
  refine lv_sipush (pc := 7) (v := 255) hx hb d_R_moveStack_7 (by decide) ?_
  refine lv_iand (pc := 10) hx hb d_R_moveStack_10 ?_
  refine PR_s (pc := 11) X hC d_R_moveStack_11 (fun st1 H locs est1 hC => ?_)
  replace he := bS_go he est1
  exact RET (pc := 14) d_R_moveStack_14 hC he
def f_R_nextPc (st : CS)  : CS := bS (sV st 4 (((st.1 4) + 1) &&& 65535)) (fun st1 => st1)
abbrev rm_R_nextPc : Room := { frames := 0, cells := 0, slots := 0, locals := 0 }
set_option maxHeartbeats 4000000 in
set_option maxRecDepth 100000 in
theorem k_R_nextPc (l : Launch) (g : CG) (rt : MS) (o : Nat → Int64) (st : CS)  : KV l g y_R_nextPc (Cond.code y_R_nextPc c_R_nextPc 1 none :: ALL) rm_R_nextPc [.ref (g.regs)] (wC g rt o) st (f_R_nextPc st ) := by
  refine KV.ofW (by decide) (Nat.le_of_ble_eq_true rfl) ?_
  intro p e s m args below meth c A Q ls Rv X he RET hC hl
  obtain ⟨hx, hb⟩ := FX_xb X
  have hl : lv_has ls 1 [(0, .ref (g.regs))] := hl
  unfold f_R_nextPc at he
  refine lv_aload_n (pc := 0) hx hb d_R_nextPc_0 rfl (lv_at hl 0 rfl) ?_
  refine lv_aload_n (pc := 1) hx hb d_R_nextPc_1 rfl (lv_at hl 0 rfl) ?_
  refine GR_pc (pc := 2) X hC d_R_nextPc_2 ?_
  refine lv_iconst (pc := 5) (v := 1) hx hb d_R_nextPc_5 (by decide) ?_
  refine lv_iadd (pc := 6) hx hb d_R_nextPc_6 ?_
  refine LR_18 (pc := 7) X d_R_nextPc_7 ?_
  refine lv_iand (pc := 9) hx hb d_R_nextPc_9 ?_
  refine PR_pc (pc := 10) X hC d_R_nextPc_10 (fun st1 H locs est1 hC => ?_)
  replace he := bS_go he est1
  exact RET (pc := 13) d_R_nextPc_13 hC he
def f_R_loadA (st : CS) (v1 : Int32) : CS := bS (sV st 0 (v1 &&& 255)) (fun st1 => bS (f_R_putNz st1 (st1.1 0)) (fun st2 => st2))
abbrev rm_R_loadA : Room := { frames := 1, cells := 0, slots := 0, locals := 22 }
set_option maxHeartbeats 4000000 in
set_option maxRecDepth 100000 in
theorem k_R_loadA (l : Launch) (g : CG) (rt : MS) (o : Nat → Int64) (st : CS) (v1 : Int32) : KV l g y_R_loadA (Cond.code y_R_loadA c_R_loadA 2 none :: ALL) rm_R_loadA [.ref (g.regs), .int v1] (wC g rt o) st (f_R_loadA st v1) := by
  refine KV.ofW (by decide) (Nat.le_of_ble_eq_true rfl) ?_
  intro p e s m args below meth c A Q ls Rv X he RET hC hl
  obtain ⟨hx, hb⟩ := FX_xb X
  have hl : lv_has ls 2 [(0, .ref (g.regs)), (1, .int v1)] := hl
  unfold f_R_loadA at he
  refine lv_aload_n (pc := 0) hx hb d_R_loadA_0 rfl (lv_at hl 0 rfl) ?_
  refine lv_iload_n (pc := 1) hx hb d_R_loadA_1 rfl (lv_at hl 1 rfl) ?_
  refine lv_sipush (pc := 2) (v := 255) hx hb d_R_loadA_2 (by decide) ?_
  refine lv_iand (pc := 5) hx hb d_R_loadA_5 ?_
  refine PR_a (pc := 6) X hC d_R_loadA_6 (fun st1 H locs est1 hC => ?_)
  replace he := bS_go he est1
  refine lv_aload_n (pc := 9) hx hb d_R_loadA_9 rfl (lv_at hl 0 rfl) ?_
  refine lv_aload_n (pc := 10) hx hb d_R_loadA_10 rfl (lv_at hl 0 rfl) ?_
  refine GR_a (pc := 11) X hC d_R_loadA_11 ?_
  refine callVO (q0 := 3) (pc := 14) (As := [.int (st1.1 0)]) (rest := []) X (k_R_putNz l g rt o st1 (st1.1 0)) hC (NR_R_putNz_25 X rfl rfl ⟨by decide, by decide⟩) rfl rfl rfl hl.1 (Nat.le_of_ble_eq_true rfl) rfl d_R_loadA_14 ⟨Nat.zero_le _, Nat.zero_le _⟩ (fun st2 H locs est2 hC => ?_)
  replace he := bS_go he est2
  exact RET (pc := 17) d_R_loadA_17 hC he
def f_R_carry (st : CS)  : Int32 × CS := (((st.1 5) &&& 1), st)
abbrev rm_R_carry : Room := { frames := 0, cells := 0, slots := 0, locals := 0 }
set_option maxHeartbeats 4000000 in
set_option maxRecDepth 100000 in
theorem k_R_carry (l : Launch) (g : CG) (rt : MS) (o : Nat → Int64) (st : CS)  : KI l g y_R_carry (Cond.code y_R_carry c_R_carry 1 (some .int) :: ALL) rm_R_carry [.ref (g.regs)] (wC g rt o) st (f_R_carry st ) := by
  refine KI.ofW (by decide) (Nat.le_of_ble_eq_true rfl) ?_
  intro p e s m args below meth c A Q ls Rv X he RET hC hl
  obtain ⟨hx, hb⟩ := FX_xb X
  have hl : lv_has ls 1 [(0, .ref (g.regs))] := hl
  unfold f_R_carry at he
  refine lv_aload_n (pc := 0) hx hb d_R_carry_0 rfl (lv_at hl 0 rfl) ?_
  refine GR_flags (pc := 1) X hC d_R_carry_1 ?_
  refine lv_iconst (pc := 4) (v := 1) hx hb d_R_carry_4 (by decide) ?_
  refine lv_iand (pc := 5) hx hb d_R_carry_5 ?_
  exact RET (pc := 6) d_R_carry_6 hC he
def f_R_differsInSign_42 (st : CS) (s0 : Int32) : Int32 × CS := (s0, st)
def f_R_differsInSign_41 (st : CS)  : Int32 × CS := f_R_differsInSign_42 st 0
def f_R_differsInSign_29 (st : CS) (v2 : Int32) (v3 : Int32) (s0 : Int32) (s1 : Int32) : Int32 × CS := if s1 = s0 then (if v3 = v2 then (f_R_differsInSign_41 st ) else (f_R_differsInSign_42 st 1)) else (f_R_differsInSign_41 st )
def f_R_differsInSign_15 (st : CS) (v1 : Int32) (v2 : Int32) (s0 : Int32) : Int32 × CS := if v1 < 128 then (f_R_differsInSign_29 st v2 s0 0 s0) else (f_R_differsInSign_29 st v2 s0 1 s0)
def f_R_differsInSign (st : CS) (v1 : Int32) (v2 : Int32) : Int32 × CS := if (st.1 0) < 128 then (f_R_differsInSign_15 st v1 v2 0) else (f_R_differsInSign_15 st v1 v2 1)
abbrev rm_R_differsInSign : Room := { frames := 0, cells := 0, slots := 0, locals := 0 }
set_option maxHeartbeats 4000000 in
set_option maxRecDepth 100000 in
theorem k_R_differsInSign (l : Launch) (g : CG) (rt : MS) (o : Nat → Int64) (st : CS) (v1 : Int32) (v2 : Int32) : KZ l g y_R_differsInSign (Cond.code y_R_differsInSign c_R_differsInSign 4 (some .boolean) :: ALL) rm_R_differsInSign [.ref (g.regs), .int v1, .int v2] (wC g rt o) st (f_R_differsInSign st v1 v2) := by
  refine KZ.ofW (by decide) (Nat.le_of_ble_eq_true rfl) ?_
  intro p e s m args below meth c A Q ls Rv X he RET hC hl
  obtain ⟨hx, hb⟩ := FX_xb X
  have hl : lv_has ls 4 [(0, .ref (g.regs)), (1, .int v1), (2, .int v2)] := hl
  have B42 : ∀ (H : Heap) (locs : List Loc) (ls : Array Slot) (st : CS) (s0 : Int32) (hs0 : s0 = 0 ∨ s0 = 1), HC g A s (wC g rt o st) H locs → lv_has ls 4 [] → f_R_differsInSign_42 st s0 = Rv → W p l e rm_R_differsInSign s m args below meth c H locs 0 0 Q (F0 m 42 ls [.int s0]) := by
    intro H locs ls st s0 hs0 hC hl he
    unfold f_R_differsInSign_42 at he
    exact RET (pc := 42) d_R_differsInSign_42 hs0 hC he
  have B41 : ∀ (H : Heap) (locs : List Loc) (ls : Array Slot) (st : CS) , HC g A s (wC g rt o st) H locs → lv_has ls 4 [] → f_R_differsInSign_41 st  = Rv → W p l e rm_R_differsInSign s m args below meth c H locs 0 0 Q (F0 m 41 ls []) := by
    intro H locs ls st   hC hl he
    unfold f_R_differsInSign_41 at he
    refine lv_iconst (pc := 41) (v := 0) hx hb d_R_differsInSign_41 (by decide) ?_
    exact B42 _ _ _ st 0 b0 hC (lv_sub hl [] rfl) he
  have B29 : ∀ (H : Heap) (locs : List Loc) (ls : Array Slot) (st : CS) (v2 : Int32) (v3 : Int32) (s0 : Int32) (s1 : Int32) (hv3 : v3 = 0 ∨ v3 = 1) (hs0 : s0 = 0 ∨ s0 = 1) (hs1 : s1 = 0 ∨ s1 = 1), HC g A s (wC g rt o st) H locs → lv_has ls 4 [(2, .int v2), (3, .int v3)] → f_R_differsInSign_29 st v2 v3 s0 s1 = Rv → W p l e rm_R_differsInSign s m args below meth c H locs 0 0 Q (F0 m 29 ls [.int s0, .int s1]) := by
    intro H locs ls st v2 v3 s0 s1 hv3 hs0 hs1 hC hl he
    unfold f_R_differsInSign_29 at he
    refine lv_icmp_ne (pc := 29) (tgt := 41) hx hb d_R_differsInSign_29 (by decide) (fun h3 => ?_) (fun h3 => ?_)
    · replace he := if_no he h3
      exact B41 _ _ _ st   hC (lv_sub hl [] rfl) he
    replace he := if_go he h3
    refine lv_iload_n (pc := 32) hx hb d_R_differsInSign_32 rfl (lv_at hl 1 rfl) ?_
    refine lv_iload_n (pc := 33) hx hb d_R_differsInSign_33 rfl (lv_at hl 0 rfl) ?_
    refine lv_icmp_eq (pc := 34) (tgt := 41) hx hb d_R_differsInSign_34 (by decide) (fun h4 => ?_) (fun h4 => ?_)
    · replace he := if_go he h4
      exact B41 _ _ _ st   hC (lv_sub hl [] rfl) he
    replace he := if_no he h4
    refine lv_iconst (pc := 37) (v := 1) hx hb d_R_differsInSign_37 (by decide) ?_
    refine lv_goto (pc := 38) (tgt := 42) hx hb d_R_differsInSign_38 (by decide) ?_
    exact B42 _ _ _ st 1 b1 hC (lv_sub hl [] rfl) he
  have B15 : ∀ (H : Heap) (locs : List Loc) (ls : Array Slot) (st : CS) (v1 : Int32) (v2 : Int32) (s0 : Int32) (hs0 : s0 = 0 ∨ s0 = 1), HC g A s (wC g rt o st) H locs → lv_has ls 4 [(1, .int v1), (2, .int v2)] → f_R_differsInSign_15 st v1 v2 s0 = Rv → W p l e rm_R_differsInSign s m args below meth c H locs 0 0 Q (F0 m 15 ls [.int s0]) := by
    intro H locs ls st v1 v2 s0 hs0 hC hl he
    unfold f_R_differsInSign_15 at he
    refine lv_istore_n (pc := 15) (nL := 4) (lv' := [(3, .int s0), (1, .int v1), (2, .int v2)]) hx hb d_R_differsInSign_15 rfl hl (by decide) rfl (fun ls hl => ?_)
    refine lv_iload_n (pc := 16) hx hb d_R_differsInSign_16 rfl (lv_at hl 0 rfl) ?_
    refine lv_iload_n (pc := 17) hx hb d_R_differsInSign_17 rfl (lv_at hl 1 rfl) ?_
    refine lv_sipush (pc := 18) (v := 128) hx hb d_R_differsInSign_18 (by decide) ?_
    refine lv_icmp_lt (pc := 21) (tgt := 28) hx hb d_R_differsInSign_21 (by decide) (fun h2 => ?_) (fun h2 => ?_)
    · replace he := if_go he h2
      refine lv_iconst (pc := 28) (v := 0) hx hb d_R_differsInSign_28 (by decide) ?_
      exact B29 _ _ _ st v2 s0 0 s0 hs0 b0 hs0 hC (lv_sub hl [2, 0] rfl) he
    replace he := if_no he h2
    refine lv_iconst (pc := 24) (v := 1) hx hb d_R_differsInSign_24 (by decide) ?_
    refine lv_goto (pc := 25) (tgt := 29) hx hb d_R_differsInSign_25 (by decide) ?_
    exact B29 _ _ _ st v2 s0 1 s0 hs0 b1 hs0 hC (lv_sub hl [2, 0] rfl) he
  unfold f_R_differsInSign at he
  refine lv_aload_n (pc := 0) hx hb d_R_differsInSign_0 rfl (lv_at hl 0 rfl) ?_
  refine GR_a (pc := 1) X hC d_R_differsInSign_1 ?_
  refine lv_sipush (pc := 4) (v := 128) hx hb d_R_differsInSign_4 (by decide) ?_
  refine lv_icmp_lt (pc := 7) (tgt := 14) hx hb d_R_differsInSign_7 (by decide) (fun h1 => ?_) (fun h1 => ?_)
  · replace he := if_go he h1
    refine lv_iconst (pc := 14) (v := 0) hx hb d_R_differsInSign_14 (by decide) ?_
    exact B15 _ _ _ st v1 v2 0 b0 hC (lv_sub hl [1, 2] rfl) he
  replace he := if_no he h1
  refine lv_iconst (pc := 10) (v := 1) hx hb d_R_differsInSign_10 (by decide) ?_
  refine lv_goto (pc := 11) (tgt := 15) hx hb d_R_differsInSign_11 (by decide) ?_
  exact B15 _ _ _ st v1 v2 1 b1 hC (lv_sub hl [1, 2] rfl) he
def f_R_addDecimal_136 (st : CS) (v2 : Int32) (v3 : Int32) (s0 : Int32) (s1 : Int32) : CS := bS (f_R_put st s1 s0) (fun st20 => bS (sV st20 0 ((16 * (v3 &&& 15)) + (v2 &&& 15))) (fun st21 => st21))
def f_R_addDecimal_123 (st : CS) (v2 : Int32) (v3 : Int32) : CS := if v3 ≤ 15 then (f_R_addDecimal_136 st v2 v3 0 1) else (f_R_addDecimal_136 st v2 v3 1 1)
def f_R_addDecimal_89 (st : CS) (v1 : Int32) (v2 : Int32) (v3 : Int32) (v4 : Int32) (s0 : Int32) (s1 : Int32) : CS := bS (f_R_put st s1 s0) (fun st12 => bS (f_R_put st12 128 v4) (fun st13 => bP (f_R_differsInSign st13 v1 v4) (fun r15 st14 => bS (f_R_put st14 64 r15) (fun st16 => if v3 ≤ 9 then (f_R_addDecimal_123 st16 v2 v3) else (f_R_addDecimal_123 st16 v2 (v3 + 6))))))
def f_R_addDecimal_62 (st : CS) (v1 : Int32) (v2 : Int32) (v3 : Int32) (s0 : Int32) : CS := bP (f_R_carry st ) (fun r10 st9 => if ((((st.1 0) + v1) + r10) &&& 255) = 0 then (f_R_addDecimal_89 st9 v1 v2 v3 s0 1 2) else (f_R_addDecimal_89 st9 v1 v2 v3 s0 0 2))
def f_R_addDecimal_48 (st : CS) (v1 : Int32) (v2 : Int32) (s0 : Int32) (s1 : Int32) : CS := bS ((s1 + s0) : Int32) (fun y7 => if (y7 &&& 8) = 0 then (f_R_addDecimal_62 st v1 v2 y7 0) else (f_R_addDecimal_62 st v1 v2 y7 1))
def f_R_addDecimal_27 (st : CS) (v1 : Int32) (v2 : Int32) : CS := if v2 ≤ 15 then (f_R_addDecimal_48 st v1 v2 0 (((st.1 0) >>> ((4 : Int32) &&& 31)) + (v1 >>> ((4 : Int32) &&& 31)))) else (f_R_addDecimal_48 st v1 v2 1 (((st.1 0) >>> ((4 : Int32) &&& 31)) + (v1 >>> ((4 : Int32) &&& 31))))
def f_R_addDecimal (st : CS) (v1 : Int32) : CS := bP (f_R_carry st ) (fun r2 st1 => bS (((((st.1 0) &&& 15) + (v1 &&& 15)) + r2) : Int32) (fun y3 => if y3 ≤ 9 then (f_R_addDecimal_27 st1 v1 y3) else (f_R_addDecimal_27 st1 v1 (y3 + 6))))
abbrev rm_R_addDecimal : Room := { frames := 1, cells := 0, slots := 0, locals := 23 }
set_option maxHeartbeats 4000000 in
set_option maxRecDepth 100000 in
theorem k_R_addDecimal (l : Launch) (g : CG) (rt : MS) (o : Nat → Int64) (st : CS) (v1 : Int32) : KV l g y_R_addDecimal (Cond.code y_R_addDecimal c_R_addDecimal 5 none :: ALL) rm_R_addDecimal [.ref (g.regs), .int v1] (wC g rt o) st (f_R_addDecimal st v1) := by
  refine KV.ofW (by decide) (Nat.le_of_ble_eq_true rfl) ?_
  intro p e s m args below meth c A Q ls Rv X he RET hC hl
  obtain ⟨hx, hb⟩ := FX_xb X
  have hl : lv_has ls 5 [(0, .ref (g.regs)), (1, .int v1)] := hl
  have B136 : ∀ (H : Heap) (locs : List Loc) (ls : Array Slot) (st : CS) (v2 : Int32) (v3 : Int32) (s0 : Int32) (s1 : Int32) (hs0 : s0 = 0 ∨ s0 = 1) (hs1 : s1 = 0 ∨ s1 = 1), HC g A s (wC g rt o st) H locs → lv_has ls 5 [(0, .ref (g.regs)), (2, .int v2), (3, .int v3)] → f_R_addDecimal_136 st v2 v3 s0 s1 = Rv → W p l e rm_R_addDecimal s m args below meth c H locs 0 0 Q (F0 m 136 ls [.int s0, .int s1, .ref (g.regs)]) := by
    intro H locs ls st v2 v3 s0 s1 hs0 hs1 hC hl he
    unfold f_R_addDecimal_136 at he
    refine callVO (q0 := 3) (pc := 136) (As := [.int s1, .int s0]) (rest := []) X (k_R_put l g rt o st s1 s0) hC (NR_R_put_57 X rfl rfl ⟨by decide, by decide⟩) rfl rfl rfl hl.1 (Nat.le_of_ble_eq_true rfl) rfl d_R_addDecimal_136 ⟨Nat.zero_le _, Nat.zero_le _⟩ (fun st20 H locs est20 hC => ?_)
    replace he := bS_go he est20
    refine lv_aload_n (pc := 139) hx hb d_R_addDecimal_139 rfl (lv_at hl 0 rfl) ?_
    refine lv_bipush (pc := 140) (v := 16) hx hb d_R_addDecimal_140 (by decide) ?_
    refine lv_iload_n (pc := 142) hx hb d_R_addDecimal_142 rfl (lv_at hl 2 rfl) ?_
    refine lv_bipush (pc := 143) (v := 15) hx hb d_R_addDecimal_143 (by decide) ?_
    refine lv_iand (pc := 145) hx hb d_R_addDecimal_145 ?_
    refine lv_imul (pc := 146) hx hb d_R_addDecimal_146 ?_
    refine lv_iload_n (pc := 147) hx hb d_R_addDecimal_147 rfl (lv_at hl 1 rfl) ?_
    refine lv_bipush (pc := 148) (v := 15) hx hb d_R_addDecimal_148 (by decide) ?_
    refine lv_iand (pc := 150) hx hb d_R_addDecimal_150 ?_
    refine lv_iadd (pc := 151) hx hb d_R_addDecimal_151 ?_
    refine PR_a (pc := 152) X hC d_R_addDecimal_152 (fun st21 H locs est21 hC => ?_)
    replace he := bS_go he est21
    exact RET (pc := 155) d_R_addDecimal_155 hC he
  have B123 : ∀ (H : Heap) (locs : List Loc) (ls : Array Slot) (st : CS) (v2 : Int32) (v3 : Int32), HC g A s (wC g rt o st) H locs → lv_has ls 5 [(0, .ref (g.regs)), (2, .int v2), (3, .int v3)] → f_R_addDecimal_123 st v2 v3 = Rv → W p l e rm_R_addDecimal s m args below meth c H locs 0 0 Q (F0 m 123 ls []) := by
    intro H locs ls st v2 v3  hC hl he
    unfold f_R_addDecimal_123 at he
    refine lv_aload_n (pc := 123) hx hb d_R_addDecimal_123 rfl (lv_at hl 0 rfl) ?_
    refine lv_iconst (pc := 124) (v := 1) hx hb d_R_addDecimal_124 (by decide) ?_
    refine lv_iload_n (pc := 125) hx hb d_R_addDecimal_125 rfl (lv_at hl 2 rfl) ?_
    refine lv_bipush (pc := 126) (v := 15) hx hb d_R_addDecimal_126 (by decide) ?_
    refine lv_icmp_le (pc := 128) (tgt := 135) hx hb d_R_addDecimal_128 (by decide) (fun h19 => ?_) (fun h19 => ?_)
    · replace he := if_go he h19
      refine lv_iconst (pc := 135) (v := 0) hx hb d_R_addDecimal_135 (by decide) ?_
      exact B136 _ _ _ st v2 v3 0 1 b0 b1 hC (lv_sub hl [0, 1, 2] rfl) he
    replace he := if_no he h19
    refine lv_iconst (pc := 131) (v := 1) hx hb d_R_addDecimal_131 (by decide) ?_
    refine lv_goto (pc := 132) (tgt := 136) hx hb d_R_addDecimal_132 (by decide) ?_
    exact B136 _ _ _ st v2 v3 1 1 b1 b1 hC (lv_sub hl [0, 1, 2] rfl) he
  have B89 : ∀ (H : Heap) (locs : List Loc) (ls : Array Slot) (st : CS) (v1 : Int32) (v2 : Int32) (v3 : Int32) (v4 : Int32) (s0 : Int32) (s1 : Int32) (hv4 : v4 = 0 ∨ v4 = 1) (hs0 : s0 = 0 ∨ s0 = 1), HC g A s (wC g rt o st) H locs → lv_has ls 5 [(0, .ref (g.regs)), (1, .int v1), (2, .int v2), (3, .int v3), (4, .int v4)] → f_R_addDecimal_89 st v1 v2 v3 v4 s0 s1 = Rv → W p l e rm_R_addDecimal s m args below meth c H locs 0 0 Q (F0 m 89 ls [.int s0, .int s1, .ref (g.regs)]) := by
    intro H locs ls st v1 v2 v3 v4 s0 s1 hv4 hs0 hC hl he
    unfold f_R_addDecimal_89 at he
    refine callVO (q0 := 3) (pc := 89) (As := [.int s1, .int s0]) (rest := []) X (k_R_put l g rt o st s1 s0) hC (NR_R_put_57 X rfl rfl ⟨by decide, by decide⟩) rfl rfl rfl hl.1 (Nat.le_of_ble_eq_true rfl) rfl d_R_addDecimal_89 ⟨Nat.zero_le _, Nat.zero_le _⟩ (fun st12 H locs est12 hC => ?_)
    replace he := bS_go he est12
    refine lv_aload_n (pc := 92) hx hb d_R_addDecimal_92 rfl (lv_at hl 0 rfl) ?_
    refine lv_sipush (pc := 93) (v := 128) hx hb d_R_addDecimal_93 (by decide) ?_
    refine lv_iload (pc := 96) hx hb d_R_addDecimal_96 (lv_at hl 4 rfl) ?_
    refine callVO (q0 := 3) (pc := 98) (As := [.int 128, .int v4]) (rest := []) X (k_R_put l g rt o st12 128 v4) hC (NR_R_put_57 X rfl rfl ⟨by decide, by decide⟩) rfl rfl rfl hl.1 (Nat.le_of_ble_eq_true rfl) rfl d_R_addDecimal_98 ⟨Nat.zero_le _, Nat.zero_le _⟩ (fun st13 H locs est13 hC => ?_)
    replace he := bS_go he est13
    refine lv_aload_n (pc := 101) hx hb d_R_addDecimal_101 rfl (lv_at hl 0 rfl) ?_
    refine lv_bipush (pc := 102) (v := 64) hx hb d_R_addDecimal_102 (by decide) ?_
    refine lv_aload_n (pc := 104) hx hb d_R_addDecimal_104 rfl (lv_at hl 0 rfl) ?_
    refine lv_iload_n (pc := 105) hx hb d_R_addDecimal_105 rfl (lv_at hl 1 rfl) ?_
    refine lv_iload (pc := 106) hx hb d_R_addDecimal_106 (lv_at hl 4 rfl) ?_
    refine callZO (q0 := 3) (pc := 108) (As := [.int v1, .int v4]) (rest := [.int 64, .ref (g.regs)]) X (k_R_differsInSign l g rt o st13 v1 v4) hC (NR_R_differsInSign_76 X rfl rfl ⟨by decide, by decide⟩) rfl rfl rfl hl.1 (Nat.le_of_ble_eq_true rfl) rfl d_R_addDecimal_108 ⟨Nat.zero_le _, Nat.zero_le _⟩ (fun r15 st14 H locs est14 br15 hC => ?_)
    replace he := bP_go he est14
    refine callVO (q0 := 3) (pc := 111) (As := [.int 64, .int r15]) (rest := []) X (k_R_put l g rt o st14 64 r15) hC (NR_R_put_57 X rfl rfl ⟨by decide, by decide⟩) rfl rfl rfl hl.1 (Nat.le_of_ble_eq_true rfl) rfl d_R_addDecimal_111 ⟨Nat.zero_le _, Nat.zero_le _⟩ (fun st16 H locs est16 hC => ?_)
    replace he := bS_go he est16
    refine lv_iload_n (pc := 114) hx hb d_R_addDecimal_114 rfl (lv_at hl 3 rfl) ?_
    refine lv_bipush (pc := 115) (v := 9) hx hb d_R_addDecimal_115 (by decide) ?_
    refine lv_icmp_le (pc := 117) (tgt := 123) hx hb d_R_addDecimal_117 (by decide) (fun h17 => ?_) (fun h17 => ?_)
    · replace he := if_go he h17
      exact B123 _ _ _ st16 v2 v3  hC (lv_sub hl [0, 2, 3] rfl) he
    replace he := if_no he h17
    refine lv_iinc (pc := 120) (k := 3) (nL := 5) (v := (v3 + 6)) (lv' := [(3, .int (v3 + 6)), (0, .ref (g.regs)), (1, .int v1), (2, .int v2), (4, .int v4)]) hx hb d_R_addDecimal_120 hl rfl rfl (by decide) rfl (fun ls hl => ?_)
    exact B123 _ _ _ st16 v2 (v3 + 6)  hC (lv_sub hl [1, 3, 0] rfl) he
  have B62 : ∀ (H : Heap) (locs : List Loc) (ls : Array Slot) (st : CS) (v1 : Int32) (v2 : Int32) (v3 : Int32) (s0 : Int32) (hs0 : s0 = 0 ∨ s0 = 1), HC g A s (wC g rt o st) H locs → lv_has ls 5 [(0, .ref (g.regs)), (1, .int v1), (2, .int v2), (3, .int v3)] → f_R_addDecimal_62 st v1 v2 v3 s0 = Rv → W p l e rm_R_addDecimal s m args below meth c H locs 0 0 Q (F0 m 62 ls [.int s0]) := by
    intro H locs ls st v1 v2 v3 s0 hs0 hC hl he
    unfold f_R_addDecimal_62 at he
    refine lv_istore (pc := 62) (nL := 5) (lv' := [(4, .int s0), (0, .ref (g.regs)), (1, .int v1), (2, .int v2), (3, .int v3)]) hx hb d_R_addDecimal_62 hl (by decide) rfl (fun ls hl => ?_)
    refine lv_aload_n (pc := 64) hx hb d_R_addDecimal_64 rfl (lv_at hl 1 rfl) ?_
    refine lv_iconst (pc := 65) (v := 2) hx hb d_R_addDecimal_65 (by decide) ?_
    refine lv_aload_n (pc := 66) hx hb d_R_addDecimal_66 rfl (lv_at hl 1 rfl) ?_
    refine GR_a (pc := 67) X hC d_R_addDecimal_67 ?_
    refine lv_iload_n (pc := 70) hx hb d_R_addDecimal_70 rfl (lv_at hl 2 rfl) ?_
    refine lv_iadd (pc := 71) hx hb d_R_addDecimal_71 ?_
    refine lv_aload_n (pc := 72) hx hb d_R_addDecimal_72 rfl (lv_at hl 1 rfl) ?_
    refine callIO (q0 := 3) (pc := 73) (As := []) (rest := [.int ((st.1 0) + v1), .int 2, .ref (g.regs)]) X (k_R_carry l g rt o st ) hC (NR_R_carry_68 X rfl rfl ⟨by decide, by decide⟩) rfl rfl rfl hl.1 (Nat.le_of_ble_eq_true rfl) rfl d_R_addDecimal_73 ⟨Nat.zero_le _, Nat.zero_le _⟩ (fun r10 st9 H locs est9 hC => ?_)
    replace he := bP_go he est9
    refine lv_iadd (pc := 76) hx hb d_R_addDecimal_76 ?_
    refine lv_sipush (pc := 77) (v := 255) hx hb d_R_addDecimal_77 (by decide) ?_
    refine lv_iand (pc := 80) hx hb d_R_addDecimal_80 ?_
    refine lv_if_ne (pc := 81) (tgt := 88) hx hb d_R_addDecimal_81 (by decide) (fun h11 => ?_) (fun h11 => ?_)
    · replace he := if_no he h11
      refine lv_iconst (pc := 88) (v := 0) hx hb d_R_addDecimal_88 (by decide) ?_
      exact B89 _ _ _ st9 v1 v2 v3 s0 0 2 hs0 b0 hC (lv_sub hl [1, 2, 3, 4, 0] rfl) he
    replace he := if_go he h11
    refine lv_iconst (pc := 84) (v := 1) hx hb d_R_addDecimal_84 (by decide) ?_
    refine lv_goto (pc := 85) (tgt := 89) hx hb d_R_addDecimal_85 (by decide) ?_
    exact B89 _ _ _ st9 v1 v2 v3 s0 1 2 hs0 b1 hC (lv_sub hl [1, 2, 3, 4, 0] rfl) he
  have B48 : ∀ (H : Heap) (locs : List Loc) (ls : Array Slot) (st : CS) (v1 : Int32) (v2 : Int32) (s0 : Int32) (s1 : Int32) (hs0 : s0 = 0 ∨ s0 = 1), HC g A s (wC g rt o st) H locs → lv_has ls 5 [(0, .ref (g.regs)), (1, .int v1), (2, .int v2)] → f_R_addDecimal_48 st v1 v2 s0 s1 = Rv → W p l e rm_R_addDecimal s m args below meth c H locs 0 0 Q (F0 m 48 ls [.int s0, .int s1]) := by
    intro H locs ls st v1 v2 s0 s1 hs0 hC hl he
    unfold f_R_addDecimal_48 at he
    refine lv_iadd (pc := 48) hx hb d_R_addDecimal_48 ?_
    refine lv_topi (fun y7 ey7 => ?_)
    replace he := bS_go he ey7.symm
    refine lv_istore_n (pc := 49) (nL := 5) (lv' := [(3, .int y7), (0, .ref (g.regs)), (1, .int v1), (2, .int v2)]) hx hb d_R_addDecimal_49 rfl hl (by decide) rfl (fun ls hl => ?_)
    refine lv_iload_n (pc := 50) hx hb d_R_addDecimal_50 rfl (lv_at hl 0 rfl) ?_
    refine lv_bipush (pc := 51) (v := 8) hx hb d_R_addDecimal_51 (by decide) ?_
    refine lv_iand (pc := 53) hx hb d_R_addDecimal_53 ?_
    refine lv_if_eq (pc := 54) (tgt := 61) hx hb d_R_addDecimal_54 (by decide) (fun h8 => ?_) (fun h8 => ?_)
    · replace he := if_go he h8
      refine lv_iconst (pc := 61) (v := 0) hx hb d_R_addDecimal_61 (by decide) ?_
      exact B62 _ _ _ st v1 v2 y7 0 b0 hC (lv_sub hl [1, 2, 3, 0] rfl) he
    replace he := if_no he h8
    refine lv_iconst (pc := 57) (v := 1) hx hb d_R_addDecimal_57 (by decide) ?_
    refine lv_goto (pc := 58) (tgt := 62) hx hb d_R_addDecimal_58 (by decide) ?_
    exact B62 _ _ _ st v1 v2 y7 1 b1 hC (lv_sub hl [1, 2, 3, 0] rfl) he
  have B27 : ∀ (H : Heap) (locs : List Loc) (ls : Array Slot) (st : CS) (v1 : Int32) (v2 : Int32), HC g A s (wC g rt o st) H locs → lv_has ls 5 [(0, .ref (g.regs)), (1, .int v1), (2, .int v2)] → f_R_addDecimal_27 st v1 v2 = Rv → W p l e rm_R_addDecimal s m args below meth c H locs 0 0 Q (F0 m 27 ls []) := by
    intro H locs ls st v1 v2  hC hl he
    unfold f_R_addDecimal_27 at he
    refine lv_aload_n (pc := 27) hx hb d_R_addDecimal_27 rfl (lv_at hl 0 rfl) ?_
    refine GR_a (pc := 28) X hC d_R_addDecimal_28 ?_
    refine lv_iconst (pc := 31) (v := 4) hx hb d_R_addDecimal_31 (by decide) ?_
    refine lv_ishr (pc := 32) hx hb d_R_addDecimal_32 ?_
    refine lv_iload_n (pc := 33) hx hb d_R_addDecimal_33 rfl (lv_at hl 1 rfl) ?_
    refine lv_iconst (pc := 34) (v := 4) hx hb d_R_addDecimal_34 (by decide) ?_
    refine lv_ishr (pc := 35) hx hb d_R_addDecimal_35 ?_
    refine lv_iadd (pc := 36) hx hb d_R_addDecimal_36 ?_
    refine lv_iload_n (pc := 37) hx hb d_R_addDecimal_37 rfl (lv_at hl 2 rfl) ?_
    refine lv_bipush (pc := 38) (v := 15) hx hb d_R_addDecimal_38 (by decide) ?_
    refine lv_icmp_le (pc := 40) (tgt := 47) hx hb d_R_addDecimal_40 (by decide) (fun h6 => ?_) (fun h6 => ?_)
    · replace he := if_go he h6
      refine lv_iconst (pc := 47) (v := 0) hx hb d_R_addDecimal_47 (by decide) ?_
      exact B48 _ _ _ st v1 v2 0 (((st.1 0) >>> ((4 : Int32) &&& 31)) + (v1 >>> ((4 : Int32) &&& 31))) b0 hC (lv_sub hl [0, 1, 2] rfl) he
    replace he := if_no he h6
    refine lv_iconst (pc := 43) (v := 1) hx hb d_R_addDecimal_43 (by decide) ?_
    refine lv_goto (pc := 44) (tgt := 48) hx hb d_R_addDecimal_44 (by decide) ?_
    exact B48 _ _ _ st v1 v2 1 (((st.1 0) >>> ((4 : Int32) &&& 31)) + (v1 >>> ((4 : Int32) &&& 31))) b1 hC (lv_sub hl [0, 1, 2] rfl) he
  unfold f_R_addDecimal at he
  refine lv_aload_n (pc := 0) hx hb d_R_addDecimal_0 rfl (lv_at hl 0 rfl) ?_
  refine GR_a (pc := 1) X hC d_R_addDecimal_1 ?_
  refine lv_bipush (pc := 4) (v := 15) hx hb d_R_addDecimal_4 (by decide) ?_
  refine lv_iand (pc := 6) hx hb d_R_addDecimal_6 ?_
  refine lv_iload_n (pc := 7) hx hb d_R_addDecimal_7 rfl (lv_at hl 1 rfl) ?_
  refine lv_bipush (pc := 8) (v := 15) hx hb d_R_addDecimal_8 (by decide) ?_
  refine lv_iand (pc := 10) hx hb d_R_addDecimal_10 ?_
  refine lv_iadd (pc := 11) hx hb d_R_addDecimal_11 ?_
  refine lv_aload_n (pc := 12) hx hb d_R_addDecimal_12 rfl (lv_at hl 0 rfl) ?_
  refine callIO (q0 := 3) (pc := 13) (As := []) (rest := [.int (((st.1 0) &&& 15) + (v1 &&& 15))]) X (k_R_carry l g rt o st ) hC (NR_R_carry_68 X rfl rfl ⟨by decide, by decide⟩) rfl rfl rfl hl.1 (Nat.le_of_ble_eq_true rfl) rfl d_R_addDecimal_13 ⟨Nat.zero_le _, Nat.zero_le _⟩ (fun r2 st1 H locs est1 hC => ?_)
  replace he := bP_go he est1
  refine lv_iadd (pc := 16) hx hb d_R_addDecimal_16 ?_
  refine lv_topi (fun y3 ey3 => ?_)
  replace he := bS_go he ey3.symm
  refine lv_istore_n (pc := 17) (nL := 5) (lv' := [(2, .int y3), (0, .ref (g.regs)), (1, .int v1)]) hx hb d_R_addDecimal_17 rfl hl (by decide) rfl (fun ls hl => ?_)
  refine lv_iload_n (pc := 18) hx hb d_R_addDecimal_18 rfl (lv_at hl 0 rfl) ?_
  refine lv_bipush (pc := 19) (v := 9) hx hb d_R_addDecimal_19 (by decide) ?_
  refine lv_icmp_le (pc := 21) (tgt := 27) hx hb d_R_addDecimal_21 (by decide) (fun h4 => ?_) (fun h4 => ?_)
  · replace he := if_go he h4
    exact B27 _ _ _ st1 v1 y3  hC (lv_sub hl [1, 2, 0] rfl) he
  replace he := if_no he h4
  refine lv_iinc (pc := 24) (k := 0) (nL := 5) (v := (y3 + 6)) (lv' := [(2, .int (y3 + 6)), (0, .ref (g.regs)), (1, .int v1)]) hx hb d_R_addDecimal_24 hl rfl rfl (by decide) rfl (fun ls hl => ?_)
  exact B27 _ _ _ st1 v1 (y3 + 6)  hC (lv_sub hl [1, 2, 0] rfl) he
def f_R_flagsOfSum_35 (st : CS) (v2 : Int32) (s0 : Int32) (s1 : Int32) (s3 : Int32) : CS := bP (f_R_differsInSign st s1 s0) (fun r5 st4 => bS (f_R_put st4 s3 r5) (fun st6 => bS (f_R_putNz st6 (v2 &&& 255)) (fun st7 => st7)))
def f_R_flagsOfSum_14 (st : CS) (v1 : Int32) (v2 : Int32) (s0 : Int32) (s1 : Int32) : CS := bS (f_R_put st s1 s0) (fun st2 => if (v2 &&& 128) = 0 then (f_R_flagsOfSum_35 st2 v2 0 v1 64) else (f_R_flagsOfSum_35 st2 v2 1 v1 64))
def f_R_flagsOfSum (st : CS) (v1 : Int32) (v2 : Int32) : CS := if v2 ≤ 255 then (f_R_flagsOfSum_14 st v1 v2 0 1) else (f_R_flagsOfSum_14 st v1 v2 1 1)
abbrev rm_R_flagsOfSum : Room := { frames := 1, cells := 0, slots := 0, locals := 23 }
set_option maxHeartbeats 4000000 in
set_option maxRecDepth 100000 in
theorem k_R_flagsOfSum (l : Launch) (g : CG) (rt : MS) (o : Nat → Int64) (st : CS) (v1 : Int32) (v2 : Int32) : KV l g y_R_flagsOfSum (Cond.code y_R_flagsOfSum c_R_flagsOfSum 3 none :: ALL) rm_R_flagsOfSum [.ref (g.regs), .int v1, .int v2] (wC g rt o) st (f_R_flagsOfSum st v1 v2) := by
  refine KV.ofW (by decide) (Nat.le_of_ble_eq_true rfl) ?_
  intro p e s m args below meth c A Q ls Rv X he RET hC hl
  obtain ⟨hx, hb⟩ := FX_xb X
  have hl : lv_has ls 3 [(0, .ref (g.regs)), (1, .int v1), (2, .int v2)] := hl
  have B35 : ∀ (H : Heap) (locs : List Loc) (ls : Array Slot) (st : CS) (v2 : Int32) (s0 : Int32) (s1 : Int32) (s3 : Int32) (hs0 : s0 = 0 ∨ s0 = 1), HC g A s (wC g rt o st) H locs → lv_has ls 3 [(0, .ref (g.regs)), (2, .int v2)] → f_R_flagsOfSum_35 st v2 s0 s1 s3 = Rv → W p l e rm_R_flagsOfSum s m args below meth c H locs 0 0 Q (F0 m 35 ls [.int s0, .int s1, .ref (g.regs), .int s3, .ref (g.regs)]) := by
    intro H locs ls st v2 s0 s1 s3 hs0 hC hl he
    unfold f_R_flagsOfSum_35 at he
    refine callZO (q0 := 3) (pc := 35) (As := [.int s1, .int s0]) (rest := [.int s3, .ref (g.regs)]) X (k_R_differsInSign l g rt o st s1 s0) hC (NR_R_differsInSign_76 X rfl rfl ⟨by decide, by decide⟩) rfl rfl rfl hl.1 (Nat.le_of_ble_eq_true rfl) rfl d_R_flagsOfSum_35 ⟨Nat.zero_le _, Nat.zero_le _⟩ (fun r5 st4 H locs est4 br5 hC => ?_)
    replace he := bP_go he est4
    refine callVO (q0 := 3) (pc := 38) (As := [.int s3, .int r5]) (rest := []) X (k_R_put l g rt o st4 s3 r5) hC (NR_R_put_57 X rfl rfl ⟨by decide, by decide⟩) rfl rfl rfl hl.1 (Nat.le_of_ble_eq_true rfl) rfl d_R_flagsOfSum_38 ⟨Nat.zero_le _, Nat.zero_le _⟩ (fun st6 H locs est6 hC => ?_)
    replace he := bS_go he est6
    refine lv_aload_n (pc := 41) hx hb d_R_flagsOfSum_41 rfl (lv_at hl 0 rfl) ?_
    refine lv_iload_n (pc := 42) hx hb d_R_flagsOfSum_42 rfl (lv_at hl 1 rfl) ?_
    refine lv_sipush (pc := 43) (v := 255) hx hb d_R_flagsOfSum_43 (by decide) ?_
    refine lv_iand (pc := 46) hx hb d_R_flagsOfSum_46 ?_
    refine callVO (q0 := 3) (pc := 47) (As := [.int (v2 &&& 255)]) (rest := []) X (k_R_putNz l g rt o st6 (v2 &&& 255)) hC (NR_R_putNz_25 X rfl rfl ⟨by decide, by decide⟩) rfl rfl rfl hl.1 (Nat.le_of_ble_eq_true rfl) rfl d_R_flagsOfSum_47 ⟨Nat.zero_le _, Nat.zero_le _⟩ (fun st7 H locs est7 hC => ?_)
    replace he := bS_go he est7
    exact RET (pc := 50) d_R_flagsOfSum_50 hC he
  have B14 : ∀ (H : Heap) (locs : List Loc) (ls : Array Slot) (st : CS) (v1 : Int32) (v2 : Int32) (s0 : Int32) (s1 : Int32) (hs0 : s0 = 0 ∨ s0 = 1) (hs1 : s1 = 0 ∨ s1 = 1), HC g A s (wC g rt o st) H locs → lv_has ls 3 [(0, .ref (g.regs)), (1, .int v1), (2, .int v2)] → f_R_flagsOfSum_14 st v1 v2 s0 s1 = Rv → W p l e rm_R_flagsOfSum s m args below meth c H locs 0 0 Q (F0 m 14 ls [.int s0, .int s1, .ref (g.regs)]) := by
    intro H locs ls st v1 v2 s0 s1 hs0 hs1 hC hl he
    unfold f_R_flagsOfSum_14 at he
    refine callVO (q0 := 3) (pc := 14) (As := [.int s1, .int s0]) (rest := []) X (k_R_put l g rt o st s1 s0) hC (NR_R_put_57 X rfl rfl ⟨by decide, by decide⟩) rfl rfl rfl hl.1 (Nat.le_of_ble_eq_true rfl) rfl d_R_flagsOfSum_14 ⟨Nat.zero_le _, Nat.zero_le _⟩ (fun st2 H locs est2 hC => ?_)
    replace he := bS_go he est2
    refine lv_aload_n (pc := 17) hx hb d_R_flagsOfSum_17 rfl (lv_at hl 0 rfl) ?_
    refine lv_bipush (pc := 18) (v := 64) hx hb d_R_flagsOfSum_18 (by decide) ?_
    refine lv_aload_n (pc := 20) hx hb d_R_flagsOfSum_20 rfl (lv_at hl 0 rfl) ?_
    refine lv_iload_n (pc := 21) hx hb d_R_flagsOfSum_21 rfl (lv_at hl 1 rfl) ?_
    refine lv_iload_n (pc := 22) hx hb d_R_flagsOfSum_22 rfl (lv_at hl 2 rfl) ?_
    refine lv_sipush (pc := 23) (v := 128) hx hb d_R_flagsOfSum_23 (by decide) ?_
    refine lv_iand (pc := 26) hx hb d_R_flagsOfSum_26 ?_
    refine lv_if_eq (pc := 27) (tgt := 34) hx hb d_R_flagsOfSum_27 (by decide) (fun h3 => ?_) (fun h3 => ?_)
    · replace he := if_go he h3
      refine lv_iconst (pc := 34) (v := 0) hx hb d_R_flagsOfSum_34 (by decide) ?_
      exact B35 _ _ _ st2 v2 0 v1 64 b0 hC (lv_sub hl [0, 2] rfl) he
    replace he := if_no he h3
    refine lv_iconst (pc := 30) (v := 1) hx hb d_R_flagsOfSum_30 (by decide) ?_
    refine lv_goto (pc := 31) (tgt := 35) hx hb d_R_flagsOfSum_31 (by decide) ?_
    exact B35 _ _ _ st2 v2 1 v1 64 b1 hC (lv_sub hl [0, 2] rfl) he
  unfold f_R_flagsOfSum at he
  refine lv_aload_n (pc := 0) hx hb d_R_flagsOfSum_0 rfl (lv_at hl 0 rfl) ?_
  refine lv_iconst (pc := 1) (v := 1) hx hb d_R_flagsOfSum_1 (by decide) ?_
  refine lv_iload_n (pc := 2) hx hb d_R_flagsOfSum_2 rfl (lv_at hl 2 rfl) ?_
  refine lv_sipush (pc := 3) (v := 255) hx hb d_R_flagsOfSum_3 (by decide) ?_
  refine lv_icmp_le (pc := 6) (tgt := 13) hx hb d_R_flagsOfSum_6 (by decide) (fun h1 => ?_) (fun h1 => ?_)
  · replace he := if_go he h1
    refine lv_iconst (pc := 13) (v := 0) hx hb d_R_flagsOfSum_13 (by decide) ?_
    exact B14 _ _ _ st v1 v2 0 1 b0 b1 hC (lv_sub hl [0, 1, 2] rfl) he
  replace he := if_no he h1
  refine lv_iconst (pc := 9) (v := 1) hx hb d_R_flagsOfSum_9 (by decide) ?_
  refine lv_goto (pc := 10) (tgt := 14) hx hb d_R_flagsOfSum_10 (by decide) ?_
  exact B14 _ _ _ st v1 v2 1 1 b1 b1 hC (lv_sub hl [0, 1, 2] rfl) he
def f_R_add_44 (st : CS)  : CS := st
def f_R_add (st : CS) (v1 : Int32) : CS := bP (f_R_has st 8) (fun r2 st1 => if r2 = 0 then (bP (f_R_carry st1 ) (fun r5 st4 => bS ((((st1.1 0) + v1) + r5) : Int32) (fun y6 => bS (f_R_flagsOfSum st4 v1 y6) (fun st7 => bS (sV st7 0 (y6 &&& 255)) (fun st8 => f_R_add_44 st8 ))))) else (bS (f_R_addDecimal st1 v1) (fun st9 => f_R_add_44 st9 )))
abbrev rm_R_add : Room := { frames := 2, cells := 0, slots := 0, locals := 47 }
set_option maxHeartbeats 4000000 in
set_option maxRecDepth 100000 in
theorem k_R_add (l : Launch) (g : CG) (rt : MS) (o : Nat → Int64) (st : CS) (v1 : Int32) : KV l g y_R_add (Cond.code y_R_add c_R_add 3 none :: ALL) rm_R_add [.ref (g.regs), .int v1] (wC g rt o) st (f_R_add st v1) := by
  refine KV.ofW (by decide) (Nat.le_of_ble_eq_true rfl) ?_
  intro p e s m args below meth c A Q ls Rv X he RET hC hl
  obtain ⟨hx, hb⟩ := FX_xb X
  have hl : lv_has ls 3 [(0, .ref (g.regs)), (1, .int v1)] := hl
  have B44 : ∀ (H : Heap) (locs : List Loc) (ls : Array Slot) (st : CS) , HC g A s (wC g rt o st) H locs → lv_has ls 3 [] → f_R_add_44 st  = Rv → W p l e rm_R_add s m args below meth c H locs 0 0 Q (F0 m 44 ls []) := by
    intro H locs ls st   hC hl he
    unfold f_R_add_44 at he
    exact RET (pc := 44) d_R_add_44 hC he
  unfold f_R_add at he
  refine lv_aload_n (pc := 0) hx hb d_R_add_0 rfl (lv_at hl 0 rfl) ?_
  refine lv_bipush (pc := 1) (v := 8) hx hb d_R_add_1 (by decide) ?_
  refine callZO (q0 := 3) (pc := 3) (As := [.int 8]) (rest := []) X (k_R_has l g rt o st 8) hC (NR_R_has_35 X rfl rfl ⟨by decide, by decide⟩) rfl rfl rfl hl.1 (Nat.le_of_ble_eq_true rfl) rfl d_R_add_3 ⟨Nat.zero_le _, Nat.zero_le _⟩ (fun r2 st1 H locs est1 br2 hC => ?_)
  replace he := bP_go he est1
  refine lv_if_eq (pc := 6) (tgt := 17) hx hb d_R_add_6 (by decide) (fun h3 => ?_) (fun h3 => ?_)
  · replace he := if_go he h3
    refine lv_aload_n (pc := 17) hx hb d_R_add_17 rfl (lv_at hl 0 rfl) ?_
    refine GR_a (pc := 18) X hC d_R_add_18 ?_
    refine lv_iload_n (pc := 21) hx hb d_R_add_21 rfl (lv_at hl 1 rfl) ?_
    refine lv_iadd (pc := 22) hx hb d_R_add_22 ?_
    refine lv_aload_n (pc := 23) hx hb d_R_add_23 rfl (lv_at hl 0 rfl) ?_
    refine callIO (q0 := 3) (pc := 24) (As := []) (rest := [.int ((st1.1 0) + v1)]) X (k_R_carry l g rt o st1 ) hC (NR_R_carry_68 X rfl rfl ⟨by decide, by decide⟩) rfl rfl rfl hl.1 (Nat.le_of_ble_eq_true rfl) rfl d_R_add_24 ⟨Nat.zero_le _, Nat.zero_le _⟩ (fun r5 st4 H locs est4 hC => ?_)
    replace he := bP_go he est4
    refine lv_iadd (pc := 27) hx hb d_R_add_27 ?_
    refine lv_topi (fun y6 ey6 => ?_)
    replace he := bS_go he ey6.symm
    refine lv_istore_n (pc := 28) (nL := 3) (lv' := [(2, .int y6), (0, .ref (g.regs)), (1, .int v1)]) hx hb d_R_add_28 rfl hl (by decide) rfl (fun ls hl => ?_)
    refine lv_aload_n (pc := 29) hx hb d_R_add_29 rfl (lv_at hl 1 rfl) ?_
    refine lv_iload_n (pc := 30) hx hb d_R_add_30 rfl (lv_at hl 2 rfl) ?_
    refine lv_iload_n (pc := 31) hx hb d_R_add_31 rfl (lv_at hl 0 rfl) ?_
    refine callVO (q0 := 3) (pc := 32) (As := [.int v1, .int y6]) (rest := []) X (k_R_flagsOfSum l g rt o st4 v1 y6) hC (NR_R_flagsOfSum_72 X rfl rfl ⟨by decide, by decide⟩) rfl rfl rfl hl.1 (Nat.le_of_ble_eq_true rfl) rfl d_R_add_32 ⟨Nat.zero_le _, Nat.zero_le _⟩ (fun st7 H locs est7 hC => ?_)
    replace he := bS_go he est7
    refine lv_aload_n (pc := 35) hx hb d_R_add_35 rfl (lv_at hl 1 rfl) ?_
    refine lv_iload_n (pc := 36) hx hb d_R_add_36 rfl (lv_at hl 0 rfl) ?_
    refine lv_sipush (pc := 37) (v := 255) hx hb d_R_add_37 (by decide) ?_
    refine lv_iand (pc := 40) hx hb d_R_add_40 ?_
    refine PR_a (pc := 41) X hC d_R_add_41 (fun st8 H locs est8 hC => ?_)
    replace he := bS_go he est8
    exact B44 _ _ _ st8   hC (lv_sub hl [] rfl) he
  replace he := if_no he h3
  refine lv_aload_n (pc := 9) hx hb d_R_add_9 rfl (lv_at hl 0 rfl) ?_
  refine lv_iload_n (pc := 10) hx hb d_R_add_10 rfl (lv_at hl 1 rfl) ?_
  refine callVO (q0 := 3) (pc := 11) (As := [.int v1]) (rest := []) X (k_R_addDecimal l g rt o st1 v1) hC (NR_R_addDecimal_65 X rfl rfl ⟨by decide, by decide⟩) rfl rfl rfl hl.1 (Nat.le_of_ble_eq_true rfl) rfl d_R_add_11 ⟨Nat.zero_le _, Nat.zero_le _⟩ (fun st9 H locs est9 hC => ?_)
  replace he := bS_go he est9
  refine lv_goto (pc := 14) (tgt := 44) hx hb d_R_add_14 (by decide) ?_
  exact B44 _ _ _ st9   hC (lv_sub hl [] rfl) he
def f_R_decimalDifference_55 (st : CS) (v2 : Int32) (v3 : Int32) : Int32 × CS := (((16 * (v3 &&& 15)) + (v2 &&& 15)), st)
def f_R_decimalDifference_46 (st : CS) (v2 : Int32) (s0 : Int32) (s1 : Int32) : Int32 × CS := bS ((s1 - s0) : Int32) (fun y7 => if 0 ≤ y7 then (f_R_decimalDifference_55 st v2 y7) else (f_R_decimalDifference_55 st v2 (y7 + (-6))))
def f_R_decimalDifference_27 (st : CS) (v1 : Int32) (v2 : Int32) : Int32 × CS := if 0 ≤ v2 then (f_R_decimalDifference_46 st v2 0 (((st.1 0) >>> ((4 : Int32) &&& 31)) - (v1 >>> ((4 : Int32) &&& 31)))) else (f_R_decimalDifference_46 st v2 1 (((st.1 0) >>> ((4 : Int32) &&& 31)) - (v1 >>> ((4 : Int32) &&& 31))))
def f_R_decimalDifference (st : CS) (v1 : Int32) : Int32 × CS := bP (f_R_carry st ) (fun r2 st1 => bS (((((st.1 0) &&& 15) - (v1 &&& 15)) - (1 - r2)) : Int32) (fun y3 => if 0 ≤ y3 then (f_R_decimalDifference_27 st1 v1 y3) else (f_R_decimalDifference_27 st1 v1 (y3 + (-6)))))
abbrev rm_R_decimalDifference : Room := { frames := 1, cells := 0, slots := 0, locals := 20 }
set_option maxHeartbeats 4000000 in
set_option maxRecDepth 100000 in
theorem k_R_decimalDifference (l : Launch) (g : CG) (rt : MS) (o : Nat → Int64) (st : CS) (v1 : Int32) : KI l g y_R_decimalDifference (Cond.code y_R_decimalDifference c_R_decimalDifference 4 (some .int) :: ALL) rm_R_decimalDifference [.ref (g.regs), .int v1] (wC g rt o) st (f_R_decimalDifference st v1) := by
  refine KI.ofW (by decide) (Nat.le_of_ble_eq_true rfl) ?_
  intro p e s m args below meth c A Q ls Rv X he RET hC hl
  obtain ⟨hx, hb⟩ := FX_xb X
  have hl : lv_has ls 4 [(0, .ref (g.regs)), (1, .int v1)] := hl
  have B55 : ∀ (H : Heap) (locs : List Loc) (ls : Array Slot) (st : CS) (v2 : Int32) (v3 : Int32), HC g A s (wC g rt o st) H locs → lv_has ls 4 [(2, .int v2), (3, .int v3)] → f_R_decimalDifference_55 st v2 v3 = Rv → W p l e rm_R_decimalDifference s m args below meth c H locs 0 0 Q (F0 m 55 ls []) := by
    intro H locs ls st v2 v3  hC hl he
    unfold f_R_decimalDifference_55 at he
    refine lv_bipush (pc := 55) (v := 16) hx hb d_R_decimalDifference_55 (by decide) ?_
    refine lv_iload_n (pc := 57) hx hb d_R_decimalDifference_57 rfl (lv_at hl 1 rfl) ?_
    refine lv_bipush (pc := 58) (v := 15) hx hb d_R_decimalDifference_58 (by decide) ?_
    refine lv_iand (pc := 60) hx hb d_R_decimalDifference_60 ?_
    refine lv_imul (pc := 61) hx hb d_R_decimalDifference_61 ?_
    refine lv_iload_n (pc := 62) hx hb d_R_decimalDifference_62 rfl (lv_at hl 0 rfl) ?_
    refine lv_bipush (pc := 63) (v := 15) hx hb d_R_decimalDifference_63 (by decide) ?_
    refine lv_iand (pc := 65) hx hb d_R_decimalDifference_65 ?_
    refine lv_iadd (pc := 66) hx hb d_R_decimalDifference_66 ?_
    exact RET (pc := 67) d_R_decimalDifference_67 hC he
  have B46 : ∀ (H : Heap) (locs : List Loc) (ls : Array Slot) (st : CS) (v2 : Int32) (s0 : Int32) (s1 : Int32) (hs0 : s0 = 0 ∨ s0 = 1), HC g A s (wC g rt o st) H locs → lv_has ls 4 [(2, .int v2)] → f_R_decimalDifference_46 st v2 s0 s1 = Rv → W p l e rm_R_decimalDifference s m args below meth c H locs 0 0 Q (F0 m 46 ls [.int s0, .int s1]) := by
    intro H locs ls st v2 s0 s1 hs0 hC hl he
    unfold f_R_decimalDifference_46 at he
    refine lv_isub (pc := 46) hx hb d_R_decimalDifference_46 ?_
    refine lv_topi (fun y7 ey7 => ?_)
    replace he := bS_go he ey7.symm
    refine lv_istore_n (pc := 47) (nL := 4) (lv' := [(3, .int y7), (2, .int v2)]) hx hb d_R_decimalDifference_47 rfl hl (by decide) rfl (fun ls hl => ?_)
    refine lv_iload_n (pc := 48) hx hb d_R_decimalDifference_48 rfl (lv_at hl 0 rfl) ?_
    refine lv_if_ge (pc := 49) (tgt := 55) hx hb d_R_decimalDifference_49 (by decide) (fun h8 => ?_) (fun h8 => ?_)
    · replace he := if_go he h8
      exact B55 _ _ _ st v2 y7  hC (lv_sub hl [1, 0] rfl) he
    replace he := if_no he h8
    refine lv_iinc (pc := 52) (k := 0) (nL := 4) (v := (y7 + (-6))) (lv' := [(3, .int (y7 + (-6))), (2, .int v2)]) hx hb d_R_decimalDifference_52 hl rfl rfl (by decide) rfl (fun ls hl => ?_)
    exact B55 _ _ _ st v2 (y7 + (-6))  hC (lv_sub hl [1, 0] rfl) he
  have B27 : ∀ (H : Heap) (locs : List Loc) (ls : Array Slot) (st : CS) (v1 : Int32) (v2 : Int32), HC g A s (wC g rt o st) H locs → lv_has ls 4 [(0, .ref (g.regs)), (1, .int v1), (2, .int v2)] → f_R_decimalDifference_27 st v1 v2 = Rv → W p l e rm_R_decimalDifference s m args below meth c H locs 0 0 Q (F0 m 27 ls []) := by
    intro H locs ls st v1 v2  hC hl he
    unfold f_R_decimalDifference_27 at he
    refine lv_aload_n (pc := 27) hx hb d_R_decimalDifference_27 rfl (lv_at hl 0 rfl) ?_
    refine GR_a (pc := 28) X hC d_R_decimalDifference_28 ?_
    refine lv_iconst (pc := 31) (v := 4) hx hb d_R_decimalDifference_31 (by decide) ?_
    refine lv_ishr (pc := 32) hx hb d_R_decimalDifference_32 ?_
    refine lv_iload_n (pc := 33) hx hb d_R_decimalDifference_33 rfl (lv_at hl 1 rfl) ?_
    refine lv_iconst (pc := 34) (v := 4) hx hb d_R_decimalDifference_34 (by decide) ?_
    refine lv_ishr (pc := 35) hx hb d_R_decimalDifference_35 ?_
    refine lv_isub (pc := 36) hx hb d_R_decimalDifference_36 ?_
    refine lv_iload_n (pc := 37) hx hb d_R_decimalDifference_37 rfl (lv_at hl 2 rfl) ?_
    refine lv_if_ge (pc := 38) (tgt := 45) hx hb d_R_decimalDifference_38 (by decide) (fun h6 => ?_) (fun h6 => ?_)
    · replace he := if_go he h6
      refine lv_iconst (pc := 45) (v := 0) hx hb d_R_decimalDifference_45 (by decide) ?_
      exact B46 _ _ _ st v2 0 (((st.1 0) >>> ((4 : Int32) &&& 31)) - (v1 >>> ((4 : Int32) &&& 31))) b0 hC (lv_sub hl [2] rfl) he
    replace he := if_no he h6
    refine lv_iconst (pc := 41) (v := 1) hx hb d_R_decimalDifference_41 (by decide) ?_
    refine lv_goto (pc := 42) (tgt := 46) hx hb d_R_decimalDifference_42 (by decide) ?_
    exact B46 _ _ _ st v2 1 (((st.1 0) >>> ((4 : Int32) &&& 31)) - (v1 >>> ((4 : Int32) &&& 31))) b1 hC (lv_sub hl [2] rfl) he
  unfold f_R_decimalDifference at he
  refine lv_aload_n (pc := 0) hx hb d_R_decimalDifference_0 rfl (lv_at hl 0 rfl) ?_
  refine GR_a (pc := 1) X hC d_R_decimalDifference_1 ?_
  refine lv_bipush (pc := 4) (v := 15) hx hb d_R_decimalDifference_4 (by decide) ?_
  refine lv_iand (pc := 6) hx hb d_R_decimalDifference_6 ?_
  refine lv_iload_n (pc := 7) hx hb d_R_decimalDifference_7 rfl (lv_at hl 1 rfl) ?_
  refine lv_bipush (pc := 8) (v := 15) hx hb d_R_decimalDifference_8 (by decide) ?_
  refine lv_iand (pc := 10) hx hb d_R_decimalDifference_10 ?_
  refine lv_isub (pc := 11) hx hb d_R_decimalDifference_11 ?_
  refine lv_iconst (pc := 12) (v := 1) hx hb d_R_decimalDifference_12 (by decide) ?_
  refine lv_aload_n (pc := 13) hx hb d_R_decimalDifference_13 rfl (lv_at hl 0 rfl) ?_
  refine callIO (q0 := 3) (pc := 14) (As := []) (rest := [.int 1, .int (((st.1 0) &&& 15) - (v1 &&& 15))]) X (k_R_carry l g rt o st ) hC (NR_R_carry_68 X rfl rfl ⟨by decide, by decide⟩) rfl rfl rfl hl.1 (Nat.le_of_ble_eq_true rfl) rfl d_R_decimalDifference_14 ⟨Nat.zero_le _, Nat.zero_le _⟩ (fun r2 st1 H locs est1 hC => ?_)
  replace he := bP_go he est1
  refine lv_isub (pc := 17) hx hb d_R_decimalDifference_17 ?_
  refine lv_isub (pc := 18) hx hb d_R_decimalDifference_18 ?_
  refine lv_topi (fun y3 ey3 => ?_)
  replace he := bS_go he ey3.symm
  refine lv_istore_n (pc := 19) (nL := 4) (lv' := [(2, .int y3), (0, .ref (g.regs)), (1, .int v1)]) hx hb d_R_decimalDifference_19 rfl hl (by decide) rfl (fun ls hl => ?_)
  refine lv_iload_n (pc := 20) hx hb d_R_decimalDifference_20 rfl (lv_at hl 0 rfl) ?_
  refine lv_if_ge (pc := 21) (tgt := 27) hx hb d_R_decimalDifference_21 (by decide) (fun h4 => ?_) (fun h4 => ?_)
  · replace he := if_go he h4
    exact B27 _ _ _ st1 v1 y3  hC (lv_sub hl [1, 2, 0] rfl) he
  replace he := if_no he h4
  refine lv_iinc (pc := 24) (k := 0) (nL := 4) (v := (y3 + (-6))) (lv' := [(2, .int (y3 + (-6))), (0, .ref (g.regs)), (1, .int v1)]) hx hb d_R_decimalDifference_24 hl rfl rfl (by decide) rfl (fun ls hl => ?_)
  exact B27 _ _ _ st1 v1 (y3 + (-6))  hC (lv_sub hl [1, 2, 0] rfl) he
def f_R_subtract_38 (st : CS) (v1 : Int32) (v2 : Int32) (s0 : Int32) : CS := bS (f_R_flagsOfSum st (255 - v1) v2) (fun st9 => bS (sV st9 0 s0) (fun st10 => st10))
def f_R_subtract (st : CS) (v1 : Int32) : CS := bP (f_R_carry st ) (fun r2 st1 => bS ((((st.1 0) + (255 - v1)) + r2) : Int32) (fun y3 => bP (f_R_has st1 8) (fun r5 st4 => if r5 = 0 then (f_R_subtract_38 st4 v1 y3 (y3 &&& 255)) else (bP (f_R_decimalDifference st4 v1) (fun r8 st7 => f_R_subtract_38 st7 v1 y3 r8)))))
abbrev rm_R_subtract : Room := { frames := 2, cells := 0, slots := 0, locals := 45 }
set_option maxHeartbeats 4000000 in
set_option maxRecDepth 100000 in
theorem k_R_subtract (l : Launch) (g : CG) (rt : MS) (o : Nat → Int64) (st : CS) (v1 : Int32) : KV l g y_R_subtract (Cond.code y_R_subtract c_R_subtract 4 none :: ALL) rm_R_subtract [.ref (g.regs), .int v1] (wC g rt o) st (f_R_subtract st v1) := by
  refine KV.ofW (by decide) (Nat.le_of_ble_eq_true rfl) ?_
  intro p e s m args below meth c A Q ls Rv X he RET hC hl
  obtain ⟨hx, hb⟩ := FX_xb X
  have hl : lv_has ls 4 [(0, .ref (g.regs)), (1, .int v1)] := hl
  have B38 : ∀ (H : Heap) (locs : List Loc) (ls : Array Slot) (st : CS) (v1 : Int32) (v2 : Int32) (s0 : Int32), HC g A s (wC g rt o st) H locs → lv_has ls 4 [(0, .ref (g.regs)), (1, .int v1), (2, .int v2)] → f_R_subtract_38 st v1 v2 s0 = Rv → W p l e rm_R_subtract s m args below meth c H locs 0 0 Q (F0 m 38 ls [.int s0]) := by
    intro H locs ls st v1 v2 s0  hC hl he
    unfold f_R_subtract_38 at he
    refine lv_istore_n (pc := 38) (nL := 4) (lv' := [(3, .int s0), (0, .ref (g.regs)), (1, .int v1), (2, .int v2)]) hx hb d_R_subtract_38 rfl hl (by decide) rfl (fun ls hl => ?_)
    refine lv_aload_n (pc := 39) hx hb d_R_subtract_39 rfl (lv_at hl 1 rfl) ?_
    refine lv_sipush (pc := 40) (v := 255) hx hb d_R_subtract_40 (by decide) ?_
    refine lv_iload_n (pc := 43) hx hb d_R_subtract_43 rfl (lv_at hl 2 rfl) ?_
    refine lv_isub (pc := 44) hx hb d_R_subtract_44 ?_
    refine lv_iload_n (pc := 45) hx hb d_R_subtract_45 rfl (lv_at hl 3 rfl) ?_
    refine callVO (q0 := 3) (pc := 46) (As := [.int (255 - v1), .int v2]) (rest := []) X (k_R_flagsOfSum l g rt o st (255 - v1) v2) hC (NR_R_flagsOfSum_72 X rfl rfl ⟨by decide, by decide⟩) rfl rfl rfl hl.1 (Nat.le_of_ble_eq_true rfl) rfl d_R_subtract_46 ⟨Nat.zero_le _, Nat.zero_le _⟩ (fun st9 H locs est9 hC => ?_)
    replace he := bS_go he est9
    refine lv_aload_n (pc := 49) hx hb d_R_subtract_49 rfl (lv_at hl 1 rfl) ?_
    refine lv_iload_n (pc := 50) hx hb d_R_subtract_50 rfl (lv_at hl 0 rfl) ?_
    refine PR_a (pc := 51) X hC d_R_subtract_51 (fun st10 H locs est10 hC => ?_)
    replace he := bS_go he est10
    exact RET (pc := 54) d_R_subtract_54 hC he
  unfold f_R_subtract at he
  refine lv_aload_n (pc := 0) hx hb d_R_subtract_0 rfl (lv_at hl 0 rfl) ?_
  refine GR_a (pc := 1) X hC d_R_subtract_1 ?_
  refine lv_sipush (pc := 4) (v := 255) hx hb d_R_subtract_4 (by decide) ?_
  refine lv_iload_n (pc := 7) hx hb d_R_subtract_7 rfl (lv_at hl 1 rfl) ?_
  refine lv_isub (pc := 8) hx hb d_R_subtract_8 ?_
  refine lv_iadd (pc := 9) hx hb d_R_subtract_9 ?_
  refine lv_aload_n (pc := 10) hx hb d_R_subtract_10 rfl (lv_at hl 0 rfl) ?_
  refine callIO (q0 := 3) (pc := 11) (As := []) (rest := [.int ((st.1 0) + (255 - v1))]) X (k_R_carry l g rt o st ) hC (NR_R_carry_68 X rfl rfl ⟨by decide, by decide⟩) rfl rfl rfl hl.1 (Nat.le_of_ble_eq_true rfl) rfl d_R_subtract_11 ⟨Nat.zero_le _, Nat.zero_le _⟩ (fun r2 st1 H locs est1 hC => ?_)
  replace he := bP_go he est1
  refine lv_iadd (pc := 14) hx hb d_R_subtract_14 ?_
  refine lv_topi (fun y3 ey3 => ?_)
  replace he := bS_go he ey3.symm
  refine lv_istore_n (pc := 15) (nL := 4) (lv' := [(2, .int y3), (0, .ref (g.regs)), (1, .int v1)]) hx hb d_R_subtract_15 rfl hl (by decide) rfl (fun ls hl => ?_)
  refine lv_aload_n (pc := 16) hx hb d_R_subtract_16 rfl (lv_at hl 1 rfl) ?_
  refine lv_bipush (pc := 17) (v := 8) hx hb d_R_subtract_17 (by decide) ?_
  refine callZO (q0 := 3) (pc := 19) (As := [.int 8]) (rest := []) X (k_R_has l g rt o st1 8) hC (NR_R_has_35 X rfl rfl ⟨by decide, by decide⟩) rfl rfl rfl hl.1 (Nat.le_of_ble_eq_true rfl) rfl d_R_subtract_19 ⟨Nat.zero_le _, Nat.zero_le _⟩ (fun r5 st4 H locs est4 br5 hC => ?_)
  replace he := bP_go he est4
  refine lv_if_eq (pc := 22) (tgt := 33) hx hb d_R_subtract_22 (by decide) (fun h6 => ?_) (fun h6 => ?_)
  · replace he := if_go he h6
    refine lv_iload_n (pc := 33) hx hb d_R_subtract_33 rfl (lv_at hl 0 rfl) ?_
    refine lv_sipush (pc := 34) (v := 255) hx hb d_R_subtract_34 (by decide) ?_
    refine lv_iand (pc := 37) hx hb d_R_subtract_37 ?_
    exact B38 _ _ _ st4 v1 y3 (y3 &&& 255)  hC (lv_sub hl [1, 2, 0] rfl) he
  replace he := if_no he h6
  refine lv_aload_n (pc := 25) hx hb d_R_subtract_25 rfl (lv_at hl 1 rfl) ?_
  refine lv_iload_n (pc := 26) hx hb d_R_subtract_26 rfl (lv_at hl 2 rfl) ?_
  refine callIO (q0 := 3) (pc := 27) (As := [.int v1]) (rest := []) X (k_R_decimalDifference l g rt o st4 v1) hC (NR_R_decimalDifference_80 X rfl rfl ⟨by decide, by decide⟩) rfl rfl rfl hl.1 (Nat.le_of_ble_eq_true rfl) rfl d_R_subtract_27 ⟨Nat.zero_le _, Nat.zero_le _⟩ (fun r8 st7 H locs est7 hC => ?_)
  replace he := bP_go he est7
  refine lv_goto (pc := 30) (tgt := 38) hx hb d_R_subtract_30 (by decide) ?_
  exact B38 _ _ _ st7 v1 y3 r8  hC (lv_sub hl [1, 2, 0] rfl) he
def f_R_compare_15 (st : CS) (v1 : Int32) (s0 : Int32) (s1 : Int32) : CS := bS (f_R_put st s1 s0) (fun st2 => bS (f_R_putNz st2 (((st2.1 0) - v1) &&& 255)) (fun st3 => st3))
def f_R_compare (st : CS) (v1 : Int32) : CS := if (st.1 0) < v1 then (f_R_compare_15 st v1 0 1) else (f_R_compare_15 st v1 1 1)
abbrev rm_R_compare : Room := { frames := 1, cells := 0, slots := 0, locals := 22 }
set_option maxHeartbeats 4000000 in
set_option maxRecDepth 100000 in
theorem k_R_compare (l : Launch) (g : CG) (rt : MS) (o : Nat → Int64) (st : CS) (v1 : Int32) : KV l g y_R_compare (Cond.code y_R_compare c_R_compare 2 none :: ALL) rm_R_compare [.ref (g.regs), .int v1] (wC g rt o) st (f_R_compare st v1) := by
  refine KV.ofW (by decide) (Nat.le_of_ble_eq_true rfl) ?_
  intro p e s m args below meth c A Q ls Rv X he RET hC hl
  obtain ⟨hx, hb⟩ := FX_xb X
  have hl : lv_has ls 2 [(0, .ref (g.regs)), (1, .int v1)] := hl
  have B15 : ∀ (H : Heap) (locs : List Loc) (ls : Array Slot) (st : CS) (v1 : Int32) (s0 : Int32) (s1 : Int32) (hs0 : s0 = 0 ∨ s0 = 1) (hs1 : s1 = 0 ∨ s1 = 1), HC g A s (wC g rt o st) H locs → lv_has ls 2 [(0, .ref (g.regs)), (1, .int v1)] → f_R_compare_15 st v1 s0 s1 = Rv → W p l e rm_R_compare s m args below meth c H locs 0 0 Q (F0 m 15 ls [.int s0, .int s1, .ref (g.regs)]) := by
    intro H locs ls st v1 s0 s1 hs0 hs1 hC hl he
    unfold f_R_compare_15 at he
    refine callVO (q0 := 3) (pc := 15) (As := [.int s1, .int s0]) (rest := []) X (k_R_put l g rt o st s1 s0) hC (NR_R_put_57 X rfl rfl ⟨by decide, by decide⟩) rfl rfl rfl hl.1 (Nat.le_of_ble_eq_true rfl) rfl d_R_compare_15 ⟨Nat.zero_le _, Nat.zero_le _⟩ (fun st2 H locs est2 hC => ?_)
    replace he := bS_go he est2
    refine lv_aload_n (pc := 18) hx hb d_R_compare_18 rfl (lv_at hl 0 rfl) ?_
    refine lv_aload_n (pc := 19) hx hb d_R_compare_19 rfl (lv_at hl 0 rfl) ?_
    refine GR_a (pc := 20) X hC d_R_compare_20 ?_
    refine lv_iload_n (pc := 23) hx hb d_R_compare_23 rfl (lv_at hl 1 rfl) ?_
    refine lv_isub (pc := 24) hx hb d_R_compare_24 ?_
    refine lv_sipush (pc := 25) (v := 255) hx hb d_R_compare_25 (by decide) ?_
    refine lv_iand (pc := 28) hx hb d_R_compare_28 ?_
    refine callVO (q0 := 3) (pc := 29) (As := [.int (((st2.1 0) - v1) &&& 255)]) (rest := []) X (k_R_putNz l g rt o st2 (((st2.1 0) - v1) &&& 255)) hC (NR_R_putNz_25 X rfl rfl ⟨by decide, by decide⟩) rfl rfl rfl hl.1 (Nat.le_of_ble_eq_true rfl) rfl d_R_compare_29 ⟨Nat.zero_le _, Nat.zero_le _⟩ (fun st3 H locs est3 hC => ?_)
    replace he := bS_go he est3
    exact RET (pc := 32) d_R_compare_32 hC he
  unfold f_R_compare at he
  refine lv_aload_n (pc := 0) hx hb d_R_compare_0 rfl (lv_at hl 0 rfl) ?_
  refine lv_iconst (pc := 1) (v := 1) hx hb d_R_compare_1 (by decide) ?_
  refine lv_aload_n (pc := 2) hx hb d_R_compare_2 rfl (lv_at hl 0 rfl) ?_
  refine GR_a (pc := 3) X hC d_R_compare_3 ?_
  refine lv_iload_n (pc := 6) hx hb d_R_compare_6 rfl (lv_at hl 1 rfl) ?_
  refine lv_icmp_lt (pc := 7) (tgt := 14) hx hb d_R_compare_7 (by decide) (fun h1 => ?_) (fun h1 => ?_)
  · replace he := if_go he h1
    refine lv_iconst (pc := 14) (v := 0) hx hb d_R_compare_14 (by decide) ?_
    exact B15 _ _ _ st v1 0 1 b0 b1 hC (lv_sub hl [0, 1] rfl) he
  replace he := if_no he h1
  refine lv_iconst (pc := 10) (v := 1) hx hb d_R_compare_10 (by decide) ?_
  refine lv_goto (pc := 11) (tgt := 15) hx hb d_R_compare_11 (by decide) ?_
  exact B15 _ _ _ st v1 1 1 b1 b1 hC (lv_sub hl [0, 1] rfl) he
def f_R_loadX (st : CS) (v1 : Int32) : CS := bS (sV st 1 (v1 &&& 255)) (fun st1 => bS (f_R_putNz st1 (st1.1 1)) (fun st2 => st2))
abbrev rm_R_loadX : Room := { frames := 1, cells := 0, slots := 0, locals := 22 }
set_option maxHeartbeats 4000000 in
set_option maxRecDepth 100000 in
theorem k_R_loadX (l : Launch) (g : CG) (rt : MS) (o : Nat → Int64) (st : CS) (v1 : Int32) : KV l g y_R_loadX (Cond.code y_R_loadX c_R_loadX 2 none :: ALL) rm_R_loadX [.ref (g.regs), .int v1] (wC g rt o) st (f_R_loadX st v1) := by
  refine KV.ofW (by decide) (Nat.le_of_ble_eq_true rfl) ?_
  intro p e s m args below meth c A Q ls Rv X he RET hC hl
  obtain ⟨hx, hb⟩ := FX_xb X
  have hl : lv_has ls 2 [(0, .ref (g.regs)), (1, .int v1)] := hl
  unfold f_R_loadX at he
  refine lv_aload_n (pc := 0) hx hb d_R_loadX_0 rfl (lv_at hl 0 rfl) ?_
  refine lv_iload_n (pc := 1) hx hb d_R_loadX_1 rfl (lv_at hl 1 rfl) ?_
  refine lv_sipush (pc := 2) (v := 255) hx hb d_R_loadX_2 (by decide) ?_
  refine lv_iand (pc := 5) hx hb d_R_loadX_5 ?_
  refine PR_x (pc := 6) X hC d_R_loadX_6 (fun st1 H locs est1 hC => ?_)
  replace he := bS_go he est1
  refine lv_aload_n (pc := 9) hx hb d_R_loadX_9 rfl (lv_at hl 0 rfl) ?_
  refine lv_aload_n (pc := 10) hx hb d_R_loadX_10 rfl (lv_at hl 0 rfl) ?_
  refine GR_x (pc := 11) X hC d_R_loadX_11 ?_
  refine callVO (q0 := 3) (pc := 14) (As := [.int (st1.1 1)]) (rest := []) X (k_R_putNz l g rt o st1 (st1.1 1)) hC (NR_R_putNz_25 X rfl rfl ⟨by decide, by decide⟩) rfl rfl rfl hl.1 (Nat.le_of_ble_eq_true rfl) rfl d_R_loadX_14 ⟨Nat.zero_le _, Nat.zero_le _⟩ (fun st2 H locs est2 hC => ?_)
  replace he := bS_go he est2
  exact RET (pc := 17) d_R_loadX_17 hC he
def f_R_loadY (st : CS) (v1 : Int32) : CS := bS (sV st 2 (v1 &&& 255)) (fun st1 => bS (f_R_putNz st1 (st1.1 2)) (fun st2 => st2))
abbrev rm_R_loadY : Room := { frames := 1, cells := 0, slots := 0, locals := 22 }
set_option maxHeartbeats 4000000 in
set_option maxRecDepth 100000 in
theorem k_R_loadY (l : Launch) (g : CG) (rt : MS) (o : Nat → Int64) (st : CS) (v1 : Int32) : KV l g y_R_loadY (Cond.code y_R_loadY c_R_loadY 2 none :: ALL) rm_R_loadY [.ref (g.regs), .int v1] (wC g rt o) st (f_R_loadY st v1) := by
  refine KV.ofW (by decide) (Nat.le_of_ble_eq_true rfl) ?_
  intro p e s m args below meth c A Q ls Rv X he RET hC hl
  obtain ⟨hx, hb⟩ := FX_xb X
  have hl : lv_has ls 2 [(0, .ref (g.regs)), (1, .int v1)] := hl
  unfold f_R_loadY at he
  refine lv_aload_n (pc := 0) hx hb d_R_loadY_0 rfl (lv_at hl 0 rfl) ?_
  refine lv_iload_n (pc := 1) hx hb d_R_loadY_1 rfl (lv_at hl 1 rfl) ?_
  refine lv_sipush (pc := 2) (v := 255) hx hb d_R_loadY_2 (by decide) ?_
  refine lv_iand (pc := 5) hx hb d_R_loadY_5 ?_
  refine PR_y (pc := 6) X hC d_R_loadY_6 (fun st1 H locs est1 hC => ?_)
  replace he := bS_go he est1
  refine lv_aload_n (pc := 9) hx hb d_R_loadY_9 rfl (lv_at hl 0 rfl) ?_
  refine lv_aload_n (pc := 10) hx hb d_R_loadY_10 rfl (lv_at hl 0 rfl) ?_
  refine GR_y (pc := 11) X hC d_R_loadY_11 ?_
  refine callVO (q0 := 3) (pc := 14) (As := [.int (st1.1 2)]) (rest := []) X (k_R_putNz l g rt o st1 (st1.1 2)) hC (NR_R_putNz_25 X rfl rfl ⟨by decide, by decide⟩) rfl rfl rfl hl.1 (Nat.le_of_ble_eq_true rfl) rfl d_R_loadY_14 ⟨Nat.zero_le _, Nat.zero_le _⟩ (fun st2 H locs est2 hC => ?_)
  replace he := bS_go he est2
  exact RET (pc := 17) d_R_loadY_17 hC he

/-! the law's helpers: cycles, pin, register, set; answered, or thrown and caught (printed by my own program) -/
theorem cw_of {R : Room} {s : State} {args : Array Value} {p : Program} {m : MethodId} {c : Code} {cc bytes : ByteArray} {nL maxL index mc ms n : Nat} {own : String} {g : CG} {A : Nat → Prop} {y : MethodName} {ret : Option FieldType} {rm : Room} (X : FX p m c cc nL s args own g A) (hc : Cond.code y bytes maxL ret ∈ ALL) (hini : Cond.initialized y.cls ∈ ALL) (hl : Cond.methodLink own index y ∈ ALL) (hin : Cond.instanceMethod y ∈ ALL) (hse : Cond.selects y.cls y y ∈ ALL)
    (hd : y.cls ≠ "java/lang/invoke/MethodHandle" ∧ y.cls ≠ "java/lang/invoke/VarHandle" ∧ (parseMethodDescriptor y.desc).map (fun d => d.parameters.length) = some n) (hrc : rm.cells = mc) (hrs : rm.slots = ms) (hR : rm.frames + 1 ≤ R.frames ∧ 8 + (maxL + 11) + rm.locals ≤ R.locals) : CallW R s args own y.cls index y bytes maxL ret (Cond.code y bytes maxL ret :: ALL) rm mc ms n :=
  ⟨callB_of n X.1.2.2.2.2 (goodIn_code hc) rfl hrc hrs (X.1.2.2.2.2 _ hini) (X.1.2.2.2.2 _ hl) hd hR, X.1.2.2.2.2 _ hin, X.1.2.2.2.2 _ hse⟩
def zJ (r : Int32) : Int64 := if r = 0 then 0 else 1
abbrev rmH0 : Room := { frames := 7, cells := 0, slots := 0, locals := 157 }
abbrev rmH1 : Room := { frames := 7, cells := 1, slots := 6, locals := 157 }
set_option maxRecDepth 100000 in
theorem wh_cycles : Cond.codeWith y_L_cycles c_L_cycles 4 (some .int) [(0, 9, 12, 13)] ∈ ALL := in_ALL (by decide +kernel) rfl
set_option maxRecDepth 100000 in
theorem wl_cycles : Cond.methodLink "ClockedChipLaw" 7 y_C_cycles ∈ ALL := in_ALL (by decide +kernel) rfl
set_option maxRecDepth 100000 in
theorem wi_cycles : Cond.instanceMethod y_C_cycles ∈ ALL := in_ALL (by decide +kernel) rfl
set_option maxRecDepth 100000 in
theorem ws_cycles : Cond.selects "ClockedChip" y_C_cycles y_C_cycles ∈ ALL := in_ALL (by decide +kernel) rfl
set_option maxRecDepth 100000 in
theorem wh_pin : Cond.codeWith y_L_pin c_L_pin 5 (some .int) [(0, 17, 20, 19)] ∈ ALL := in_ALL (by decide +kernel) rfl
set_option maxRecDepth 100000 in
theorem wl_pin : Cond.methodLink "ClockedChipLaw" 15 y_C_pin ∈ ALL := in_ALL (by decide +kernel) rfl
set_option maxRecDepth 100000 in
theorem wi_pin : Cond.instanceMethod y_C_pin ∈ ALL := in_ALL (by decide +kernel) rfl
set_option maxRecDepth 100000 in
theorem ws_pin : Cond.selects "ClockedChip" y_C_pin y_C_pin ∈ ALL := in_ALL (by decide +kernel) rfl
set_option maxRecDepth 100000 in
theorem wh_register : Cond.codeWith y_L_register c_L_register 4 (some .int) [(0, 9, 12, 19)] ∈ ALL := in_ALL (by decide +kernel) rfl
set_option maxRecDepth 100000 in
theorem wl_register : Cond.methodLink "ClockedChipLaw" 21 y_C_register ∈ ALL := in_ALL (by decide +kernel) rfl
set_option maxRecDepth 100000 in
theorem wi_register : Cond.instanceMethod y_C_register ∈ ALL := in_ALL (by decide +kernel) rfl
set_option maxRecDepth 100000 in
theorem ws_register : Cond.selects "ClockedChip" y_C_register y_C_register ∈ ALL := in_ALL (by decide +kernel) rfl
set_option maxRecDepth 100000 in
theorem wh_set : Cond.codeWith y_L_set c_L_set 4 (some .int) [(0, 6, 9, 19), (0, 6, 12, 28)] ∈ ALL := in_ALL (by decide +kernel) rfl
set_option maxRecDepth 100000 in
theorem wl_set : Cond.methodLink "ClockedChipLaw" 24 y_C_set ∈ ALL := in_ALL (by decide +kernel) rfl
set_option maxRecDepth 100000 in
theorem wi_set : Cond.instanceMethod y_C_set ∈ ALL := in_ALL (by decide +kernel) rfl
set_option maxRecDepth 100000 in
theorem ws_set : Cond.selects "ClockedChip" y_C_set y_C_set ∈ ALL := in_ALL (by decide +kernel) rfl
set_option maxRecDepth 100000 in
theorem wl_13 : Cond.classLink "ClockedChipLaw" 13 nmA ∈ ALL := in_ALL (by decide +kernel) rfl
set_option maxRecDepth 100000 in
theorem wl_19 : Cond.classLink "ClockedChipLaw" 19 nmB ∈ ALL := in_ALL (by decide +kernel) rfl
set_option maxRecDepth 100000 in
theorem wl_28 : Cond.classLink "ClockedChipLaw" 28 nmS2 ∈ ALL := in_ALL (by decide +kernel) rfl
set_option maxRecDepth 100000 in
theorem wc_A : Cond.castable nmA nmA ∈ tables_1 := by decide +kernel
set_option maxRecDepth 100000 in
theorem wc_B : Cond.castable nmB nmB ∈ tables_1 := by decide +kernel
set_option maxRecDepth 100000 in
theorem wc_S : Cond.castable nmS2 nmS2 ∈ tables_1 := by decide +kernel
set_option maxHeartbeats 4000000 in
set_option maxRecDepth 100000 in
theorem h_cycles_0 (l : Launch) (g : CG) (rt : MS) (o : Nat → Int64) (st : CS) (v1 : Int32) (hq1 : ¬ v1 < 0) (hq2 : v1 ≤ 200) : KH l g y_L_cycles (Cond.codeWith y_L_cycles c_L_cycles 4 (some .int) [(0, 9, 12, 13)] :: ALL) rmH0 [.ref (g.chip), .int v1, .ref (g.out)] (wC g rt o st) 0 (wC g rt (vp_updL o 0 (f_C_cycles st v1).1.toInt64) (f_C_cycles st v1).2) 0 0 := by
  refine KH.ofW (by decide) (Nat.le_of_ble_eq_true rfl) ?_
  intro p e s m args below meth c A Q ls X tw hex RET hC hl
  obtain ⟨hx, hb⟩ := FX_xb X
  have hl : lv_has ls 4 [(0, .ref (g.chip)), (1, .int v1), (2, .ref (g.out))] := hl
  refine lv_aload_n (pc := 0) hx hb d_L_cycles_0 rfl (lv_at hl 2 rfl) ?_
  refine lv_iconst (pc := 1) (v := 0) hx hb d_L_cycles_1 (by decide) ?_
  refine lv_aload_n (pc := 2) hx hb d_L_cycles_2 rfl (lv_at hl 0 rfl) ?_
  refine lv_iload_n (pc := 3) hx hb d_L_cycles_3 rfl (lv_at hl 1 rfl) ?_
  refine callIO (q0 := 0) (pc := 4) (As := [.int v1]) (rest := [.int 0, .ref (g.out)]) X (k_C_cycles l g rt o st v1 hq1 hq2) hC (cw_of (n := 1) X w_C_cycles wz_C wl_cycles wi_cycles ws_cycles (by decide +kernel) rfl rfl ⟨by decide, by decide⟩) rfl rfl rfl hl.1 (Nat.le_of_ble_eq_true rfl) rfl d_L_cycles_4 ⟨Nat.zero_le _, Nat.zero_le _⟩ (fun r u H locs eu hC => ?_)
  rw [eu] at RET
  refine lv_i2l (pc := 7) (v := r.toInt64) hx hb d_L_cycles_7 rfl ?_
  refine va_last (i := 0) (pc := 8) hx hb X.2.1 hC.1 hC.2.1 hC.2.2 6 2 rfl rfl (by unfold vp_in; decide) d_L_cycles_8 (fun H locs hP hD hS => ?_)
  have hC : HC g A s (wC g rt (vp_updL o 0 r.toInt64) u) H locs := ⟨hP, hD, hS⟩
  refine lv_goto (pc := 9) (tgt := 15) hx hb d_L_cycles_9 (by decide) ?_
  refine lv_iconst (pc := 15) (v := 0) hx hb d_L_cycles_15 (by decide) ?_
  exact RET (pc := 16) d_L_cycles_16 hC
set_option maxHeartbeats 4000000 in
set_option maxRecDepth 100000 in
theorem h_pin_0 (l : Launch) (g : CG) (rt : MS) (o : Nat → Int64) (st : CS) (v1 v2 : Int32) (hq1 : ¬ v1 < 0) (hq2 : v1 < 4) (hpin : vp_in v1 4) (hpb : rP st v1 = 0 ∨ rP st v1 = 1) : KH l g y_L_pin (Cond.codeWith y_L_pin c_L_pin 5 (some .int) [(0, 17, 20, 19)] :: ALL) rmH0 [.ref (g.chip), .int v1, .int v2, .ref (g.out)] (wC g rt o st) 0 (wC g rt (vp_updL o 0 (zJ (f_C_pin st v1 v2).1)) (f_C_pin st v1 v2).2) 0 0 := by
  refine KH.ofW (by decide) (Nat.le_of_ble_eq_true rfl) ?_
  intro p e s m args below meth c A Q ls X tw hex RET hC hl
  obtain ⟨hx, hb⟩ := FX_xb X
  have hl : lv_has ls 5 [(0, .ref (g.chip)), (1, .int v1), (2, .int v2), (3, .ref (g.out))] := hl
  refine lv_aload_n (pc := 0) hx hb d_L_pin_0 rfl (lv_at hl 3 rfl) ?_
  refine lv_iconst (pc := 1) (v := 0) hx hb d_L_pin_1 (by decide) ?_
  refine lv_aload_n (pc := 2) hx hb d_L_pin_2 rfl (lv_at hl 0 rfl) ?_
  refine lv_iload_n (pc := 3) hx hb d_L_pin_3 rfl (lv_at hl 1 rfl) ?_
  refine lv_iload_n (pc := 4) hx hb d_L_pin_4 rfl (lv_at hl 2 rfl) ?_
  refine callZO (q0 := 0) (pc := 5) (As := [.int v1, .int v2]) (rest := [.int 0, .ref (g.out)]) X (k_C_pin l g rt o st v1 v2 hq1 hq2 hpin hpb) hC (cw_of (n := 2) X w_C_pin wz_C wl_pin wi_pin ws_pin (by decide +kernel) rfl rfl ⟨by decide, by decide⟩) rfl rfl rfl hl.1 (Nat.le_of_ble_eq_true rfl) rfl d_L_pin_5 ⟨Nat.zero_le _, Nat.zero_le _⟩ (fun r u H locs eu hz hC => ?_)
  rw [eu] at RET
  have B16 : ∀ (ls : Array Slot) (x : Int64), x = zJ r → W p l e rmH0 s m args below meth c H locs 0 0 Q (F0 m 16 ls [.long x, .int 0, .ref (g.out)]) := by
    intro ls x ex
    subst ex
    refine va_last (i := 0) (pc := 16) hx hb X.2.1 hC.1 hC.2.1 hC.2.2 6 2 rfl rfl (by unfold vp_in; decide) d_L_pin_16 (fun H locs hP hD hS => ?_)
    have hC : HC g A s (wC g rt (vp_updL o 0 (zJ r)) u) H locs := ⟨hP, hD, hS⟩
    refine lv_goto (pc := 17) (tgt := 24) hx hb d_L_pin_17 (by decide) ?_
    refine lv_iconst (pc := 24) (v := 0) hx hb d_L_pin_24 (by decide) ?_
    exact RET (pc := 25) d_L_pin_25 hC
  refine lv_if_eq (pc := 8) (tgt := 15) hx hb d_L_pin_8 (by decide) (fun h1 => ?_) (fun h1 => ?_)
  · refine lv_lconst (pc := 15) (v := 0) hx hb d_L_pin_15 (by decide) ?_
    exact B16 _ _ (by unfold zJ; rw [if_pos h1])
  · refine lv_lconst (pc := 11) (v := 1) hx hb d_L_pin_11 (by decide) ?_
    refine lv_goto (pc := 12) (tgt := 16) hx hb d_L_pin_12 (by decide) ?_
    exact B16 _ _ (by unfold zJ; rw [if_neg h1])
set_option maxHeartbeats 4000000 in
set_option maxRecDepth 100000 in
theorem h_register_0 (l : Launch) (g : CG) (rt : MS) (o : Nat → Int64) (st : CS) (v1 : Int32) (hq1 : ¬ v1 < 0) (hq2 : v1 ≤ 7) : KH l g y_L_register (Cond.codeWith y_L_register c_L_register 4 (some .int) [(0, 9, 12, 19)] :: ALL) rmH0 [.ref (g.chip), .int v1, .ref (g.out)] (wC g rt o st) 0 (wC g rt (vp_updL o 0 (f_C_register st v1).1.toInt64) (f_C_register st v1).2) 0 0 := by
  refine KH.ofW (by decide) (Nat.le_of_ble_eq_true rfl) ?_
  intro p e s m args below meth c A Q ls X tw hex RET hC hl
  obtain ⟨hx, hb⟩ := FX_xb X
  have hl : lv_has ls 4 [(0, .ref (g.chip)), (1, .int v1), (2, .ref (g.out))] := hl
  refine lv_aload_n (pc := 0) hx hb d_L_register_0 rfl (lv_at hl 2 rfl) ?_
  refine lv_iconst (pc := 1) (v := 0) hx hb d_L_register_1 (by decide) ?_
  refine lv_aload_n (pc := 2) hx hb d_L_register_2 rfl (lv_at hl 0 rfl) ?_
  refine lv_iload_n (pc := 3) hx hb d_L_register_3 rfl (lv_at hl 1 rfl) ?_
  refine callIO (q0 := 0) (pc := 4) (As := [.int v1]) (rest := [.int 0, .ref (g.out)]) X (k_C_register l g rt o st v1 hq1 hq2) hC (cw_of (n := 1) X w_C_register wz_C wl_register wi_register ws_register (by decide +kernel) rfl rfl ⟨by decide, by decide⟩) rfl rfl rfl hl.1 (Nat.le_of_ble_eq_true rfl) rfl d_L_register_4 ⟨Nat.zero_le _, Nat.zero_le _⟩ (fun r u H locs eu hC => ?_)
  rw [eu] at RET
  refine lv_i2l (pc := 7) (v := r.toInt64) hx hb d_L_register_7 rfl ?_
  refine va_last (i := 0) (pc := 8) hx hb X.2.1 hC.1 hC.2.1 hC.2.2 6 2 rfl rfl (by unfold vp_in; decide) d_L_register_8 (fun H locs hP hD hS => ?_)
  have hC : HC g A s (wC g rt (vp_updL o 0 r.toInt64) u) H locs := ⟨hP, hD, hS⟩
  refine lv_goto (pc := 9) (tgt := 15) hx hb d_L_register_9 (by decide) ?_
  refine lv_iconst (pc := 15) (v := 0) hx hb d_L_register_15 (by decide) ?_
  exact RET (pc := 16) d_L_register_16 hC
set_option maxHeartbeats 4000000 in
set_option maxRecDepth 100000 in
theorem h_set_0 (l : Launch) (g : CG) (rt : MS) (o : Nat → Int64) (st : CS) (v1 v2 : Int32) (hq1 : ¬ v1 < 0) (hq2 : v1 ≤ 5) (hq3 : st.2.1 = (0 : Fin 35)) : KH l g y_L_set (Cond.codeWith y_L_set c_L_set 4 (some .int) [(0, 6, 9, 19), (0, 6, 12, 28)] :: ALL) rmH0 [.ref (g.chip), .int v1, .int v2] (wC g rt o st) 0 (wC g rt o (f_C_set st v1 v2)) 0 0 := by
  refine KH.ofW (by decide) (Nat.le_of_ble_eq_true rfl) ?_
  intro p e s m args below meth c A Q ls X tw hex RET hC hl
  obtain ⟨hx, hb⟩ := FX_xb X
  have hl : lv_has ls 4 [(0, .ref (g.chip)), (1, .int v1), (2, .int v2)] := hl
  refine lv_aload_n (pc := 0) hx hb d_L_set_0 rfl (lv_at hl 0 rfl) ?_
  refine lv_iload_n (pc := 1) hx hb d_L_set_1 rfl (lv_at hl 1 rfl) ?_
  refine lv_iload_n (pc := 2) hx hb d_L_set_2 rfl (lv_at hl 2 rfl) ?_
  refine callVO (q0 := 0) (pc := 3) (As := [.int v1, .int v2]) (rest := []) X (k_C_set l g rt o st v1 v2 hq1 hq2 hq3) hC (cw_of (n := 2) X w_C_set wz_C wl_set wi_set ws_set (by decide +kernel) rfl rfl ⟨by decide, by decide⟩) rfl rfl rfl hl.1 (Nat.le_of_ble_eq_true rfl) rfl d_L_set_3 ⟨Nat.zero_le _, Nat.zero_le _⟩ (fun u H locs eu hC => ?_)
  rw [eu] at RET
  refine lv_goto (pc := 6) (tgt := 15) hx hb d_L_set_6 (by decide) ?_
  refine lv_iconst (pc := 15) (v := 0) hx hb d_L_set_15 (by decide) ?_
  exact RET (pc := 16) d_L_set_16 hC
set_option maxHeartbeats 4000000 in
set_option maxRecDepth 100000 in
theorem h_cycles_1 {l : Launch} (hfl : l.flags = pinnedFlags ++ [noTraceFlag]) (g : CG) (rt : MS) (o : Nat → Int64) (st : CS) (v1 : Int32) (h : v1 < 0 ∨ ¬ v1 ≤ 200) : KH l g y_L_cycles (Cond.codeWith y_L_cycles c_L_cycles 4 (some .int) [(0, 9, 12, 13)] :: ALL) rmH1 [.ref (g.chip), .int v1, .ref (g.out)] (wC g rt o st) 1 (wC g rt o st) 1 6 := by
  refine KH.ofW (by decide) (Nat.le_of_ble_eq_true rfl) ?_
  intro p e s m args below meth c A Q ls X tw hex RET hC hl
  obtain ⟨hx, hb⟩ := FX_xb X
  have hl : lv_has ls 4 [(0, .ref (g.chip)), (1, .int v1), (2, .ref (g.out))] := hl
  refine lv_aload_n (pc := 0) hx hb d_L_cycles_0 rfl (lv_at hl 2 rfl) ?_
  refine lv_iconst (pc := 1) (v := 0) hx hb d_L_cycles_1 (by decide) ?_
  refine lv_aload_n (pc := 2) hx hb d_L_cycles_2 rfl (lv_at hl 0 rfl) ?_
  refine lv_iload_n (pc := 3) hx hb d_L_cycles_3 rfl (lv_at hl 1 rfl) ?_
  refine callTO (q0 := 0) (pc := 4) (hpc := 12) (As := [.int v1]) (rest := [.int 0, .ref (g.out)]) X tw (kt_C_cycles g rt o st v1 hfl h) hC (cw_of (n := 1) X w_C_cycles wz_C wl_cycles wi_cycles ws_cycles (by decide +kernel) rfl rfl ⟨by decide, by decide⟩) rfl rfl rfl hl.1 (Nat.le_of_ble_eq_true rfl) rfl d_L_cycles_4 ⟨by decide, by decide⟩ (cat_1 (own := "ClockedChipLaw") (Y := nmA) X.1.2.2.2.1 hex rfl rfl (by decide) (X.1.2.2.2.2 _ wl_13) (tw.2.2 _ (List.mem_cons_of_mem _ wc_A) rfl args)) (fun x H locs hC => ?_)
  refine lv_astore_n (pc := 12) (nL := 4) (lv' := (3, .ref x) :: [(0, .ref (g.chip)), (1, .int v1), (2, .ref (g.out))]) hx hb d_L_cycles_12 rfl hl (by decide) rfl (fun ls hl => ?_)
  refine lv_iconst (pc := 13) (v := 1) hx hb d_L_cycles_13 (by decide) ?_
  exact RET (pc := 14) d_L_cycles_14 hC
set_option maxHeartbeats 4000000 in
set_option maxRecDepth 100000 in
theorem h_pin_1 {l : Launch} (hfl : l.flags = pinnedFlags ++ [noTraceFlag]) (g : CG) (rt : MS) (o : Nat → Int64) (st : CS) (v1 v2 : Int32) (h : v1 < 0 ∨ ¬ v1 < 4) : KH l g y_L_pin (Cond.codeWith y_L_pin c_L_pin 5 (some .int) [(0, 17, 20, 19)] :: ALL) rmH1 [.ref (g.chip), .int v1, .int v2, .ref (g.out)] (wC g rt o st) 1 (wC g rt o st) 1 6 := by
  refine KH.ofW (by decide) (Nat.le_of_ble_eq_true rfl) ?_
  intro p e s m args below meth c A Q ls X tw hex RET hC hl
  obtain ⟨hx, hb⟩ := FX_xb X
  have hl : lv_has ls 5 [(0, .ref (g.chip)), (1, .int v1), (2, .int v2), (3, .ref (g.out))] := hl
  refine lv_aload_n (pc := 0) hx hb d_L_pin_0 rfl (lv_at hl 3 rfl) ?_
  refine lv_iconst (pc := 1) (v := 0) hx hb d_L_pin_1 (by decide) ?_
  refine lv_aload_n (pc := 2) hx hb d_L_pin_2 rfl (lv_at hl 0 rfl) ?_
  refine lv_iload_n (pc := 3) hx hb d_L_pin_3 rfl (lv_at hl 1 rfl) ?_
  refine lv_iload_n (pc := 4) hx hb d_L_pin_4 rfl (lv_at hl 2 rfl) ?_
  refine callTO (q0 := 0) (pc := 5) (hpc := 20) (As := [.int v1, .int v2]) (rest := [.int 0, .ref (g.out)]) X tw (kt_C_pin g rt o st v1 v2 hfl h) hC (cw_of (n := 2) X w_C_pin wz_C wl_pin wi_pin ws_pin (by decide +kernel) rfl rfl ⟨by decide, by decide⟩) rfl rfl rfl hl.1 (Nat.le_of_ble_eq_true rfl) rfl d_L_pin_5 ⟨by decide, by decide⟩ (cat_1 (own := "ClockedChipLaw") (Y := nmB) X.1.2.2.2.1 hex rfl rfl (by decide) (X.1.2.2.2.2 _ wl_19) (tw.2.2 _ (List.mem_cons_of_mem _ wc_B) rfl args)) (fun x H locs hC => ?_)
  refine lv_astore (pc := 20) (nL := 5) (lv' := (4, .ref x) :: [(0, .ref (g.chip)), (1, .int v1), (2, .int v2), (3, .ref (g.out))]) hx hb d_L_pin_20 hl (by decide) rfl (fun ls hl => ?_)
  refine lv_iconst (pc := 22) (v := 1) hx hb d_L_pin_22 (by decide) ?_
  exact RET (pc := 23) d_L_pin_23 hC
set_option maxHeartbeats 4000000 in
set_option maxRecDepth 100000 in
theorem h_register_1 {l : Launch} (hfl : l.flags = pinnedFlags ++ [noTraceFlag]) (g : CG) (rt : MS) (o : Nat → Int64) (st : CS) (v1 : Int32) (h : v1 < 0 ∨ ¬ v1 ≤ 7) : KH l g y_L_register (Cond.codeWith y_L_register c_L_register 4 (some .int) [(0, 9, 12, 19)] :: ALL) rmH1 [.ref (g.chip), .int v1, .ref (g.out)] (wC g rt o st) 1 (wC g rt o st) 1 6 := by
  refine KH.ofW (by decide) (Nat.le_of_ble_eq_true rfl) ?_
  intro p e s m args below meth c A Q ls X tw hex RET hC hl
  obtain ⟨hx, hb⟩ := FX_xb X
  have hl : lv_has ls 4 [(0, .ref (g.chip)), (1, .int v1), (2, .ref (g.out))] := hl
  refine lv_aload_n (pc := 0) hx hb d_L_register_0 rfl (lv_at hl 2 rfl) ?_
  refine lv_iconst (pc := 1) (v := 0) hx hb d_L_register_1 (by decide) ?_
  refine lv_aload_n (pc := 2) hx hb d_L_register_2 rfl (lv_at hl 0 rfl) ?_
  refine lv_iload_n (pc := 3) hx hb d_L_register_3 rfl (lv_at hl 1 rfl) ?_
  refine callTO (q0 := 0) (pc := 4) (hpc := 12) (As := [.int v1]) (rest := [.int 0, .ref (g.out)]) X tw (kt_C_register g rt o st v1 hfl h) hC (cw_of (n := 1) X w_C_register wz_C wl_register wi_register ws_register (by decide +kernel) rfl rfl ⟨by decide, by decide⟩) rfl rfl rfl hl.1 (Nat.le_of_ble_eq_true rfl) rfl d_L_register_4 ⟨by decide, by decide⟩ (cat_1 (own := "ClockedChipLaw") (Y := nmB) X.1.2.2.2.1 hex rfl rfl (by decide) (X.1.2.2.2.2 _ wl_19) (tw.2.2 _ (List.mem_cons_of_mem _ wc_B) rfl args)) (fun x H locs hC => ?_)
  refine lv_astore_n (pc := 12) (nL := 4) (lv' := (3, .ref x) :: [(0, .ref (g.chip)), (1, .int v1), (2, .ref (g.out))]) hx hb d_L_register_12 rfl hl (by decide) rfl (fun ls hl => ?_)
  refine lv_iconst (pc := 13) (v := 1) hx hb d_L_register_13 (by decide) ?_
  exact RET (pc := 14) d_L_register_14 hC
set_option maxHeartbeats 4000000 in
set_option maxRecDepth 100000 in
theorem h_set_1 {l : Launch} (hfl : l.flags = pinnedFlags ++ [noTraceFlag]) (g : CG) (rt : MS) (o : Nat → Int64) (st : CS) (v1 v2 : Int32) (h : v1 < 0 ∨ ¬ v1 ≤ 5) : KH l g y_L_set (Cond.codeWith y_L_set c_L_set 4 (some .int) [(0, 6, 9, 19), (0, 6, 12, 28)] :: ALL) rmH1 [.ref (g.chip), .int v1, .int v2] (wC g rt o st) 1 (wC g rt o st) 1 6 := by
  refine KH.ofW (by decide) (Nat.le_of_ble_eq_true rfl) ?_
  intro p e s m args below meth c A Q ls X tw hex RET hC hl
  obtain ⟨hx, hb⟩ := FX_xb X
  have hl : lv_has ls 4 [(0, .ref (g.chip)), (1, .int v1), (2, .int v2)] := hl
  refine lv_aload_n (pc := 0) hx hb d_L_set_0 rfl (lv_at hl 0 rfl) ?_
  refine lv_iload_n (pc := 1) hx hb d_L_set_1 rfl (lv_at hl 1 rfl) ?_
  refine lv_iload_n (pc := 2) hx hb d_L_set_2 rfl (lv_at hl 2 rfl) ?_
  refine callTO (q0 := 0) (pc := 3) (hpc := 9) (As := [.int v1, .int v2]) (rest := []) X tw (kt_C_set1 g rt o st v1 v2 hfl h) hC (cw_of (n := 2) X w_C_set wz_C wl_set wi_set ws_set (by decide +kernel) rfl rfl ⟨by decide, by decide⟩) rfl rfl rfl hl.1 (Nat.le_of_ble_eq_true rfl) rfl d_L_set_3 ⟨by decide, by decide⟩ (cat_1 (own := "ClockedChipLaw") (Y := nmB) X.1.2.2.2.1 hex rfl rfl (by decide) (X.1.2.2.2.2 _ wl_19) (tw.2.2 _ (List.mem_cons_of_mem _ wc_B) rfl args)) (fun x H locs hC => ?_)
  refine lv_astore_n (pc := 9) (nL := 4) (lv' := (3, .ref x) :: [(0, .ref (g.chip)), (1, .int v1), (2, .int v2)]) hx hb d_L_set_9 rfl hl (by decide) rfl (fun ls hl => ?_)
  refine lv_iconst (pc := 10) (v := 1) hx hb d_L_set_10 (by decide) ?_
  exact RET (pc := 11) d_L_set_11 hC
set_option maxHeartbeats 4000000 in
set_option maxRecDepth 100000 in
theorem h_set_2 {l : Launch} (hfl : l.flags = pinnedFlags ++ [noTraceFlag]) (g : CG) (rt : MS) (o : Nat → Int64) (st : CS) (v1 v2 : Int32) (hq1 : ¬ v1 < 0) (hq2 : v1 ≤ 5) (hq3 : ¬ st.2.1 = (0 : Fin 35)) : KH l g y_L_set (Cond.codeWith y_L_set c_L_set 4 (some .int) [(0, 6, 9, 19), (0, 6, 12, 28)] :: ALL) rmH1 [.ref (g.chip), .int v1, .int v2] (wC g rt o st) 2 (wC g rt o st) 1 6 := by
  refine KH.ofW (by decide) (Nat.le_of_ble_eq_true rfl) ?_
  intro p e s m args below meth c A Q ls X tw hex RET hC hl
  obtain ⟨hx, hb⟩ := FX_xb X
  have hl : lv_has ls 4 [(0, .ref (g.chip)), (1, .int v1), (2, .int v2)] := hl
  refine lv_aload_n (pc := 0) hx hb d_L_set_0 rfl (lv_at hl 0 rfl) ?_
  refine lv_iload_n (pc := 1) hx hb d_L_set_1 rfl (lv_at hl 1 rfl) ?_
  refine lv_iload_n (pc := 2) hx hb d_L_set_2 rfl (lv_at hl 2 rfl) ?_
  refine callTO (q0 := 0) (pc := 3) (hpc := 12) (As := [.int v1, .int v2]) (rest := []) X tw (kt_C_set2 g rt o st v1 v2 hfl hq1 hq2 hq3) hC (cw_of (n := 2) X w_C_set wz_C wl_set wi_set ws_set (by decide +kernel) rfl rfl ⟨by decide, by decide⟩) rfl rfl rfl hl.1 (Nat.le_of_ble_eq_true rfl) rfl d_L_set_3 ⟨by decide, by decide⟩ (cat_2 (own := "ClockedChipLaw") (Z := nmB) (Y := nmS2) X.1.2.2.2.1 hex rfl rfl (by decide) rfl (by decide) (X.1.2.2.2.2 _ wl_19) (X.1.2.2.2.2 _ wl_28) (tw.2.2 wNC List.mem_cons_self rfl args) (tw.2.2 _ (List.mem_cons_of_mem _ wc_S) rfl args)) (fun x H locs hC => ?_)
  refine lv_astore_n (pc := 12) (nL := 4) (lv' := (3, .ref x) :: [(0, .ref (g.chip)), (1, .int v1), (2, .int v2)]) hx hb d_L_set_12 rfl hl (by decide) rfl (fun ls hl => ?_)
  refine lv_iconst (pc := 13) (v := 2) hx hb d_L_set_13 (by decide) ?_
  exact RET (pc := 14) d_L_set_14 hC

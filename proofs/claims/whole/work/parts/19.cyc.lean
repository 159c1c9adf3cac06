/-! the loops of cycles: in the class, in the reference -/
def cyI : Nat → CS → CS
  | 0, st => st
  | n + 1, st => cyI n (f_C_runCycle st).2
def f_C_cycles (st : CS) (v1 : Int32) : Int32 × CS := ((cyI v1.toNatClampNeg st).1 10 - st.1 10, cyI v1.toNatClampNeg st)
def cyM : Nat → MS → MS
  | 0, st => st
  | n + 1, st => cyM n (f_M_clock st).2
def f_M_cycles_29 (st : MS) (v1 : Int32) : Int32 × MS := ((cyM v1.toNatClampNeg (tV st 26 0)).1 26, cyM v1.toNatClampNeg (tV st 26 0))
def f_M_cycles_17 (st : MS) (v1 s0 : Int32) : Int32 × MS := bS (tV st 27 s0) (fun u => if u.1 27 = 0 then f_M_cycles_29 u v1 else (0, u))
def f_M_cycles (st : MS) (v1 : Int32) : Int32 × MS := if v1 < 0 then f_M_cycles_17 st v1 1 else if v1 ≤ 200 then f_M_cycles_17 st v1 0 else f_M_cycles_17 st v1 1
abbrev rm_C_cycles : Room := { frames := 6, cells := 0, slots := 0, locals := 134 }
abbrev rm_M_cycles : Room := { frames := 7, cells := 0, slots := 0, locals := 157 }
set_option maxHeartbeats 4000000 in
set_option maxRecDepth 100000 in
theorem k_C_cycles (l : Launch) (g : CG) (rt : MS) (o : Nat → Int64) (st : CS) (v1 : Int32) (hq1 : ¬ v1 < 0) (hq2 : v1 ≤ 200) : KI l g y_C_cycles (Cond.code y_C_cycles c_C_cycles 4 (some .int) :: ALL) rm_C_cycles [.ref (g.chip), .int v1] (wC g rt o) st (f_C_cycles st v1) := by
  refine KI.ofW (by decide) (Nat.le_of_ble_eq_true rfl) ?_
  intro p e s m args below meth c A Q ls Rv X he RET hC hl
  obtain ⟨hx, hb⟩ := FX_xb X
  have hl : lv_has ls 4 [(0, .ref (g.chip)), (1, .int v1)] := hl
  obtain ⟨J, hJ⟩ : ∃ J, v1.toNatClampNeg = J := ⟨_, rfl⟩
  obtain ⟨hJ31, hle⟩ := dg_le hJ
  have loop : ∀ (n k : Nat) (H : Heap) (locs : List Loc) (ls : Array Slot) (u : CS), k + n = J → HC g A s (wC g rt o u) H locs → lv_has ls 4 [(3, .int (nI k)), (2, .int (st.1 10)), (0, .ref (g.chip)), (1, .int v1)] → cyI n u = cyI J st → W p l e rm_C_cycles s m args below meth c H locs 0 0 Q (F0 m 26 ls []) := by
    intro n
    induction n with
    | zero =>
      intro k H locs ls u hk hC hl hd
      refine lv_iload_n (pc := 26) hx hb d_C_cycles_26 rfl (lv_at hl 0 rfl) ?_
      refine lv_iload_n (pc := 27) hx hb d_C_cycles_27 rfl (lv_at hl 3 rfl) ?_
      refine lv_icmp_ge (pc := 28) (tgt := 42) hx hb d_C_cycles_28 (by decide) (fun h1 => ?_) (fun h1 => ?_)
      · refine lv_aload_n (pc := 42) hx hb d_C_cycles_42 rfl (lv_at hl 2 rfl) ?_
        refine GC_ended (pc := 43) X hC d_C_cycles_43 ?_
        refine lv_iload_n (pc := 46) hx hb d_C_cycles_46 rfl (lv_at hl 1 rfl) ?_
        refine lv_isub (pc := 47) hx hb d_C_cycles_47 ?_
        refine RET (pc := 48) d_C_cycles_48 hC ?_
        rw [← he]
        unfold f_C_cycles
        rw [hJ, ← hd]
        rfl
      · exact absurd ((hle k (by omega)).mpr (by omega)) h1
    | succ n ih =>
      intro k H locs ls u hk hC hl hd
      refine lv_iload_n (pc := 26) hx hb d_C_cycles_26 rfl (lv_at hl 0 rfl) ?_
      refine lv_iload_n (pc := 27) hx hb d_C_cycles_27 rfl (lv_at hl 3 rfl) ?_
      refine lv_icmp_ge (pc := 28) (tgt := 42) hx hb d_C_cycles_28 (by decide) (fun h1 => ?_) (fun h1 => ?_)
      · have := (hle k (by omega)).mp h1
        omega
      · refine lv_aload_n (pc := 31) hx hb d_C_cycles_31 rfl (lv_at hl 2 rfl) ?_
        refine callIO (q0 := 0) (pc := 32) (As := []) (rest := []) X (k_C_runCycle l g rt o u) hC (NC_C_runCycle_42 X rfl rfl ⟨by decide, by decide⟩) rfl rfl rfl hl.1 (Nat.le_of_ble_eq_true rfl) rfl d_C_cycles_32 ⟨Nat.zero_le _, Nat.zero_le _⟩ (fun r u2 H locs eu hC => ?_)
        refine lv_pop (pc := 35) hx hb d_C_cycles_35 rfl ?_
        refine lv_iinc (pc := 36) (k := 0) (nL := 4) (v := nI (k + 1)) (lv' := [(3, .int (nI (k + 1))), (2, .int (st.1 10)), (0, .ref (g.chip)), (1, .int v1)]) hx hb d_C_cycles_36 hl rfl (nI_1 k) (by decide) rfl (fun ls hl => ?_)
        refine lv_goto (pc := 39) (tgt := 26) hx hb d_C_cycles_39 (by decide) ?_
        refine ih (k + 1) H locs ls u2 (by omega) hC hl ?_
        rw [← hd]
        show cyI n u2 = cyI n (f_C_runCycle u).2
        rw [eu]
  refine lv_iload_n (pc := 0) hx hb d_C_cycles_0 rfl (lv_at hl 1 rfl) ?_
  refine lv_if_lt (pc := 1) (tgt := 11) hx hb d_C_cycles_1 (by decide) (fun h1 => absurd h1 hq1) (fun h1 => ?_)
  refine lv_iload_n (pc := 4) hx hb d_C_cycles_4 rfl (lv_at hl 1 rfl) ?_
  refine lv_sipush (pc := 5) (v := 200) hx hb d_C_cycles_5 (by decide) ?_
  refine lv_icmp_le (pc := 8) (tgt := 19) hx hb d_C_cycles_8 (by decide) (fun h2 => ?_) (fun h2 => absurd hq2 h2)
  refine lv_aload_n (pc := 19) hx hb d_C_cycles_19 rfl (lv_at hl 0 rfl) ?_
  refine GC_ended (pc := 20) X hC d_C_cycles_20 ?_
  refine lv_istore_n (pc := 23) (nL := 4) (lv' := [(2, .int (st.1 10)), (0, .ref (g.chip)), (1, .int v1)]) hx hb d_C_cycles_23 rfl hl (by decide) rfl (fun ls hl => ?_)
  refine lv_iconst (pc := 24) (v := 0) hx hb d_C_cycles_24 (by decide) ?_
  refine lv_istore_n (pc := 25) (nL := 4) (lv' := [(3, .int 0), (2, .int (st.1 10)), (0, .ref (g.chip)), (1, .int v1)]) hx hb d_C_cycles_25 rfl hl (by decide) rfl (fun ls hl => ?_)
  exact loop J 0 _ _ ls st (by omega) hC (by rw [nI_0]; exact hl) rfl
set_option maxHeartbeats 4000000 in
set_option maxRecDepth 100000 in
theorem k_M_cycles (l : Launch) (g : CG) (cs : CS) (o : Nat → Int64) (st : MS) (v1 : Int32) : KI l g y_M_cycles (Cond.code y_M_cycles c_M_cycles 4 (some .int) :: ALL) rm_M_cycles [.ref (g.model), .int v1] (wM g cs o) st (f_M_cycles st v1) := by
  refine KI.ofW (by decide) (Nat.le_of_ble_eq_true rfl) ?_
  intro p e s m args below meth c A Q ls Rv X he RET hC hl
  obtain ⟨hx, hb⟩ := FX_xb X
  have hl : lv_has ls 4 [(0, .ref (g.model)), (1, .int v1)] := hl
  obtain ⟨J, hJ⟩ : ∃ J, v1.toNatClampNeg = J := ⟨_, rfl⟩
  obtain ⟨hJ31, hle⟩ := dg_le hJ
  have loop : ∀ (n k : Nat) (H : Heap) (locs : List Loc) (ls : Array Slot) (u w : MS), k + n = J → HC g A s (wM g cs o u) H locs → lv_has ls 4 [(2, .int (nI k)), (0, .ref (g.model)), (1, .int v1)] → cyM n u = w → (w.1 26, w) = Rv → W p l e rm_M_cycles s m args below meth c H locs 0 0 Q (F0 m 36 ls []) := by
    intro n
    induction n with
    | zero =>
      intro k H locs ls u w hk hC hl hd hw
      refine lv_iload_n (pc := 36) hx hb d_M_cycles_36 rfl (lv_at hl 0 rfl) ?_
      refine lv_iload_n (pc := 37) hx hb d_M_cycles_37 rfl (lv_at hl 2 rfl) ?_
      refine lv_icmp_ge (pc := 38) (tgt := 52) hx hb d_M_cycles_38 (by decide) (fun h1 => ?_) (fun h1 => ?_)
      · refine lv_aload_n (pc := 52) hx hb d_M_cycles_52 rfl (lv_at hl 1 rfl) ?_
        refine GM_ends (pc := 53) X hC d_M_cycles_53 ?_
        refine RET (pc := 56) d_M_cycles_56 hC ?_
        rw [← hw, ← hd]
        rfl
      · exact absurd ((hle k (by omega)).mpr (by omega)) h1
    | succ n ih =>
      intro k H locs ls u w hk hC hl hd hw
      refine lv_iload_n (pc := 36) hx hb d_M_cycles_36 rfl (lv_at hl 0 rfl) ?_
      refine lv_iload_n (pc := 37) hx hb d_M_cycles_37 rfl (lv_at hl 2 rfl) ?_
      refine lv_icmp_ge (pc := 38) (tgt := 52) hx hb d_M_cycles_38 (by decide) (fun h1 => ?_) (fun h1 => ?_)
      · have := (hle k (by omega)).mp h1
        omega
      · refine lv_aload_n (pc := 41) hx hb d_M_cycles_41 rfl (lv_at hl 1 rfl) ?_
        refine callIO (q0 := 4) (pc := 42) (As := []) (rest := []) X (k_M_clock l g cs o u) hC (NM_M_clock_244 X rfl rfl ⟨by decide, by decide⟩) rfl rfl rfl hl.1 (Nat.le_of_ble_eq_true rfl) rfl d_M_cycles_42 ⟨Nat.zero_le _, Nat.zero_le _⟩ (fun r u2 H locs eu hC => ?_)
        refine lv_istore_n (pc := 45) (nL := 4) (lv' := [(3, .int r), (2, .int (nI k)), (0, .ref (g.model)), (1, .int v1)]) hx hb d_M_cycles_45 rfl hl (by decide) rfl (fun ls hl => ?_)
        refine lv_iinc (pc := 46) (k := 1) (nL := 4) (v := nI (k + 1)) (lv' := [(2, .int (nI (k + 1))), (3, .int r), (0, .ref (g.model)), (1, .int v1)]) hx hb d_M_cycles_46 hl rfl (nI_1 k) (by decide) rfl (fun ls hl => ?_)
        refine lv_goto (pc := 49) (tgt := 36) hx hb d_M_cycles_49 (by decide) ?_
        refine ih (k + 1) H locs ls u2 w (by omega) hC (lv_sub hl [0, 2, 3] rfl) ?_ hw
        rw [← hd]
        show cyM n u2 = cyM n (f_M_clock u).2
        rw [eu]
  have B29 : ∀ (H : Heap) (locs : List Loc) (ls : Array Slot) (u : MS), HC g A s (wM g cs o u) H locs → lv_has ls 4 [(0, .ref (g.model)), (1, .int v1)] → f_M_cycles_29 u v1 = Rv → W p l e rm_M_cycles s m args below meth c H locs 0 0 Q (F0 m 29 ls []) := by
    intro H locs ls u hC hl he
    refine lv_aload_n (pc := 29) hx hb d_M_cycles_29 rfl (lv_at hl 0 rfl) ?_
    refine lv_iconst (pc := 30) (v := 0) hx hb d_M_cycles_30 (by decide) ?_
    refine PM_ends (pc := 31) X hC d_M_cycles_31 (fun u2 H locs eu hC => ?_)
    refine lv_iconst (pc := 34) (v := 0) hx hb d_M_cycles_34 (by decide) ?_
    refine lv_istore_n (pc := 35) (nL := 4) (lv' := [(2, .int 0), (0, .ref (g.model)), (1, .int v1)]) hx hb d_M_cycles_35 rfl hl (by decide) rfl (fun ls hl => ?_)
    refine loop J 0 _ _ ls u2 _ (by omega) hC (by rw [nI_0]; exact hl) rfl ?_
    rw [← he, ← eu]
    unfold f_M_cycles_29
    rw [hJ]
  have B17 : ∀ (H : Heap) (locs : List Loc) (ls : Array Slot) (u : MS) (s0 : Int32), HC g A s (wM g cs o u) H locs → lv_has ls 4 [(0, .ref (g.model)), (1, .int v1)] → f_M_cycles_17 u v1 s0 = Rv → W p l e rm_M_cycles s m args below meth c H locs 0 0 Q (F0 m 17 ls [.int s0, .ref (g.model)]) := by
    intro H locs ls u s0 hC hl he
    unfold f_M_cycles_17 at he
    refine PM_thrown (pc := 17) X hC d_M_cycles_17 (fun u2 H locs eu hC => ?_)
    replace he := bS_go he eu
    refine lv_aload_n (pc := 20) hx hb d_M_cycles_20 rfl (lv_at hl 0 rfl) ?_
    refine GM_thrown (pc := 21) X hC d_M_cycles_21 ?_
    refine lv_if_eq (pc := 24) (tgt := 29) hx hb d_M_cycles_24 (by decide) (fun h1 => ?_) (fun h1 => ?_)
    · exact B29 _ _ _ u2 hC hl (if_go he h1)
    · replace he := if_no he h1
      refine lv_iconst (pc := 27) (v := 0) hx hb d_M_cycles_27 (by decide) ?_
      exact RET (pc := 28) d_M_cycles_28 hC he
  unfold f_M_cycles at he
  refine lv_aload_n (pc := 0) hx hb d_M_cycles_0 rfl (lv_at hl 0 rfl) ?_
  refine lv_iload_n (pc := 1) hx hb d_M_cycles_1 rfl (lv_at hl 1 rfl) ?_
  refine lv_if_lt (pc := 2) (tgt := 12) hx hb d_M_cycles_2 (by decide) (fun h1 => ?_) (fun h1 => ?_)
  · replace he := if_go he h1
    refine lv_iconst (pc := 12) (v := 1) hx hb d_M_cycles_12 (by decide) ?_
    refine lv_goto (pc := 13) (tgt := 17) hx hb d_M_cycles_13 (by decide) ?_
    exact B17 _ _ _ st 1 hC hl he
  replace he := if_no he h1
  refine lv_iload_n (pc := 5) hx hb d_M_cycles_5 rfl (lv_at hl 1 rfl) ?_
  refine lv_sipush (pc := 6) (v := 200) hx hb d_M_cycles_6 (by decide) ?_
  refine lv_icmp_le (pc := 9) (tgt := 16) hx hb d_M_cycles_9 (by decide) (fun h2 => ?_) (fun h2 => ?_)
  · replace he := if_go he h2
    refine lv_iconst (pc := 16) (v := 0) hx hb d_M_cycles_16 (by decide) ?_
    exact B17 _ _ _ st 0 hC hl he
  replace he := if_no he h2
  refine lv_iconst (pc := 12) (v := 1) hx hb d_M_cycles_12 (by decide) ?_
  refine lv_goto (pc := 13) (tgt := 17) hx hb d_M_cycles_13 (by decide) ?_
  exact B17 _ _ _ st 1 hC hl he

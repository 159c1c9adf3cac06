/-! the law's loop, a theorem a case (printed by my own program) -/
set_option maxRecDepth 100000 in
theorem vl_C_poke : Cond.methodLink "ClockedChipLaw" 34 y_C_poke ∈ ALL := in_ALL (by decide +kernel) rfl
set_option maxRecDepth 100000 in
theorem vi_C_poke : Cond.instanceMethod y_C_poke ∈ ALL := in_ALL (by decide +kernel) rfl
set_option maxRecDepth 100000 in
theorem vs_C_poke : Cond.selects "ClockedChip" y_C_poke y_C_poke ∈ ALL := in_ALL (by decide +kernel) rfl
set_option maxRecDepth 100000 in
theorem vl_C_peek : Cond.methodLink "ClockedChipLaw" 39 y_C_peek ∈ ALL := in_ALL (by decide +kernel) rfl
set_option maxRecDepth 100000 in
theorem vi_C_peek : Cond.instanceMethod y_C_peek ∈ ALL := in_ALL (by decide +kernel) rfl
set_option maxRecDepth 100000 in
theorem vs_C_peek : Cond.selects "ClockedChip" y_C_peek y_C_peek ∈ ALL := in_ALL (by decide +kernel) rfl
set_option maxRecDepth 100000 in
theorem vl_C_cycle : Cond.methodLink "ClockedChipLaw" 43 y_C_cycle ∈ ALL := in_ALL (by decide +kernel) rfl
set_option maxRecDepth 100000 in
theorem vi_C_cycle : Cond.instanceMethod y_C_cycle ∈ ALL := in_ALL (by decide +kernel) rfl
set_option maxRecDepth 100000 in
theorem vs_C_cycle : Cond.selects "ClockedChip" y_C_cycle y_C_cycle ∈ ALL := in_ALL (by decide +kernel) rfl
set_option maxRecDepth 100000 in
theorem vl_C_reset : Cond.methodLink "ClockedChipLaw" 61 y_C_reset ∈ ALL := in_ALL (by decide +kernel) rfl
set_option maxRecDepth 100000 in
theorem vi_C_reset : Cond.instanceMethod y_C_reset ∈ ALL := in_ALL (by decide +kernel) rfl
set_option maxRecDepth 100000 in
theorem vs_C_reset : Cond.selects "ClockedChip" y_C_reset y_C_reset ∈ ALL := in_ALL (by decide +kernel) rfl
set_option maxRecDepth 100000 in
theorem vl_M_poke : Cond.methodLink "ClockedChipLaw" 38 y_M_poke ∈ ALL := in_ALL (by decide +kernel) rfl
set_option maxRecDepth 100000 in
theorem vi_M_poke : Cond.instanceMethod y_M_poke ∈ ALL := in_ALL (by decide +kernel) rfl
set_option maxRecDepth 100000 in
theorem vs_M_poke : Cond.selects "ClockedChipModel" y_M_poke y_M_poke ∈ ALL := in_ALL (by decide +kernel) rfl
set_option maxRecDepth 100000 in
theorem vl_M_peek : Cond.methodLink "ClockedChipLaw" 42 y_M_peek ∈ ALL := in_ALL (by decide +kernel) rfl
set_option maxRecDepth 100000 in
theorem vi_M_peek : Cond.instanceMethod y_M_peek ∈ ALL := in_ALL (by decide +kernel) rfl
set_option maxRecDepth 100000 in
theorem vs_M_peek : Cond.selects "ClockedChipModel" y_M_peek y_M_peek ∈ ALL := in_ALL (by decide +kernel) rfl
set_option maxRecDepth 100000 in
theorem vl_M_cycle : Cond.methodLink "ClockedChipLaw" 47 y_M_cycle ∈ ALL := in_ALL (by decide +kernel) rfl
set_option maxRecDepth 100000 in
theorem vi_M_cycle : Cond.instanceMethod y_M_cycle ∈ ALL := in_ALL (by decide +kernel) rfl
set_option maxRecDepth 100000 in
theorem vs_M_cycle : Cond.selects "ClockedChipModel" y_M_cycle y_M_cycle ∈ ALL := in_ALL (by decide +kernel) rfl
set_option maxRecDepth 100000 in
theorem vl_M_cycles : Cond.methodLink "ClockedChipLaw" 53 y_M_cycles ∈ ALL := in_ALL (by decide +kernel) rfl
set_option maxRecDepth 100000 in
theorem vi_M_cycles : Cond.instanceMethod y_M_cycles ∈ ALL := in_ALL (by decide +kernel) rfl
set_option maxRecDepth 100000 in
theorem vs_M_cycles : Cond.selects "ClockedChipModel" y_M_cycles y_M_cycles ∈ ALL := in_ALL (by decide +kernel) rfl
set_option maxRecDepth 100000 in
theorem vl_M_thrown : Cond.methodLink "ClockedChipLaw" 54 y_M_thrown ∈ ALL := in_ALL (by decide +kernel) rfl
set_option maxRecDepth 100000 in
theorem vi_M_thrown : Cond.instanceMethod y_M_thrown ∈ ALL := in_ALL (by decide +kernel) rfl
set_option maxRecDepth 100000 in
theorem vs_M_thrown : Cond.selects "ClockedChipModel" y_M_thrown y_M_thrown ∈ ALL := in_ALL (by decide +kernel) rfl
set_option maxRecDepth 100000 in
theorem vl_M_pin : Cond.methodLink "ClockedChipLaw" 60 y_M_pin ∈ ALL := in_ALL (by decide +kernel) rfl
set_option maxRecDepth 100000 in
theorem vi_M_pin : Cond.instanceMethod y_M_pin ∈ ALL := in_ALL (by decide +kernel) rfl
set_option maxRecDepth 100000 in
theorem vs_M_pin : Cond.selects "ClockedChipModel" y_M_pin y_M_pin ∈ ALL := in_ALL (by decide +kernel) rfl
set_option maxRecDepth 100000 in
theorem vl_M_reset : Cond.methodLink "ClockedChipLaw" 64 y_M_reset ∈ ALL := in_ALL (by decide +kernel) rfl
set_option maxRecDepth 100000 in
theorem vi_M_reset : Cond.instanceMethod y_M_reset ∈ ALL := in_ALL (by decide +kernel) rfl
set_option maxRecDepth 100000 in
theorem vs_M_reset : Cond.selects "ClockedChipModel" y_M_reset y_M_reset ∈ ALL := in_ALL (by decide +kernel) rfl
set_option maxRecDepth 100000 in
theorem vl_M_register : Cond.methodLink "ClockedChipLaw" 67 y_M_register ∈ ALL := in_ALL (by decide +kernel) rfl
set_option maxRecDepth 100000 in
theorem vi_M_register : Cond.instanceMethod y_M_register ∈ ALL := in_ALL (by decide +kernel) rfl
set_option maxRecDepth 100000 in
theorem vs_M_register : Cond.selects "ClockedChipModel" y_M_register y_M_register ∈ ALL := in_ALL (by decide +kernel) rfl
set_option maxRecDepth 100000 in
theorem vl_M_set : Cond.methodLink "ClockedChipLaw" 71 y_M_set ∈ ALL := in_ALL (by decide +kernel) rfl
set_option maxRecDepth 100000 in
theorem vi_M_set : Cond.instanceMethod y_M_set ∈ ALL := in_ALL (by decide +kernel) rfl
set_option maxRecDepth 100000 in
theorem vs_M_set : Cond.selects "ClockedChipModel" y_M_set y_M_set ∈ ALL := in_ALL (by decide +kernel) rfl
set_option maxRecDepth 100000 in
theorem vl_L_cycles : Cond.methodLink "ClockedChipLaw" 48 y_L_cycles ∈ ALL := in_ALL (by decide +kernel) rfl
set_option maxRecDepth 100000 in
theorem vt_L_cycles : Cond.static y_L_cycles ∈ ALL := in_ALL (by decide +kernel) rfl
set_option maxRecDepth 100000 in
theorem vl_L_pin : Cond.methodLink "ClockedChipLaw" 57 y_L_pin ∈ ALL := in_ALL (by decide +kernel) rfl
set_option maxRecDepth 100000 in
theorem vt_L_pin : Cond.static y_L_pin ∈ ALL := in_ALL (by decide +kernel) rfl
set_option maxRecDepth 100000 in
theorem vl_L_register : Cond.methodLink "ClockedChipLaw" 65 y_L_register ∈ ALL := in_ALL (by decide +kernel) rfl
set_option maxRecDepth 100000 in
theorem vt_L_register : Cond.static y_L_register ∈ ALL := in_ALL (by decide +kernel) rfl
set_option maxRecDepth 100000 in
theorem vl_L_set : Cond.methodLink "ClockedChipLaw" 68 y_L_set ∈ ALL := in_ALL (by decide +kernel) rfl
set_option maxRecDepth 100000 in
theorem vt_L_set : Cond.static y_L_set ∈ ALL := in_ALL (by decide +kernel) rfl
set_option maxRecDepth 100000 in
theorem wz_L : Cond.initialized "ClockedChipLaw" ∈ ALL := in_ALL (by decide +kernel) rfl
def zI (x : Int32) : Int32 := if x = 0 then 0 else 1
theorem zI_b (x : Int32) : zI x = 0 ∨ zI x = 1 := by
  unfold zI
  split
  · exact Or.inl rfl
  · exact Or.inr rfl
theorem cmp_self (x : Int64) : lg_cmp x x = 0 := by simp [lg_cmp]
/-- what stands through the law's loop -/
def LX (p : Program) (m : MethodId) (c : Code) (s : State) (b L : Nat) (xs : Nat → Int32) (g : CG) (A : Nat → Prop) : Prop := FX p m c code 7 s #[Value.ref b] "ClockedChipLaw" g A ∧ TW A s s.heap ∧ va_X b L xs s s.heap ∧ b < s.heap.size ∧ ¬ A b
abbrev lvW (g : CG) (b : Nat) (i : Int32) : List (Nat × Value) := [(4, .int i), (0, .ref b), (1, .ref g.chip), (2, .ref g.model), (3, .ref g.out)]
section LW
variable {p : Program} {l : Launch} {e : Env} {s : State} {m : MethodId} {below : List Frame} {meth : Method} {c : Code} {H : Heap} {locs : List Loc} {cells slots : Nat} {Q : State → Prop} {ls : Array Slot} {b L : Nat} {xs : Nat → Int32} {g : CG} {A : Nat → Prop} {st : CS} {rt : MS} {o : Nat → Int64} {i : Int32}
def NX (p : Program) (l : Launch) (e : Env) (s : State) (m : MethodId) (below : List Frame) (meth : Method) (c : Code) (Q : State → Prop) (b : Nat) (g : CG) (A : Nat → Prop) (i : Int32) (cells slots : Nat) : Prop :=
  ∀ (H : Heap) (locs : List Loc) (ls : Array Slot) (st : CS) (rt : MS) (o : Nat → Int64), RR st rt → HC g A s (wC g rt o st) H locs → lv_has ls 7 (lvW g b i) → W p l e room_1 s m #[Value.ref b] below meth c H locs (cells + 1) (slots + 6) Q (F0 m 421 ls [])
set_option maxHeartbeats 4000000 in
set_option maxRecDepth 100000 in
theorem lw_poke (X0 : LX p m c s b L xs g A) (hf : cells ≤ room_1.cells ∧ slots ≤ room_1.slots) (hi1 : vp_in (i + 1) L) (hi2 : vp_in (i + 2) L) (hR : RR st rt) (hC : HC g A s (wC g rt o st) H locs) (hl : lv_has ls 7 (lvW g b i)) (NEXT : NX p l e s m below meth c Q b g A i cells slots) : W p l e room_1 s m #[Value.ref b] below meth c H locs cells slots Q (F0 m 84 ls []) := by
  obtain ⟨X, tw, hX, hbl, hbA⟩ := X0
  obtain ⟨hx, hb⟩ := FX_xb X
  refine lv_aload_n (pc := 84) hx hb d_W_84 rfl (lv_at hl 2 rfl) ?_
  refine lv_aload_n (pc := 85) hx hb d_W_85 rfl (lv_at hl 1 rfl) ?_
  refine lv_iload (pc := 86) hx hb d_W_86 (lv_at hl 0 rfl) ?_
  refine lv_iconst (pc := 88) (v := 1) hx hb d_W_88 (by decide) ?_
  refine lv_iadd (pc := 89) hx hb d_W_89 ?_
  refine va_sld (pc := 90) hx hb hX hbl hbA hC.2.2 hi1 d_W_90 ?_
  refine lv_aload_n (pc := 91) hx hb d_W_91 rfl (lv_at hl 1 rfl) ?_
  refine lv_iload (pc := 92) hx hb d_W_92 (lv_at hl 0 rfl) ?_
  refine lv_iconst (pc := 94) (v := 2) hx hb d_W_94 (by decide) ?_
  refine lv_iadd (pc := 95) hx hb d_W_95 ?_
  refine va_sld (pc := 96) hx hb hX hbl hbA hC.2.2 hi2 d_W_96 ?_
  refine callIO (q0 := 0) (pc := 97) (As := [.int (xs (i + 1).toNatClampNeg), .int (xs (i + 2).toNatClampNeg)]) (rest := []) X (k_C_poke l g rt o st (xs (i + 1).toNatClampNeg) (xs (i + 2).toNatClampNeg)) hC (cw_of (n := 2) X w_C_poke wz_C vl_C_poke vi_C_poke vs_C_poke (by decide +kernel) rfl rfl ⟨by decide, by decide⟩) rfl rfl rfl hl.1 (Nat.le_of_ble_eq_true rfl) rfl d_W_97 ⟨hf.1, hf.2⟩ (fun r u H locs eu hC => ?_)
  refine lv_aload_n (pc := 100) hx hb d_W_100 rfl (lv_at hl 3 rfl) ?_
  refine lv_aload_n (pc := 101) hx hb d_W_101 rfl (lv_at hl 1 rfl) ?_
  refine lv_iload (pc := 102) hx hb d_W_102 (lv_at hl 0 rfl) ?_
  refine lv_iconst (pc := 104) (v := 1) hx hb d_W_104 (by decide) ?_
  refine lv_iadd (pc := 105) hx hb d_W_105 ?_
  refine va_sld (pc := 106) hx hb hX hbl hbA hC.2.2 hi1 d_W_106 ?_
  refine lv_aload_n (pc := 107) hx hb d_W_107 rfl (lv_at hl 1 rfl) ?_
  refine lv_iload (pc := 108) hx hb d_W_108 (lv_at hl 0 rfl) ?_
  refine lv_iconst (pc := 110) (v := 2) hx hb d_W_110 (by decide) ?_
  refine lv_iadd (pc := 111) hx hb d_W_111 ?_
  refine va_sld (pc := 112) hx hb hX hbl hbA hC.2.2 hi2 d_W_112 ?_
  refine callIO (q0 := 4) (pc := 113) (As := [.int (xs (i + 1).toNatClampNeg), .int (xs (i + 2).toNatClampNeg)]) (rest := [.int r]) X (k_M_poke l g u o rt (xs (i + 1).toNatClampNeg) (xs (i + 2).toNatClampNeg)) hC (cw_of (n := 2) X w_M_poke wz_M vl_M_poke vi_M_poke vs_M_poke (by decide +kernel) rfl rfl ⟨by decide, by decide⟩) rfl rfl rfl hl.1 (Nat.le_of_ble_eq_true rfl) rfl d_W_113 ⟨hf.1, hf.2⟩ (fun r2 u2 H locs eu2 hC => ?_)
  obtain ⟨e1, e2⟩ := sim_poke (xs (i + 1).toNatClampNeg) (xs (i + 2).toNatClampNeg) hR
  rw [eu, eu2] at e1 e2
  refine lv_icmp_eq (pc := 116) (tgt := 421) hx hb d_W_116 (by decide) (fun h1 => ?_) (fun h1 => absurd e1 h1)
  refine W.widen (Nat.le_add_right _ 1) (Nat.le_add_right _ 6) ?_
  exact NEXT _ _ _ u u2 o e2 hC hl
set_option maxHeartbeats 4000000 in
set_option maxRecDepth 100000 in
theorem lw_peek (X0 : LX p m c s b L xs g A) (hf : cells ≤ room_1.cells ∧ slots ≤ room_1.slots) (hi1 : vp_in (i + 1) L) (hR : RR st rt) (hC : HC g A s (wC g rt o st) H locs) (hl : lv_has ls 7 (lvW g b i)) (NEXT : NX p l e s m below meth c Q b g A i cells slots) : W p l e room_1 s m #[Value.ref b] below meth c H locs cells slots Q (F0 m 121 ls []) := by
  obtain ⟨X, tw, hX, hbl, hbA⟩ := X0
  obtain ⟨hx, hb⟩ := FX_xb X
  refine lv_aload_n (pc := 121) hx hb d_W_121 rfl (lv_at hl 2 rfl) ?_
  refine lv_aload_n (pc := 122) hx hb d_W_122 rfl (lv_at hl 1 rfl) ?_
  refine lv_iload (pc := 123) hx hb d_W_123 (lv_at hl 0 rfl) ?_
  refine lv_iconst (pc := 125) (v := 1) hx hb d_W_125 (by decide) ?_
  refine lv_iadd (pc := 126) hx hb d_W_126 ?_
  refine va_sld (pc := 127) hx hb hX hbl hbA hC.2.2 hi1 d_W_127 ?_
  refine callIO (q0 := 0) (pc := 128) (As := [.int (xs (i + 1).toNatClampNeg)]) (rest := []) X (k_C_peek l g rt o st (xs (i + 1).toNatClampNeg)) hC (cw_of (n := 1) X w_C_peek wz_C vl_C_peek vi_C_peek vs_C_peek (by decide +kernel) rfl rfl ⟨by decide, by decide⟩) rfl rfl rfl hl.1 (Nat.le_of_ble_eq_true rfl) rfl d_W_128 ⟨hf.1, hf.2⟩ (fun r u H locs eu hC => ?_)
  refine lv_aload_n (pc := 131) hx hb d_W_131 rfl (lv_at hl 3 rfl) ?_
  refine lv_aload_n (pc := 132) hx hb d_W_132 rfl (lv_at hl 1 rfl) ?_
  refine lv_iload (pc := 133) hx hb d_W_133 (lv_at hl 0 rfl) ?_
  refine lv_iconst (pc := 135) (v := 1) hx hb d_W_135 (by decide) ?_
  refine lv_iadd (pc := 136) hx hb d_W_136 ?_
  refine va_sld (pc := 137) hx hb hX hbl hbA hC.2.2 hi1 d_W_137 ?_
  refine callIO (q0 := 4) (pc := 138) (As := [.int (xs (i + 1).toNatClampNeg)]) (rest := [.int r]) X (k_M_peek l g u o rt (xs (i + 1).toNatClampNeg)) hC (cw_of (n := 1) X w_M_peek wz_M vl_M_peek vi_M_peek vs_M_peek (by decide +kernel) rfl rfl ⟨by decide, by decide⟩) rfl rfl rfl hl.1 (Nat.le_of_ble_eq_true rfl) rfl d_W_138 ⟨hf.1, hf.2⟩ (fun r2 u2 H locs eu2 hC => ?_)
  obtain ⟨e1, e2⟩ := sim_peek (xs (i + 1).toNatClampNeg) hR
  rw [eu, eu2] at e1 e2
  refine lv_icmp_eq (pc := 141) (tgt := 421) hx hb d_W_141 (by decide) (fun h1 => ?_) (fun h1 => absurd e1 h1)
  refine W.widen (Nat.le_add_right _ 1) (Nat.le_add_right _ 6) ?_
  exact NEXT _ _ _ u u2 o e2 hC hl
set_option maxHeartbeats 4000000 in
set_option maxRecDepth 100000 in
theorem lw_cycle (X0 : LX p m c s b L xs g A) (hf : cells ≤ room_1.cells ∧ slots ≤ room_1.slots) (hR : RR st rt) (hC : HC g A s (wC g rt o st) H locs) (hl : lv_has ls 7 (lvW g b i)) (NEXT : NX p l e s m below meth c Q b g A i cells slots) : W p l e room_1 s m #[Value.ref b] below meth c H locs cells slots Q (F0 m 146 ls []) := by
  obtain ⟨X, tw, hX, hbl, hbA⟩ := X0
  obtain ⟨hx, hb⟩ := FX_xb X
  refine lv_aload_n (pc := 146) hx hb d_W_146 rfl (lv_at hl 2 rfl) ?_
  refine callIO (q0 := 0) (pc := 147) (As := []) (rest := []) X (k_C_cycle l g rt o st) hC (cw_of (n := 0) X w_C_cycle wz_C vl_C_cycle vi_C_cycle vs_C_cycle (by decide +kernel) rfl rfl ⟨by decide, by decide⟩) rfl rfl rfl hl.1 (Nat.le_of_ble_eq_true rfl) rfl d_W_147 ⟨hf.1, hf.2⟩ (fun r u H locs eu hC => ?_)
  refine lv_aload_n (pc := 150) hx hb d_W_150 rfl (lv_at hl 3 rfl) ?_
  refine callIO (q0 := 4) (pc := 151) (As := []) (rest := [.int r]) X (k_M_cycle l g u o rt) hC (cw_of (n := 0) X w_M_cycle wz_M vl_M_cycle vi_M_cycle vs_M_cycle (by decide +kernel) rfl rfl ⟨by decide, by decide⟩) rfl rfl rfl hl.1 (Nat.le_of_ble_eq_true rfl) rfl d_W_151 ⟨hf.1, hf.2⟩ (fun r2 u2 H locs eu2 hC => ?_)
  obtain ⟨e1, e2⟩ := sim_one hR
  rw [eu, eu2] at e1 e2
  refine lv_icmp_eq (pc := 154) (tgt := 421) hx hb d_W_154 (by decide) (fun h1 => ?_) (fun h1 => absurd e1 h1)
  refine W.widen (Nat.le_add_right _ 1) (Nat.le_add_right _ 6) ?_
  exact NEXT _ _ _ u u2 o e2 hC hl
set_option maxHeartbeats 4000000 in
set_option maxRecDepth 100000 in
theorem lw_reset (X0 : LX p m c s b L xs g A) (hf : cells ≤ room_1.cells ∧ slots ≤ room_1.slots) (hR : RR st rt) (hC : HC g A s (wC g rt o st) H locs) (hl : lv_has ls 7 (lvW g b i)) (NEXT : NX p l e s m below meth c Q b g A i cells slots) : W p l e room_1 s m #[Value.ref b] below meth c H locs cells slots Q (F0 m 306 ls []) := by
  obtain ⟨X, tw, hX, hbl, hbA⟩ := X0
  obtain ⟨hx, hb⟩ := FX_xb X
  refine lv_aload_n (pc := 306) hx hb d_W_306 rfl (lv_at hl 2 rfl) ?_
  refine callVO (q0 := 0) (pc := 307) (As := []) (rest := []) X (k_C_reset l g rt o st) hC (cw_of (n := 0) X w_C_reset wz_C vl_C_reset vi_C_reset vs_C_reset (by decide +kernel) rfl rfl ⟨by decide, by decide⟩) rfl rfl rfl hl.1 (Nat.le_of_ble_eq_true rfl) rfl d_W_307 ⟨hf.1, hf.2⟩ (fun u H locs eu hC => ?_)
  refine lv_aload_n (pc := 310) hx hb d_W_310 rfl (lv_at hl 3 rfl) ?_
  refine callVO (q0 := 4) (pc := 311) (As := []) (rest := []) X (k_M_reset l g u o rt) hC (cw_of (n := 0) X w_M_reset wz_M vl_M_reset vi_M_reset vs_M_reset (by decide +kernel) rfl rfl ⟨by decide, by decide⟩) rfl rfl rfl hl.1 (Nat.le_of_ble_eq_true rfl) rfl d_W_311 ⟨hf.1, hf.2⟩ (fun u2 H locs eu2 hC => ?_)
  have e2 := sim_reset hR
  rw [eu, eu2] at e2
  refine lv_goto (pc := 314) (tgt := 421) hx hb d_W_314 (by decide) ?_
  refine W.widen (Nat.le_add_right _ 1) (Nat.le_add_right _ 6) ?_
  exact NEXT _ _ _ u u2 o e2 hC hl
set_option maxHeartbeats 4000000 in
set_option maxRecDepth 100000 in
theorem lw_cycles_1 (X0 : LX p m c s b L xs g A) (hf : cells ≤ room_1.cells ∧ slots ≤ room_1.slots) (hi1 : vp_in (i + 1) L) (hfl : l.flags = pinnedFlags ++ [noTraceFlag]) (hg : cells + 1 ≤ room_1.cells ∧ slots + 6 ≤ room_1.slots) (hR : RR st rt) (hC : HC g A s (wC g rt o st) H locs) (hl : lv_has ls 7 (lvW g b i)) (hq : xs (i + 1).toNatClampNeg < 0 ∨ ¬ xs (i + 1).toNatClampNeg ≤ 200) (NEXT : NX p l e s m below meth c Q b g A i cells slots) : W p l e room_1 s m #[Value.ref b] below meth c H locs cells slots Q (F0 m 159 ls []) := by
  obtain ⟨X, tw, hX, hbl, hbA⟩ := X0
  obtain ⟨hx, hb⟩ := FX_xb X
  refine lv_aload_n (pc := 159) hx hb d_W_159 rfl (lv_at hl 2 rfl) ?_
  refine lv_aload_n (pc := 160) hx hb d_W_160 rfl (lv_at hl 1 rfl) ?_
  refine lv_iload (pc := 161) hx hb d_W_161 (lv_at hl 0 rfl) ?_
  refine lv_iconst (pc := 163) (v := 1) hx hb d_W_163 (by decide) ?_
  refine lv_iadd (pc := 164) hx hb d_W_164 ?_
  refine va_sld (pc := 165) hx hb hX hbl hbA hC.2.2 hi1 d_W_165 ?_
  refine lv_aload_n (pc := 166) hx hb d_W_166 rfl (lv_at hl 4 rfl) ?_
  refine callHS (pc := 167) (As := [.ref g.chip, .int (xs (i + 1).toNatClampNeg), .ref g.out]) (rest := []) X tw (h_cycles_1 hfl g rt o st (xs (i + 1).toNatClampNeg) hq) hC (csw_of 3 X.1.2.2.2.2 wh_cycles rfl rfl wz_L vl_L_cycles vt_L_cycles (by decide +kernel) ⟨by decide, by decide⟩) hl.1 (Nat.le_of_ble_eq_true rfl) rfl d_W_167 ⟨hg.1, hg.2⟩ (fun H locs hC => ?_)
  refine lv_istore (pc := 170) (nL := 7) (lv' := [(5, .int 1), (4, .int i), (0, .ref b), (1, .ref g.chip), (2, .ref g.model), (3, .ref g.out)]) hx hb d_W_170 hl (by decide) rfl (fun ls hl => ?_)
  refine lv_aload_n (pc := 172) hx hb d_W_172 rfl (lv_at hl 4 rfl) ?_
  refine lv_aload_n (pc := 173) hx hb d_W_173 rfl (lv_at hl 2 rfl) ?_
  refine lv_iload (pc := 174) hx hb d_W_174 (lv_at hl 1 rfl) ?_
  refine lv_iconst (pc := 176) (v := 1) hx hb d_W_176 (by decide) ?_
  refine lv_iadd (pc := 177) hx hb d_W_177 ?_
  refine va_sld (pc := 178) hx hb hX hbl hbA hC.2.2 hi1 d_W_178 ?_
  refine callIO (q0 := 4) (pc := 179) (As := [.int (xs (i + 1).toNatClampNeg)]) (rest := []) X (k_M_cycles l g (st) o rt (xs (i + 1).toNatClampNeg)) hC (cw_of (n := 1) X w_M_cycles wz_M vl_M_cycles vi_M_cycles vs_M_cycles (by decide +kernel) rfl rfl ⟨by decide, by decide⟩) rfl rfl rfl hl.1 (Nat.le_of_ble_eq_true rfl) rfl d_W_179 ⟨hg.1, hg.2⟩ (fun r2 u2 H locs eu2 hC => ?_)
  rw [thr_cycles rt hq] at eu2
  cases eu2
  refine lv_istore (pc := 182) (nL := 7) (lv' := [(6, .int 0), (5, .int 1), (4, .int i), (0, .ref b), (1, .ref g.chip), (2, .ref g.model), (3, .ref g.out)]) hx hb d_W_182 hl (by decide) rfl (fun ls hl => ?_)
  refine lv_aload_n (pc := 184) hx hb d_W_184 rfl (lv_at hl 5 rfl) ?_
  refine callIO (q0 := 4) (pc := 185) (As := []) (rest := []) X (k_M_thrown l g (st) o (tV rt 27 1)) hC (cw_of (n := 0) X w_M_thrown wz_M vl_M_thrown vi_M_thrown vs_M_thrown (by decide +kernel) rfl rfl ⟨by decide, by decide⟩) rfl rfl rfl hl.1 (Nat.le_of_ble_eq_true rfl) rfl d_W_185 ⟨hg.1, hg.2⟩ (fun r3 u3 H locs eu3 hC => ?_)
  obtain ⟨h31, h32⟩ := Prod.mk.inj (show (((tV rt 27 1)).1 27, (tV rt 27 1)) = (r3, u3) from eu3)
  subst h31
  subst h32
  refine lv_iload (pc := 188) hx hb d_W_188 (lv_at hl 1 rfl) ?_
  refine lv_icmp_eq (pc := 190) (tgt := 195) hx hb d_W_190 (by decide) (fun h1 => ?_) (fun h1 => absurd rfl h1)
  refine lv_iload (pc := 195) hx hb d_W_195 (lv_at hl 1 rfl) ?_
  refine lv_if_ne (pc := 197) (tgt := 212) hx hb d_W_197 (by decide) (fun h2 => ?_) (fun h2 => absurd h2 (by decide))
  refine lv_goto (pc := 212) (tgt := 421) hx hb d_W_212 (by decide) ?_
  exact NEXT _ _ _ st (tV rt 27 1) o (RR_27 hR) hC (lv_sub hl [2, 3, 4, 5, 6] rfl)
set_option maxHeartbeats 4000000 in
set_option maxRecDepth 100000 in
theorem lw_cycles_0 (X0 : LX p m c s b L xs g A) (hf : cells ≤ room_1.cells ∧ slots ≤ room_1.slots) (hi1 : vp_in (i + 1) L) (hR : RR st rt) (hC : HC g A s (wC g rt o st) H locs) (hl : lv_has ls 7 (lvW g b i)) (hq1 : ¬ xs (i + 1).toNatClampNeg < 0) (hq2 : xs (i + 1).toNatClampNeg ≤ 200) (NEXT : NX p l e s m below meth c Q b g A i cells slots) : W p l e room_1 s m #[Value.ref b] below meth c H locs cells slots Q (F0 m 159 ls []) := by
  obtain ⟨X, tw, hX, hbl, hbA⟩ := X0
  obtain ⟨hx, hb⟩ := FX_xb X
  refine lv_aload_n (pc := 159) hx hb d_W_159 rfl (lv_at hl 2 rfl) ?_
  refine lv_aload_n (pc := 160) hx hb d_W_160 rfl (lv_at hl 1 rfl) ?_
  refine lv_iload (pc := 161) hx hb d_W_161 (lv_at hl 0 rfl) ?_
  refine lv_iconst (pc := 163) (v := 1) hx hb d_W_163 (by decide) ?_
  refine lv_iadd (pc := 164) hx hb d_W_164 ?_
  refine va_sld (pc := 165) hx hb hX hbl hbA hC.2.2 hi1 d_W_165 ?_
  refine lv_aload_n (pc := 166) hx hb d_W_166 rfl (lv_at hl 4 rfl) ?_
  refine callHS (pc := 167) (As := [.ref g.chip, .int (xs (i + 1).toNatClampNeg), .ref g.out]) (rest := []) X tw (h_cycles_0 l g rt o st (xs (i + 1).toNatClampNeg) hq1 hq2) hC (csw_of 3 X.1.2.2.2.2 wh_cycles rfl rfl wz_L vl_L_cycles vt_L_cycles (by decide +kernel) ⟨by decide, by decide⟩) hl.1 (Nat.le_of_ble_eq_true rfl) rfl d_W_167 ⟨hf.1, hf.2⟩ (fun H locs hC => ?_)
  refine lv_istore (pc := 170) (nL := 7) (lv' := [(5, .int 0), (4, .int i), (0, .ref b), (1, .ref g.chip), (2, .ref g.model), (3, .ref g.out)]) hx hb d_W_170 hl (by decide) rfl (fun ls hl => ?_)
  refine lv_aload_n (pc := 172) hx hb d_W_172 rfl (lv_at hl 4 rfl) ?_
  refine lv_aload_n (pc := 173) hx hb d_W_173 rfl (lv_at hl 2 rfl) ?_
  refine lv_iload (pc := 174) hx hb d_W_174 (lv_at hl 1 rfl) ?_
  refine lv_iconst (pc := 176) (v := 1) hx hb d_W_176 (by decide) ?_
  refine lv_iadd (pc := 177) hx hb d_W_177 ?_
  refine va_sld (pc := 178) hx hb hX hbl hbA hC.2.2 hi1 d_W_178 ?_
  refine callIO (q0 := 4) (pc := 179) (As := [.int (xs (i + 1).toNatClampNeg)]) (rest := []) X (k_M_cycles l g ((f_C_cycles st (xs (i + 1).toNatClampNeg)).2) (vp_updL o 0 (f_C_cycles st (xs (i + 1).toNatClampNeg)).1.toInt64) rt (xs (i + 1).toNatClampNeg)) hC (cw_of (n := 1) X w_M_cycles wz_M vl_M_cycles vi_M_cycles vs_M_cycles (by decide +kernel) rfl rfl ⟨by decide, by decide⟩) rfl rfl rfl hl.1 (Nat.le_of_ble_eq_true rfl) rfl d_W_179 ⟨hf.1, hf.2⟩ (fun r2 u2 H locs eu2 hC => ?_)
  obtain ⟨e1, e2, e3⟩ := sim_cycles hR hq1 hq2
  rw [eu2] at e1 e2 e3
  refine lv_istore (pc := 182) (nL := 7) (lv' := [(6, .int r2), (5, .int 0), (4, .int i), (0, .ref b), (1, .ref g.chip), (2, .ref g.model), (3, .ref g.out)]) hx hb d_W_182 hl (by decide) rfl (fun ls hl => ?_)
  refine lv_aload_n (pc := 184) hx hb d_W_184 rfl (lv_at hl 5 rfl) ?_
  refine callIO (q0 := 4) (pc := 185) (As := []) (rest := []) X (k_M_thrown l g ((f_C_cycles st (xs (i + 1).toNatClampNeg)).2) (vp_updL o 0 (f_C_cycles st (xs (i + 1).toNatClampNeg)).1.toInt64) u2) hC (cw_of (n := 0) X w_M_thrown wz_M vl_M_thrown vi_M_thrown vs_M_thrown (by decide +kernel) rfl rfl ⟨by decide, by decide⟩) rfl rfl rfl hl.1 (Nat.le_of_ble_eq_true rfl) rfl d_W_185 ⟨hf.1, hf.2⟩ (fun r3 u3 H locs eu3 hC => ?_)
  obtain ⟨h31, h32⟩ := Prod.mk.inj (show ((u2).1 27, u2) = (r3, u3) from eu3)
  subst h31
  subst h32
  refine lv_iload (pc := 188) hx hb d_W_188 (lv_at hl 1 rfl) ?_
  refine lv_icmp_eq (pc := 190) (tgt := 195) hx hb d_W_190 (by decide) (fun h1 => ?_) (fun h1 => absurd e3 h1)
  refine lv_iload (pc := 195) hx hb d_W_195 (lv_at hl 1 rfl) ?_
  refine lv_if_ne (pc := 197) (tgt := 212) hx hb d_W_197 (by decide) (fun h2 => absurd rfl h2) (fun h2 => ?_)
  refine lv_aload_n (pc := 200) hx hb d_W_200 rfl (lv_at hl 6 rfl) ?_
  refine lv_iconst (pc := 201) (v := 0) hx hb d_W_201 (by decide) ?_
  refine va_lald (i := 0) (pc := 202) hx hb X.2.1 hC.1 6 2 rfl rfl (by unfold vp_in; decide) d_W_202 ?_
  refine lv_iload (pc := 203) hx hb d_W_203 (lv_at hl 0 rfl) ?_
  refine lv_i2l (pc := 205) (v := r2.toInt64) hx hb d_W_205 rfl ?_
  refine W.lcmp (pc := 206) hx hb d_W_206 ?_
  have e4 : lg_cmp ((vp_updL o 0 (f_C_cycles st (xs (i + 1).toNatClampNeg)).1.toInt64) (0 : Int32).toNatClampNeg) r2.toInt64 = 0 := by rw [show (f_C_cycles st (xs (i + 1).toNatClampNeg)).1 = r2 from e1]; exact cmp_self _
  refine lv_if_eq (pc := 207) (tgt := 212) hx hb d_W_207 (by decide) (fun h3 => ?_) (fun h3 => absurd e4 h3)
  refine lv_goto (pc := 212) (tgt := 421) hx hb d_W_212 (by decide) ?_
  refine W.widen (Nat.le_add_right _ 1) (Nat.le_add_right _ 6) ?_
  exact NEXT _ _ _ _ u2 _ e2 hC (lv_sub hl [2, 3, 4, 5, 6] rfl)
set_option maxHeartbeats 4000000 in
set_option maxRecDepth 100000 in
theorem lw_register_1 (X0 : LX p m c s b L xs g A) (hf : cells ≤ room_1.cells ∧ slots ≤ room_1.slots) (hi1 : vp_in (i + 1) L) (hfl : l.flags = pinnedFlags ++ [noTraceFlag]) (hg : cells + 1 ≤ room_1.cells ∧ slots + 6 ≤ room_1.slots) (hR : RR st rt) (hC : HC g A s (wC g rt o st) H locs) (hl : lv_has ls 7 (lvW g b i)) (hq : xs (i + 1).toNatClampNeg < 0 ∨ ¬ xs (i + 1).toNatClampNeg ≤ 7) (NEXT : NX p l e s m below meth c Q b g A i cells slots) : W p l e room_1 s m #[Value.ref b] below meth c H locs cells slots Q (F0 m 317 ls []) := by
  obtain ⟨X, tw, hX, hbl, hbA⟩ := X0
  obtain ⟨hx, hb⟩ := FX_xb X
  refine lv_aload_n (pc := 317) hx hb d_W_317 rfl (lv_at hl 2 rfl) ?_
  refine lv_aload_n (pc := 318) hx hb d_W_318 rfl (lv_at hl 1 rfl) ?_
  refine lv_iload (pc := 319) hx hb d_W_319 (lv_at hl 0 rfl) ?_
  refine lv_iconst (pc := 321) (v := 1) hx hb d_W_321 (by decide) ?_
  refine lv_iadd (pc := 322) hx hb d_W_322 ?_
  refine va_sld (pc := 323) hx hb hX hbl hbA hC.2.2 hi1 d_W_323 ?_
  refine lv_aload_n (pc := 324) hx hb d_W_324 rfl (lv_at hl 4 rfl) ?_
  refine callHS (pc := 325) (As := [.ref g.chip, .int (xs (i + 1).toNatClampNeg), .ref g.out]) (rest := []) X tw (h_register_1 hfl g rt o st (xs (i + 1).toNatClampNeg) hq) hC (csw_of 3 X.1.2.2.2.2 wh_register rfl rfl wz_L vl_L_register vt_L_register (by decide +kernel) ⟨by decide, by decide⟩) hl.1 (Nat.le_of_ble_eq_true rfl) rfl d_W_325 ⟨hg.1, hg.2⟩ (fun H locs hC => ?_)
  refine lv_istore (pc := 328) (nL := 7) (lv' := [(5, .int 1), (4, .int i), (0, .ref b), (1, .ref g.chip), (2, .ref g.model), (3, .ref g.out)]) hx hb d_W_328 hl (by decide) rfl (fun ls hl => ?_)
  refine lv_aload_n (pc := 330) hx hb d_W_330 rfl (lv_at hl 4 rfl) ?_
  refine lv_aload_n (pc := 331) hx hb d_W_331 rfl (lv_at hl 2 rfl) ?_
  refine lv_iload (pc := 332) hx hb d_W_332 (lv_at hl 1 rfl) ?_
  refine lv_iconst (pc := 334) (v := 1) hx hb d_W_334 (by decide) ?_
  refine lv_iadd (pc := 335) hx hb d_W_335 ?_
  refine va_sld (pc := 336) hx hb hX hbl hbA hC.2.2 hi1 d_W_336 ?_
  refine callIO (q0 := 4) (pc := 337) (As := [.int (xs (i + 1).toNatClampNeg)]) (rest := []) X (k_M_register l g (st) o rt (xs (i + 1).toNatClampNeg)) hC (cw_of (n := 1) X w_M_register wz_M vl_M_register vi_M_register vs_M_register (by decide +kernel) rfl rfl ⟨by decide, by decide⟩) rfl rfl rfl hl.1 (Nat.le_of_ble_eq_true rfl) rfl d_W_337 ⟨hg.1, hg.2⟩ (fun r2 u2 H locs eu2 hC => ?_)
  rw [thr_register rt hq] at eu2
  cases eu2
  refine lv_istore (pc := 340) (nL := 7) (lv' := [(6, .int 0), (5, .int 1), (4, .int i), (0, .ref b), (1, .ref g.chip), (2, .ref g.model), (3, .ref g.out)]) hx hb d_W_340 hl (by decide) rfl (fun ls hl => ?_)
  refine lv_aload_n (pc := 342) hx hb d_W_342 rfl (lv_at hl 5 rfl) ?_
  refine callIO (q0 := 4) (pc := 343) (As := []) (rest := []) X (k_M_thrown l g (st) o (tV rt 27 1)) hC (cw_of (n := 0) X w_M_thrown wz_M vl_M_thrown vi_M_thrown vs_M_thrown (by decide +kernel) rfl rfl ⟨by decide, by decide⟩) rfl rfl rfl hl.1 (Nat.le_of_ble_eq_true rfl) rfl d_W_343 ⟨hg.1, hg.2⟩ (fun r3 u3 H locs eu3 hC => ?_)
  obtain ⟨h31, h32⟩ := Prod.mk.inj (show (((tV rt 27 1)).1 27, (tV rt 27 1)) = (r3, u3) from eu3)
  subst h31
  subst h32
  refine lv_iload (pc := 346) hx hb d_W_346 (lv_at hl 1 rfl) ?_
  refine lv_icmp_eq (pc := 348) (tgt := 353) hx hb d_W_348 (by decide) (fun h1 => ?_) (fun h1 => absurd rfl h1)
  refine lv_iload (pc := 353) hx hb d_W_353 (lv_at hl 1 rfl) ?_
  refine lv_if_ne (pc := 355) (tgt := 370) hx hb d_W_355 (by decide) (fun h2 => ?_) (fun h2 => absurd h2 (by decide))
  refine lv_goto (pc := 370) (tgt := 421) hx hb d_W_370 (by decide) ?_
  exact NEXT _ _ _ st (tV rt 27 1) o (RR_27 hR) hC (lv_sub hl [2, 3, 4, 5, 6] rfl)
set_option maxHeartbeats 4000000 in
set_option maxRecDepth 100000 in
theorem lw_register_0 (X0 : LX p m c s b L xs g A) (hf : cells ≤ room_1.cells ∧ slots ≤ room_1.slots) (hi1 : vp_in (i + 1) L) (hR : RR st rt) (hC : HC g A s (wC g rt o st) H locs) (hl : lv_has ls 7 (lvW g b i)) (hq1 : ¬ xs (i + 1).toNatClampNeg < 0) (hq2 : xs (i + 1).toNatClampNeg ≤ 7) (NEXT : NX p l e s m below meth c Q b g A i cells slots) : W p l e room_1 s m #[Value.ref b] below meth c H locs cells slots Q (F0 m 317 ls []) := by
  obtain ⟨X, tw, hX, hbl, hbA⟩ := X0
  obtain ⟨hx, hb⟩ := FX_xb X
  refine lv_aload_n (pc := 317) hx hb d_W_317 rfl (lv_at hl 2 rfl) ?_
  refine lv_aload_n (pc := 318) hx hb d_W_318 rfl (lv_at hl 1 rfl) ?_
  refine lv_iload (pc := 319) hx hb d_W_319 (lv_at hl 0 rfl) ?_
  refine lv_iconst (pc := 321) (v := 1) hx hb d_W_321 (by decide) ?_
  refine lv_iadd (pc := 322) hx hb d_W_322 ?_
  refine va_sld (pc := 323) hx hb hX hbl hbA hC.2.2 hi1 d_W_323 ?_
  refine lv_aload_n (pc := 324) hx hb d_W_324 rfl (lv_at hl 4 rfl) ?_
  refine callHS (pc := 325) (As := [.ref g.chip, .int (xs (i + 1).toNatClampNeg), .ref g.out]) (rest := []) X tw (h_register_0 l g rt o st (xs (i + 1).toNatClampNeg) hq1 hq2) hC (csw_of 3 X.1.2.2.2.2 wh_register rfl rfl wz_L vl_L_register vt_L_register (by decide +kernel) ⟨by decide, by decide⟩) hl.1 (Nat.le_of_ble_eq_true rfl) rfl d_W_325 ⟨hf.1, hf.2⟩ (fun H locs hC => ?_)
  refine lv_istore (pc := 328) (nL := 7) (lv' := [(5, .int 0), (4, .int i), (0, .ref b), (1, .ref g.chip), (2, .ref g.model), (3, .ref g.out)]) hx hb d_W_328 hl (by decide) rfl (fun ls hl => ?_)
  refine lv_aload_n (pc := 330) hx hb d_W_330 rfl (lv_at hl 4 rfl) ?_
  refine lv_aload_n (pc := 331) hx hb d_W_331 rfl (lv_at hl 2 rfl) ?_
  refine lv_iload (pc := 332) hx hb d_W_332 (lv_at hl 1 rfl) ?_
  refine lv_iconst (pc := 334) (v := 1) hx hb d_W_334 (by decide) ?_
  refine lv_iadd (pc := 335) hx hb d_W_335 ?_
  refine va_sld (pc := 336) hx hb hX hbl hbA hC.2.2 hi1 d_W_336 ?_
  refine callIO (q0 := 4) (pc := 337) (As := [.int (xs (i + 1).toNatClampNeg)]) (rest := []) X (k_M_register l g ((f_C_register st (xs (i + 1).toNatClampNeg)).2) (vp_updL o 0 (f_C_register st (xs (i + 1).toNatClampNeg)).1.toInt64) rt (xs (i + 1).toNatClampNeg)) hC (cw_of (n := 1) X w_M_register wz_M vl_M_register vi_M_register vs_M_register (by decide +kernel) rfl rfl ⟨by decide, by decide⟩) rfl rfl rfl hl.1 (Nat.le_of_ble_eq_true rfl) rfl d_W_337 ⟨hf.1, hf.2⟩ (fun r2 u2 H locs eu2 hC => ?_)
  obtain ⟨e1, e2, e3⟩ := sim_register hR hq1 hq2
  rw [eu2] at e1 e2 e3
  refine lv_istore (pc := 340) (nL := 7) (lv' := [(6, .int r2), (5, .int 0), (4, .int i), (0, .ref b), (1, .ref g.chip), (2, .ref g.model), (3, .ref g.out)]) hx hb d_W_340 hl (by decide) rfl (fun ls hl => ?_)
  refine lv_aload_n (pc := 342) hx hb d_W_342 rfl (lv_at hl 5 rfl) ?_
  refine callIO (q0 := 4) (pc := 343) (As := []) (rest := []) X (k_M_thrown l g ((f_C_register st (xs (i + 1).toNatClampNeg)).2) (vp_updL o 0 (f_C_register st (xs (i + 1).toNatClampNeg)).1.toInt64) u2) hC (cw_of (n := 0) X w_M_thrown wz_M vl_M_thrown vi_M_thrown vs_M_thrown (by decide +kernel) rfl rfl ⟨by decide, by decide⟩) rfl rfl rfl hl.1 (Nat.le_of_ble_eq_true rfl) rfl d_W_343 ⟨hf.1, hf.2⟩ (fun r3 u3 H locs eu3 hC => ?_)
  obtain ⟨h31, h32⟩ := Prod.mk.inj (show ((u2).1 27, u2) = (r3, u3) from eu3)
  subst h31
  subst h32
  refine lv_iload (pc := 346) hx hb d_W_346 (lv_at hl 1 rfl) ?_
  refine lv_icmp_eq (pc := 348) (tgt := 353) hx hb d_W_348 (by decide) (fun h1 => ?_) (fun h1 => absurd e3 h1)
  refine lv_iload (pc := 353) hx hb d_W_353 (lv_at hl 1 rfl) ?_
  refine lv_if_ne (pc := 355) (tgt := 370) hx hb d_W_355 (by decide) (fun h2 => absurd rfl h2) (fun h2 => ?_)
  refine lv_aload_n (pc := 358) hx hb d_W_358 rfl (lv_at hl 6 rfl) ?_
  refine lv_iconst (pc := 359) (v := 0) hx hb d_W_359 (by decide) ?_
  refine va_lald (i := 0) (pc := 360) hx hb X.2.1 hC.1 6 2 rfl rfl (by unfold vp_in; decide) d_W_360 ?_
  refine lv_iload (pc := 361) hx hb d_W_361 (lv_at hl 0 rfl) ?_
  refine lv_i2l (pc := 363) (v := r2.toInt64) hx hb d_W_363 rfl ?_
  refine W.lcmp (pc := 364) hx hb d_W_364 ?_
  have e4 : lg_cmp ((vp_updL o 0 (f_C_register st (xs (i + 1).toNatClampNeg)).1.toInt64) (0 : Int32).toNatClampNeg) r2.toInt64 = 0 := by rw [show (f_C_register st (xs (i + 1).toNatClampNeg)).1 = r2 from e1]; exact cmp_self _
  refine lv_if_eq (pc := 365) (tgt := 370) hx hb d_W_365 (by decide) (fun h3 => ?_) (fun h3 => absurd e4 h3)
  refine lv_goto (pc := 370) (tgt := 421) hx hb d_W_370 (by decide) ?_
  refine W.widen (Nat.le_add_right _ 1) (Nat.le_add_right _ 6) ?_
  exact NEXT _ _ _ _ u2 _ e2 hC (lv_sub hl [2, 3, 4, 5, 6] rfl)
set_option maxHeartbeats 4000000 in
set_option maxRecDepth 100000 in
theorem lw_set_0 (X0 : LX p m c s b L xs g A) (hf : cells ≤ room_1.cells ∧ slots ≤ room_1.slots) (hi1 : vp_in (i + 1) L) (hi2 : vp_in (i + 2) L) (hR : RR st rt) (hC : HC g A s (wC g rt o st) H locs) (hl : lv_has ls 7 (lvW g b i)) (hq1 : ¬ xs (i + 1).toNatClampNeg < 0) (hq2 : xs (i + 1).toNatClampNeg ≤ 5) (hq3 : st.2.1 = (0 : Fin 35)) (NEXT : NX p l e s m below meth c Q b g A i cells slots) : W p l e room_1 s m #[Value.ref b] below meth c H locs cells slots Q (F0 m 373 ls []) := by
  obtain ⟨X, tw, hX, hbl, hbA⟩ := X0
  obtain ⟨hx, hb⟩ := FX_xb X
  refine lv_aload_n (pc := 373) hx hb d_W_373 rfl (lv_at hl 2 rfl) ?_
  refine lv_aload_n (pc := 374) hx hb d_W_374 rfl (lv_at hl 1 rfl) ?_
  refine lv_iload (pc := 375) hx hb d_W_375 (lv_at hl 0 rfl) ?_
  refine lv_iconst (pc := 377) (v := 1) hx hb d_W_377 (by decide) ?_
  refine lv_iadd (pc := 378) hx hb d_W_378 ?_
  refine va_sld (pc := 379) hx hb hX hbl hbA hC.2.2 hi1 d_W_379 ?_
  refine lv_aload_n (pc := 380) hx hb d_W_380 rfl (lv_at hl 1 rfl) ?_
  refine lv_iload (pc := 381) hx hb d_W_381 (lv_at hl 0 rfl) ?_
  refine lv_iconst (pc := 383) (v := 2) hx hb d_W_383 (by decide) ?_
  refine lv_iadd (pc := 384) hx hb d_W_384 ?_
  refine va_sld (pc := 385) hx hb hX hbl hbA hC.2.2 hi2 d_W_385 ?_
  refine callHS (pc := 386) (As := [.ref g.chip, .int (xs (i + 1).toNatClampNeg), .int (xs (i + 2).toNatClampNeg)]) (rest := []) X tw (h_set_0 l g rt o st (xs (i + 1).toNatClampNeg) (xs (i + 2).toNatClampNeg) hq1 hq2 hq3) hC (csw_of 3 X.1.2.2.2.2 wh_set rfl rfl wz_L vl_L_set vt_L_set (by decide +kernel) ⟨by decide, by decide⟩) hl.1 (Nat.le_of_ble_eq_true rfl) rfl d_W_386 ⟨hf.1, hf.2⟩ (fun H locs hC => ?_)
  refine lv_istore (pc := 389) (nL := 7) (lv' := [(5, .int 0), (4, .int i), (0, .ref b), (1, .ref g.chip), (2, .ref g.model), (3, .ref g.out)]) hx hb d_W_389 hl (by decide) rfl (fun ls hl => ?_)
  refine lv_aload_n (pc := 391) hx hb d_W_391 rfl (lv_at hl 4 rfl) ?_
  refine lv_aload_n (pc := 392) hx hb d_W_392 rfl (lv_at hl 2 rfl) ?_
  refine lv_iload (pc := 393) hx hb d_W_393 (lv_at hl 1 rfl) ?_
  refine lv_iconst (pc := 395) (v := 1) hx hb d_W_395 (by decide) ?_
  refine lv_iadd (pc := 396) hx hb d_W_396 ?_
  refine va_sld (pc := 397) hx hb hX hbl hbA hC.2.2 hi1 d_W_397 ?_
  refine lv_aload_n (pc := 398) hx hb d_W_398 rfl (lv_at hl 2 rfl) ?_
  refine lv_iload (pc := 399) hx hb d_W_399 (lv_at hl 1 rfl) ?_
  refine lv_iconst (pc := 401) (v := 2) hx hb d_W_401 (by decide) ?_
  refine lv_iadd (pc := 402) hx hb d_W_402 ?_
  refine va_sld (pc := 403) hx hb hX hbl hbA hC.2.2 hi2 d_W_403 ?_
  refine callVO (q0 := 4) (pc := 404) (As := [.int (xs (i + 1).toNatClampNeg), .int (xs (i + 2).toNatClampNeg)]) (rest := []) X (k_M_set l g (f_C_set st (xs (i + 1).toNatClampNeg) (xs (i + 2).toNatClampNeg)) o rt (xs (i + 1).toNatClampNeg) (xs (i + 2).toNatClampNeg)) hC (cw_of (n := 2) X w_M_set wz_M vl_M_set vi_M_set vs_M_set (by decide +kernel) rfl rfl ⟨by decide, by decide⟩) rfl rfl rfl hl.1 (Nat.le_of_ble_eq_true rfl) rfl d_W_404 ⟨hf.1, hf.2⟩ (fun u2 H locs eu2 hC => ?_)
  obtain ⟨e2, e3⟩ := sim_set (w := xs (i + 2).toNatClampNeg) hR hq1 hq2 hq3
  rw [eu2] at e2 e3
  refine lv_aload_n (pc := 407) hx hb d_W_407 rfl (lv_at hl 4 rfl) ?_
  refine callIO (q0 := 4) (pc := 408) (As := []) (rest := []) X (k_M_thrown l g (f_C_set st (xs (i + 1).toNatClampNeg) (xs (i + 2).toNatClampNeg)) o u2) hC (cw_of (n := 0) X w_M_thrown wz_M vl_M_thrown vi_M_thrown vs_M_thrown (by decide +kernel) rfl rfl ⟨by decide, by decide⟩) rfl rfl rfl hl.1 (Nat.le_of_ble_eq_true rfl) rfl d_W_408 ⟨hf.1, hf.2⟩ (fun r3 u3 H locs eu3 hC => ?_)
  obtain ⟨h31, h32⟩ := Prod.mk.inj (show ((u2).1 27, u2) = (r3, u3) from eu3)
  subst h31
  subst h32
  refine lv_iload (pc := 411) hx hb d_W_411 (lv_at hl 0 rfl) ?_
  refine lv_icmp_eq (pc := 413) (tgt := 418) hx hb d_W_413 (by decide) (fun h1 => ?_) (fun h1 => absurd e3 h1)
  refine lv_goto (pc := 418) (tgt := 421) hx hb d_W_418 (by decide) ?_
  refine W.widen (Nat.le_add_right _ 1) (Nat.le_add_right _ 6) ?_
  exact NEXT _ _ _ _ u2 o e2 hC (lv_sub hl [1, 2, 3, 4, 5] rfl)
set_option maxHeartbeats 4000000 in
set_option maxRecDepth 100000 in
theorem lw_set_1 (X0 : LX p m c s b L xs g A) (hf : cells ≤ room_1.cells ∧ slots ≤ room_1.slots) (hi1 : vp_in (i + 1) L) (hi2 : vp_in (i + 2) L) (hfl : l.flags = pinnedFlags ++ [noTraceFlag]) (hg : cells + 1 ≤ room_1.cells ∧ slots + 6 ≤ room_1.slots) (hR : RR st rt) (hC : HC g A s (wC g rt o st) H locs) (hl : lv_has ls 7 (lvW g b i)) (hq : xs (i + 1).toNatClampNeg < 0 ∨ ¬ xs (i + 1).toNatClampNeg ≤ 5) (NEXT : NX p l e s m below meth c Q b g A i cells slots) : W p l e room_1 s m #[Value.ref b] below meth c H locs cells slots Q (F0 m 373 ls []) := by
  obtain ⟨X, tw, hX, hbl, hbA⟩ := X0
  obtain ⟨hx, hb⟩ := FX_xb X
  refine lv_aload_n (pc := 373) hx hb d_W_373 rfl (lv_at hl 2 rfl) ?_
  refine lv_aload_n (pc := 374) hx hb d_W_374 rfl (lv_at hl 1 rfl) ?_
  refine lv_iload (pc := 375) hx hb d_W_375 (lv_at hl 0 rfl) ?_
  refine lv_iconst (pc := 377) (v := 1) hx hb d_W_377 (by decide) ?_
  refine lv_iadd (pc := 378) hx hb d_W_378 ?_
  refine va_sld (pc := 379) hx hb hX hbl hbA hC.2.2 hi1 d_W_379 ?_
  refine lv_aload_n (pc := 380) hx hb d_W_380 rfl (lv_at hl 1 rfl) ?_
  refine lv_iload (pc := 381) hx hb d_W_381 (lv_at hl 0 rfl) ?_
  refine lv_iconst (pc := 383) (v := 2) hx hb d_W_383 (by decide) ?_
  refine lv_iadd (pc := 384) hx hb d_W_384 ?_
  refine va_sld (pc := 385) hx hb hX hbl hbA hC.2.2 hi2 d_W_385 ?_
  refine callHS (pc := 386) (As := [.ref g.chip, .int (xs (i + 1).toNatClampNeg), .int (xs (i + 2).toNatClampNeg)]) (rest := []) X tw (h_set_1 hfl g rt o st (xs (i + 1).toNatClampNeg) (xs (i + 2).toNatClampNeg) hq) hC (csw_of 3 X.1.2.2.2.2 wh_set rfl rfl wz_L vl_L_set vt_L_set (by decide +kernel) ⟨by decide, by decide⟩) hl.1 (Nat.le_of_ble_eq_true rfl) rfl d_W_386 ⟨hg.1, hg.2⟩ (fun H locs hC => ?_)
  refine lv_istore (pc := 389) (nL := 7) (lv' := [(5, .int 1), (4, .int i), (0, .ref b), (1, .ref g.chip), (2, .ref g.model), (3, .ref g.out)]) hx hb d_W_389 hl (by decide) rfl (fun ls hl => ?_)
  refine lv_aload_n (pc := 391) hx hb d_W_391 rfl (lv_at hl 4 rfl) ?_
  refine lv_aload_n (pc := 392) hx hb d_W_392 rfl (lv_at hl 2 rfl) ?_
  refine lv_iload (pc := 393) hx hb d_W_393 (lv_at hl 1 rfl) ?_
  refine lv_iconst (pc := 395) (v := 1) hx hb d_W_395 (by decide) ?_
  refine lv_iadd (pc := 396) hx hb d_W_396 ?_
  refine va_sld (pc := 397) hx hb hX hbl hbA hC.2.2 hi1 d_W_397 ?_
  refine lv_aload_n (pc := 398) hx hb d_W_398 rfl (lv_at hl 2 rfl) ?_
  refine lv_iload (pc := 399) hx hb d_W_399 (lv_at hl 1 rfl) ?_
  refine lv_iconst (pc := 401) (v := 2) hx hb d_W_401 (by decide) ?_
  refine lv_iadd (pc := 402) hx hb d_W_402 ?_
  refine va_sld (pc := 403) hx hb hX hbl hbA hC.2.2 hi2 d_W_403 ?_
  refine callVO (q0 := 4) (pc := 404) (As := [.int (xs (i + 1).toNatClampNeg), .int (xs (i + 2).toNatClampNeg)]) (rest := []) X (k_M_set l g (st) o rt (xs (i + 1).toNatClampNeg) (xs (i + 2).toNatClampNeg)) hC (cw_of (n := 2) X w_M_set wz_M vl_M_set vi_M_set vs_M_set (by decide +kernel) rfl rfl ⟨by decide, by decide⟩) rfl rfl rfl hl.1 (Nat.le_of_ble_eq_true rfl) rfl d_W_404 ⟨hg.1, hg.2⟩ (fun u2 H locs eu2 hC => ?_)
  rw [thr_set1 rt hq] at eu2
  subst eu2
  refine lv_aload_n (pc := 407) hx hb d_W_407 rfl (lv_at hl 4 rfl) ?_
  refine callIO (q0 := 4) (pc := 408) (As := []) (rest := []) X (k_M_thrown l g (st) o (tV rt 27 1)) hC (cw_of (n := 0) X w_M_thrown wz_M vl_M_thrown vi_M_thrown vs_M_thrown (by decide +kernel) rfl rfl ⟨by decide, by decide⟩) rfl rfl rfl hl.1 (Nat.le_of_ble_eq_true rfl) rfl d_W_408 ⟨hg.1, hg.2⟩ (fun r3 u3 H locs eu3 hC => ?_)
  obtain ⟨h31, h32⟩ := Prod.mk.inj (show (((tV rt 27 1)).1 27, (tV rt 27 1)) = (r3, u3) from eu3)
  subst h31
  subst h32
  refine lv_iload (pc := 411) hx hb d_W_411 (lv_at hl 0 rfl) ?_
  refine lv_icmp_eq (pc := 413) (tgt := 418) hx hb d_W_413 (by decide) (fun h1 => ?_) (fun h1 => absurd rfl h1)
  refine lv_goto (pc := 418) (tgt := 421) hx hb d_W_418 (by decide) ?_
  exact NEXT _ _ _ st (tV rt 27 1) o (RR_27 hR) hC (lv_sub hl [1, 2, 3, 4, 5] rfl)
set_option maxHeartbeats 4000000 in
set_option maxRecDepth 100000 in
theorem lw_set_2 (X0 : LX p m c s b L xs g A) (hf : cells ≤ room_1.cells ∧ slots ≤ room_1.slots) (hi1 : vp_in (i + 1) L) (hi2 : vp_in (i + 2) L) (hfl : l.flags = pinnedFlags ++ [noTraceFlag]) (hg : cells + 1 ≤ room_1.cells ∧ slots + 6 ≤ room_1.slots) (hR : RR st rt) (hC : HC g A s (wC g rt o st) H locs) (hl : lv_has ls 7 (lvW g b i)) (hq1 : ¬ xs (i + 1).toNatClampNeg < 0) (hq2 : xs (i + 1).toNatClampNeg ≤ 5) (hq3 : ¬ st.2.1 = (0 : Fin 35)) (NEXT : NX p l e s m below meth c Q b g A i cells slots) : W p l e room_1 s m #[Value.ref b] below meth c H locs cells slots Q (F0 m 373 ls []) := by
  obtain ⟨X, tw, hX, hbl, hbA⟩ := X0
  obtain ⟨hx, hb⟩ := FX_xb X
  refine lv_aload_n (pc := 373) hx hb d_W_373 rfl (lv_at hl 2 rfl) ?_
  refine lv_aload_n (pc := 374) hx hb d_W_374 rfl (lv_at hl 1 rfl) ?_
  refine lv_iload (pc := 375) hx hb d_W_375 (lv_at hl 0 rfl) ?_
  refine lv_iconst (pc := 377) (v := 1) hx hb d_W_377 (by decide) ?_
  refine lv_iadd (pc := 378) hx hb d_W_378 ?_
  refine va_sld (pc := 379) hx hb hX hbl hbA hC.2.2 hi1 d_W_379 ?_
  refine lv_aload_n (pc := 380) hx hb d_W_380 rfl (lv_at hl 1 rfl) ?_
  refine lv_iload (pc := 381) hx hb d_W_381 (lv_at hl 0 rfl) ?_
  refine lv_iconst (pc := 383) (v := 2) hx hb d_W_383 (by decide) ?_
  refine lv_iadd (pc := 384) hx hb d_W_384 ?_
  refine va_sld (pc := 385) hx hb hX hbl hbA hC.2.2 hi2 d_W_385 ?_
  refine callHS (pc := 386) (As := [.ref g.chip, .int (xs (i + 1).toNatClampNeg), .int (xs (i + 2).toNatClampNeg)]) (rest := []) X tw (h_set_2 hfl g rt o st (xs (i + 1).toNatClampNeg) (xs (i + 2).toNatClampNeg) hq1 hq2 hq3) hC (csw_of 3 X.1.2.2.2.2 wh_set rfl rfl wz_L vl_L_set vt_L_set (by decide +kernel) ⟨by decide, by decide⟩) hl.1 (Nat.le_of_ble_eq_true rfl) rfl d_W_386 ⟨hg.1, hg.2⟩ (fun H locs hC => ?_)
  refine lv_istore (pc := 389) (nL := 7) (lv' := [(5, .int 2), (4, .int i), (0, .ref b), (1, .ref g.chip), (2, .ref g.model), (3, .ref g.out)]) hx hb d_W_389 hl (by decide) rfl (fun ls hl => ?_)
  refine lv_aload_n (pc := 391) hx hb d_W_391 rfl (lv_at hl 4 rfl) ?_
  refine lv_aload_n (pc := 392) hx hb d_W_392 rfl (lv_at hl 2 rfl) ?_
  refine lv_iload (pc := 393) hx hb d_W_393 (lv_at hl 1 rfl) ?_
  refine lv_iconst (pc := 395) (v := 1) hx hb d_W_395 (by decide) ?_
  refine lv_iadd (pc := 396) hx hb d_W_396 ?_
  refine va_sld (pc := 397) hx hb hX hbl hbA hC.2.2 hi1 d_W_397 ?_
  refine lv_aload_n (pc := 398) hx hb d_W_398 rfl (lv_at hl 2 rfl) ?_
  refine lv_iload (pc := 399) hx hb d_W_399 (lv_at hl 1 rfl) ?_
  refine lv_iconst (pc := 401) (v := 2) hx hb d_W_401 (by decide) ?_
  refine lv_iadd (pc := 402) hx hb d_W_402 ?_
  refine va_sld (pc := 403) hx hb hX hbl hbA hC.2.2 hi2 d_W_403 ?_
  refine callVO (q0 := 4) (pc := 404) (As := [.int (xs (i + 1).toNatClampNeg), .int (xs (i + 2).toNatClampNeg)]) (rest := []) X (k_M_set l g (st) o rt (xs (i + 1).toNatClampNeg) (xs (i + 2).toNatClampNeg)) hC (cw_of (n := 2) X w_M_set wz_M vl_M_set vi_M_set vs_M_set (by decide +kernel) rfl rfl ⟨by decide, by decide⟩) rfl rfl rfl hl.1 (Nat.le_of_ble_eq_true rfl) rfl d_W_404 ⟨hg.1, hg.2⟩ (fun u2 H locs eu2 hC => ?_)
  rw [thr_set2 hR hq1 hq2 hq3] at eu2
  subst eu2
  refine lv_aload_n (pc := 407) hx hb d_W_407 rfl (lv_at hl 4 rfl) ?_
  refine callIO (q0 := 4) (pc := 408) (As := []) (rest := []) X (k_M_thrown l g (st) o (tV rt 27 2)) hC (cw_of (n := 0) X w_M_thrown wz_M vl_M_thrown vi_M_thrown vs_M_thrown (by decide +kernel) rfl rfl ⟨by decide, by decide⟩) rfl rfl rfl hl.1 (Nat.le_of_ble_eq_true rfl) rfl d_W_408 ⟨hg.1, hg.2⟩ (fun r3 u3 H locs eu3 hC => ?_)
  obtain ⟨h31, h32⟩ := Prod.mk.inj (show (((tV rt 27 2)).1 27, (tV rt 27 2)) = (r3, u3) from eu3)
  subst h31
  subst h32
  refine lv_iload (pc := 411) hx hb d_W_411 (lv_at hl 0 rfl) ?_
  refine lv_icmp_eq (pc := 413) (tgt := 418) hx hb d_W_413 (by decide) (fun h1 => ?_) (fun h1 => absurd rfl h1)
  refine lv_goto (pc := 418) (tgt := 421) hx hb d_W_418 (by decide) ?_
  exact NEXT _ _ _ st (tV rt 27 2) o (RR_27 hR) hC (lv_sub hl [1, 2, 3, 4, 5] rfl)
theorem vp_in_4 {p : Int32} (h1 : ¬ p < 0) (h2 : p ≤ 3) : vp_in p 4 := by
  rcases i_lt4 h1 h2 with h | h | h | h <;> (subst h; unfold vp_in; decide)
set_option maxHeartbeats 4000000 in
set_option maxRecDepth 100000 in
theorem lw_pin_0 (X0 : LX p m c s b L xs g A) (hf : cells ≤ room_1.cells ∧ slots ≤ room_1.slots) (hi1 : vp_in (i + 1) L) (hi2 : vp_in (i + 2) L) (hR : RR st rt) (hC : HC g A s (wC g rt o st) H locs) (hl : lv_has ls 7 (lvW g b i)) (hq1 : ¬ xs (i + 1).toNatClampNeg < 0) (hq2 : xs (i + 1).toNatClampNeg ≤ 3) (NEXT : NX p l e s m below meth c Q b g A i cells slots) : W p l e room_1 s m #[Value.ref b] below meth c H locs cells slots Q (F0 m 215 ls []) := by
  obtain ⟨X, tw, hX, hbl, hbA⟩ := X0
  obtain ⟨hx, hb⟩ := FX_xb X
  have B263 : ∀ (H : Heap) (locs : List Loc) (ls : Array Slot) (z : Int32), z = zI (xs (i + 2).toNatClampNeg) → HC g A s (wC g rt (vp_updL o 0 (zJ (f_C_pin st (xs (i + 1).toNatClampNeg) (zI (xs (i + 2).toNatClampNeg))).1)) ((f_C_pin st (xs (i + 1).toNatClampNeg) (zI (xs (i + 2).toNatClampNeg))).2)) H locs → lv_has ls 7 [(5, .int 0), (4, .int i), (0, .ref b), (1, .ref g.chip), (2, .ref g.model), (3, .ref g.out)] → W p l e room_1 s m #[Value.ref b] below meth c H locs cells slots Q (F0 m 263 ls [.int z, .int (xs (i + 1).toNatClampNeg), .ref g.model]) := by
    intro H locs ls z ez hC hl
    subst ez
    refine callZO (q0 := 4) (pc := 263) (As := [.int (xs (i + 1).toNatClampNeg), .int (zI (xs (i + 2).toNatClampNeg))]) (rest := []) X (k_M_pin l g ((f_C_pin st (xs (i + 1).toNatClampNeg) (zI (xs (i + 2).toNatClampNeg))).2) (vp_updL o 0 (zJ (f_C_pin st (xs (i + 1).toNatClampNeg) (zI (xs (i + 2).toNatClampNeg))).1)) rt (xs (i + 1).toNatClampNeg) (zI (xs (i + 2).toNatClampNeg)) (zI_b _) hR.1.2.2.2.2.2.2.1) hC (cw_of (n := 2) X w_M_pin wz_M vl_M_pin vi_M_pin vs_M_pin (by decide +kernel) rfl rfl ⟨by decide, by decide⟩) rfl rfl rfl hl.1 (Nat.le_of_ble_eq_true rfl) rfl d_W_263 ⟨hf.1, hf.2⟩ (fun r2 u2 H locs eu2 hz2 hC => ?_)
    obtain ⟨e1, e2, e3⟩ := sim_pin (v := zI (xs (i + 2).toNatClampNeg)) hR hq1 hq2 (zI_b _)
    rw [eu2] at e1 e2 e3
    refine lv_istore (pc := 266) (nL := 7) (lv' := [(6, .int r2), (5, .int 0), (4, .int i), (0, .ref b), (1, .ref g.chip), (2, .ref g.model), (3, .ref g.out)]) hx hb d_W_266 hl (by decide) rfl (fun ls hl => ?_)
    refine lv_aload_n (pc := 268) hx hb d_W_268 rfl (lv_at hl 5 rfl) ?_
    refine callIO (q0 := 4) (pc := 269) (As := []) (rest := []) X (k_M_thrown l g ((f_C_pin st (xs (i + 1).toNatClampNeg) (zI (xs (i + 2).toNatClampNeg))).2) (vp_updL o 0 (zJ (f_C_pin st (xs (i + 1).toNatClampNeg) (zI (xs (i + 2).toNatClampNeg))).1)) u2) hC (cw_of (n := 0) X w_M_thrown wz_M vl_M_thrown vi_M_thrown vs_M_thrown (by decide +kernel) rfl rfl ⟨by decide, by decide⟩) rfl rfl rfl hl.1 (Nat.le_of_ble_eq_true rfl) rfl d_W_269 ⟨hf.1, hf.2⟩ (fun r3 u3 H locs eu3 hC => ?_)
    obtain ⟨h31, h32⟩ := Prod.mk.inj (show ((u2).1 27, u2) = (r3, u3) from eu3)
    subst h31
    subst h32
    refine lv_iload (pc := 272) hx hb d_W_272 (lv_at hl 1 rfl) ?_
    refine lv_icmp_eq (pc := 274) (tgt := 279) hx hb d_W_274 (by decide) (fun h1 => ?_) (fun h1 => absurd e3 h1)
    refine lv_iload (pc := 279) hx hb d_W_279 (lv_at hl 1 rfl) ?_
    refine lv_if_ne (pc := 281) (tgt := 303) hx hb d_W_281 (by decide) (fun h2 => absurd rfl h2) (fun h2 => ?_)
    refine lv_aload_n (pc := 284) hx hb d_W_284 rfl (lv_at hl 6 rfl) ?_
    refine lv_iconst (pc := 285) (v := 0) hx hb d_W_285 (by decide) ?_
    refine va_lald (i := 0) (pc := 286) hx hb X.2.1 hC.1 6 2 rfl rfl (by unfold vp_in; decide) d_W_286 ?_
    refine lv_iload (pc := 287) hx hb d_W_287 (lv_at hl 0 rfl) ?_
    have B297 : ∀ y : Int64, y = zJ r2 → W p l e room_1 s m #[Value.ref b] below meth c H locs cells slots Q (F0 m 297 ls [.long y, .long ((vp_updL o 0 (zJ (f_C_pin st (xs (i + 1).toNatClampNeg) (zI (xs (i + 2).toNatClampNeg))).1)) (0 : Int32).toNatClampNeg)]) := by
      intro y ey
      subst ey
      refine W.lcmp (pc := 297) hx hb d_W_297 ?_
      have e4 : lg_cmp ((vp_updL o 0 (zJ (f_C_pin st (xs (i + 1).toNatClampNeg) (zI (xs (i + 2).toNatClampNeg))).1)) (0 : Int32).toNatClampNeg) (zJ r2) = 0 := by rw [show (f_C_pin st (xs (i + 1).toNatClampNeg) (zI (xs (i + 2).toNatClampNeg))).1 = r2 from e1]; exact cmp_self _
      refine lv_if_eq (pc := 298) (tgt := 303) hx hb d_W_298 (by decide) (fun h3 => ?_) (fun h3 => absurd e4 h3)
      refine lv_goto (pc := 303) (tgt := 421) hx hb d_W_303 (by decide) ?_
      refine W.widen (Nat.le_add_right _ 1) (Nat.le_add_right _ 6) ?_
      exact NEXT _ _ _ _ u2 _ e2 hC (lv_sub hl [2, 3, 4, 5, 6] rfl)
    refine lv_if_eq (pc := 289) (tgt := 296) hx hb d_W_289 (by decide) (fun h4 => ?_) (fun h4 => ?_)
    · refine lv_lconst (pc := 296) (v := 0) hx hb d_W_296 (by decide) ?_
      exact B297 _ (by unfold zJ; rw [if_pos h4])
    · refine lv_lconst (pc := 292) (v := 1) hx hb d_W_292 (by decide) ?_
      refine lv_goto (pc := 293) (tgt := 297) hx hb d_W_293 (by decide) ?_
      exact B297 _ (by unfold zJ; rw [if_neg h4])
  have B236 : ∀ z : Int32, z = zI (xs (i + 2).toNatClampNeg) → W p l e room_1 s m #[Value.ref b] below meth c H locs cells slots Q (F0 m 236 ls [.int z, .int (xs (i + 1).toNatClampNeg), .ref g.chip]) := by
    intro z ez
    subst ez
    refine lv_aload_n (pc := 236) hx hb d_W_236 rfl (lv_at hl 4 rfl) ?_
    refine callHS (pc := 237) (As := [.ref g.chip, .int (xs (i + 1).toNatClampNeg), .int (zI (xs (i + 2).toNatClampNeg)), .ref g.out]) (rest := []) X tw (h_pin_0 l g rt o st (xs (i + 1).toNatClampNeg) (zI (xs (i + 2).toNatClampNeg)) hq1 (i_4_3.mpr hq2) (vp_in_4 hq1 hq2) (RR_pins hR hq1 hq2)) hC (csw_of 4 X.1.2.2.2.2 wh_pin rfl rfl wz_L vl_L_pin vt_L_pin (by decide +kernel) ⟨by decide, by decide⟩) hl.1 (Nat.le_of_ble_eq_true rfl) rfl d_W_237 ⟨hf.1, hf.2⟩ (fun H locs hC => ?_)
    refine lv_istore (pc := 240) (nL := 7) (lv' := [(5, .int 0), (4, .int i), (0, .ref b), (1, .ref g.chip), (2, .ref g.model), (3, .ref g.out)]) hx hb d_W_240 hl (by decide) rfl (fun ls hl => ?_)
    refine lv_aload_n (pc := 242) hx hb d_W_242 rfl (lv_at hl 4 rfl) ?_
    refine lv_aload_n (pc := 243) hx hb d_W_243 rfl (lv_at hl 2 rfl) ?_
    refine lv_iload (pc := 244) hx hb d_W_244 (lv_at hl 1 rfl) ?_
    refine lv_iconst (pc := 246) (v := 1) hx hb d_W_246 (by decide) ?_
    refine lv_iadd (pc := 247) hx hb d_W_247 ?_
    refine va_sld (pc := 248) hx hb hX hbl hbA hC.2.2 hi1 d_W_248 ?_
    refine lv_aload_n (pc := 249) hx hb d_W_249 rfl (lv_at hl 2 rfl) ?_
    refine lv_iload (pc := 250) hx hb d_W_250 (lv_at hl 1 rfl) ?_
    refine lv_iconst (pc := 252) (v := 2) hx hb d_W_252 (by decide) ?_
    refine lv_iadd (pc := 253) hx hb d_W_253 ?_
    refine va_sld (pc := 254) hx hb hX hbl hbA hC.2.2 hi2 d_W_254 ?_
    refine lv_if_eq (pc := 255) (tgt := 262) hx hb d_W_255 (by decide) (fun h4 => ?_) (fun h4 => ?_)
    · refine lv_iconst (pc := 262) (v := 0) hx hb d_W_262 (by decide) ?_
      exact B263 _ _ _ _ (by unfold zI; rw [if_pos h4]) hC hl
    · refine lv_iconst (pc := 258) (v := 1) hx hb d_W_258 (by decide) ?_
      refine lv_goto (pc := 259) (tgt := 263) hx hb d_W_259 (by decide) ?_
      exact B263 _ _ _ _ (by unfold zI; rw [if_neg h4]) hC hl
  refine lv_aload_n (pc := 215) hx hb d_W_215 rfl (lv_at hl 2 rfl) ?_
  refine lv_aload_n (pc := 216) hx hb d_W_216 rfl (lv_at hl 1 rfl) ?_
  refine lv_iload (pc := 217) hx hb d_W_217 (lv_at hl 0 rfl) ?_
  refine lv_iconst (pc := 219) (v := 1) hx hb d_W_219 (by decide) ?_
  refine lv_iadd (pc := 220) hx hb d_W_220 ?_
  refine va_sld (pc := 221) hx hb hX hbl hbA hC.2.2 hi1 d_W_221 ?_
  refine lv_aload_n (pc := 222) hx hb d_W_222 rfl (lv_at hl 1 rfl) ?_
  refine lv_iload (pc := 223) hx hb d_W_223 (lv_at hl 0 rfl) ?_
  refine lv_iconst (pc := 225) (v := 2) hx hb d_W_225 (by decide) ?_
  refine lv_iadd (pc := 226) hx hb d_W_226 ?_
  refine va_sld (pc := 227) hx hb hX hbl hbA hC.2.2 hi2 d_W_227 ?_
  refine lv_if_eq (pc := 228) (tgt := 235) hx hb d_W_228 (by decide) (fun h4 => ?_) (fun h4 => ?_)
  · refine lv_iconst (pc := 235) (v := 0) hx hb d_W_235 (by decide) ?_
    exact B236 _ (by unfold zI; rw [if_pos h4])
  · refine lv_iconst (pc := 231) (v := 1) hx hb d_W_231 (by decide) ?_
    refine lv_goto (pc := 232) (tgt := 236) hx hb d_W_232 (by decide) ?_
    exact B236 _ (by unfold zI; rw [if_neg h4])
set_option maxHeartbeats 4000000 in
set_option maxRecDepth 100000 in
theorem lw_pin_1 (X0 : LX p m c s b L xs g A) (hf : cells ≤ room_1.cells ∧ slots ≤ room_1.slots) (hi1 : vp_in (i + 1) L) (hi2 : vp_in (i + 2) L) (hfl : l.flags = pinnedFlags ++ [noTraceFlag]) (hg : cells + 1 ≤ room_1.cells ∧ slots + 6 ≤ room_1.slots) (hR : RR st rt) (hC : HC g A s (wC g rt o st) H locs) (hl : lv_has ls 7 (lvW g b i)) (hq : xs (i + 1).toNatClampNeg < 0 ∨ ¬ xs (i + 1).toNatClampNeg ≤ 3) (NEXT : NX p l e s m below meth c Q b g A i cells slots) : W p l e room_1 s m #[Value.ref b] below meth c H locs cells slots Q (F0 m 215 ls []) := by
  obtain ⟨X, tw, hX, hbl, hbA⟩ := X0
  obtain ⟨hx, hb⟩ := FX_xb X
  have B263 : ∀ (H : Heap) (locs : List Loc) (ls : Array Slot) (z : Int32), z = zI (xs (i + 2).toNatClampNeg) → HC g A s (wC g rt o (st)) H locs → lv_has ls 7 [(5, .int 1), (4, .int i), (0, .ref b), (1, .ref g.chip), (2, .ref g.model), (3, .ref g.out)] → W p l e room_1 s m #[Value.ref b] below meth c H locs (cells + 1) (slots + 6) Q (F0 m 263 ls [.int z, .int (xs (i + 1).toNatClampNeg), .ref g.model]) := by
    intro H locs ls z ez hC hl
    subst ez
    refine callZO (q0 := 4) (pc := 263) (As := [.int (xs (i + 1).toNatClampNeg), .int (zI (xs (i + 2).toNatClampNeg))]) (rest := []) X (k_M_pin l g (st) o rt (xs (i + 1).toNatClampNeg) (zI (xs (i + 2).toNatClampNeg)) (zI_b _) hR.1.2.2.2.2.2.2.1) hC (cw_of (n := 2) X w_M_pin wz_M vl_M_pin vi_M_pin vs_M_pin (by decide +kernel) rfl rfl ⟨by decide, by decide⟩) rfl rfl rfl hl.1 (Nat.le_of_ble_eq_true rfl) rfl d_W_263 ⟨hg.1, hg.2⟩ (fun r2 u2 H locs eu2 hz2 hC => ?_)
    rw [thr_pin rt hq] at eu2
    cases eu2
    refine lv_istore (pc := 266) (nL := 7) (lv' := [(6, .int 0), (5, .int 1), (4, .int i), (0, .ref b), (1, .ref g.chip), (2, .ref g.model), (3, .ref g.out)]) hx hb d_W_266 hl (by decide) rfl (fun ls hl => ?_)
    refine lv_aload_n (pc := 268) hx hb d_W_268 rfl (lv_at hl 5 rfl) ?_
    refine callIO (q0 := 4) (pc := 269) (As := []) (rest := []) X (k_M_thrown l g (st) o (tV rt 27 1)) hC (cw_of (n := 0) X w_M_thrown wz_M vl_M_thrown vi_M_thrown vs_M_thrown (by decide +kernel) rfl rfl ⟨by decide, by decide⟩) rfl rfl rfl hl.1 (Nat.le_of_ble_eq_true rfl) rfl d_W_269 ⟨hg.1, hg.2⟩ (fun r3 u3 H locs eu3 hC => ?_)
    obtain ⟨h31, h32⟩ := Prod.mk.inj (show (((tV rt 27 1)).1 27, (tV rt 27 1)) = (r3, u3) from eu3)
    subst h31
    subst h32
    refine lv_iload (pc := 272) hx hb d_W_272 (lv_at hl 1 rfl) ?_
    refine lv_icmp_eq (pc := 274) (tgt := 279) hx hb d_W_274 (by decide) (fun h1 => ?_) (fun h1 => absurd rfl h1)
    refine lv_iload (pc := 279) hx hb d_W_279 (lv_at hl 1 rfl) ?_
    refine lv_if_ne (pc := 281) (tgt := 303) hx hb d_W_281 (by decide) (fun h2 => ?_) (fun h2 => absurd h2 (by decide))
    refine lv_goto (pc := 303) (tgt := 421) hx hb d_W_303 (by decide) ?_
    exact NEXT _ _ _ st (tV rt 27 1) o (RR_27 hR) hC (lv_sub hl [2, 3, 4, 5, 6] rfl)
  have B236 : ∀ z : Int32, z = zI (xs (i + 2).toNatClampNeg) → W p l e room_1 s m #[Value.ref b] below meth c H locs cells slots Q (F0 m 236 ls [.int z, .int (xs (i + 1).toNatClampNeg), .ref g.chip]) := by
    intro z ez
    subst ez
    refine lv_aload_n (pc := 236) hx hb d_W_236 rfl (lv_at hl 4 rfl) ?_
    refine callHS (pc := 237) (As := [.ref g.chip, .int (xs (i + 1).toNatClampNeg), .int (zI (xs (i + 2).toNatClampNeg)), .ref g.out]) (rest := []) X tw (h_pin_1 hfl g rt o st (xs (i + 1).toNatClampNeg) (zI (xs (i + 2).toNatClampNeg)) (hq.imp id (fun h z => h (i_4_3.mp z)))) hC (csw_of 4 X.1.2.2.2.2 wh_pin rfl rfl wz_L vl_L_pin vt_L_pin (by decide +kernel) ⟨by decide, by decide⟩) hl.1 (Nat.le_of_ble_eq_true rfl) rfl d_W_237 ⟨hg.1, hg.2⟩ (fun H locs hC => ?_)
    refine lv_istore (pc := 240) (nL := 7) (lv' := [(5, .int 1), (4, .int i), (0, .ref b), (1, .ref g.chip), (2, .ref g.model), (3, .ref g.out)]) hx hb d_W_240 hl (by decide) rfl (fun ls hl => ?_)
    refine lv_aload_n (pc := 242) hx hb d_W_242 rfl (lv_at hl 4 rfl) ?_
    refine lv_aload_n (pc := 243) hx hb d_W_243 rfl (lv_at hl 2 rfl) ?_
    refine lv_iload (pc := 244) hx hb d_W_244 (lv_at hl 1 rfl) ?_
    refine lv_iconst (pc := 246) (v := 1) hx hb d_W_246 (by decide) ?_
    refine lv_iadd (pc := 247) hx hb d_W_247 ?_
    refine va_sld (pc := 248) hx hb hX hbl hbA hC.2.2 hi1 d_W_248 ?_
    refine lv_aload_n (pc := 249) hx hb d_W_249 rfl (lv_at hl 2 rfl) ?_
    refine lv_iload (pc := 250) hx hb d_W_250 (lv_at hl 1 rfl) ?_
    refine lv_iconst (pc := 252) (v := 2) hx hb d_W_252 (by decide) ?_
    refine lv_iadd (pc := 253) hx hb d_W_253 ?_
    refine va_sld (pc := 254) hx hb hX hbl hbA hC.2.2 hi2 d_W_254 ?_
    refine lv_if_eq (pc := 255) (tgt := 262) hx hb d_W_255 (by decide) (fun h4 => ?_) (fun h4 => ?_)
    · refine lv_iconst (pc := 262) (v := 0) hx hb d_W_262 (by decide) ?_
      exact B263 _ _ _ _ (by unfold zI; rw [if_pos h4]) hC hl
    · refine lv_iconst (pc := 258) (v := 1) hx hb d_W_258 (by decide) ?_
      refine lv_goto (pc := 259) (tgt := 263) hx hb d_W_259 (by decide) ?_
      exact B263 _ _ _ _ (by unfold zI; rw [if_neg h4]) hC hl
  refine lv_aload_n (pc := 215) hx hb d_W_215 rfl (lv_at hl 2 rfl) ?_
  refine lv_aload_n (pc := 216) hx hb d_W_216 rfl (lv_at hl 1 rfl) ?_
  refine lv_iload (pc := 217) hx hb d_W_217 (lv_at hl 0 rfl) ?_
  refine lv_iconst (pc := 219) (v := 1) hx hb d_W_219 (by decide) ?_
  refine lv_iadd (pc := 220) hx hb d_W_220 ?_
  refine va_sld (pc := 221) hx hb hX hbl hbA hC.2.2 hi1 d_W_221 ?_
  refine lv_aload_n (pc := 222) hx hb d_W_222 rfl (lv_at hl 1 rfl) ?_
  refine lv_iload (pc := 223) hx hb d_W_223 (lv_at hl 0 rfl) ?_
  refine lv_iconst (pc := 225) (v := 2) hx hb d_W_225 (by decide) ?_
  refine lv_iadd (pc := 226) hx hb d_W_226 ?_
  refine va_sld (pc := 227) hx hb hX hbl hbA hC.2.2 hi2 d_W_227 ?_
  refine lv_if_eq (pc := 228) (tgt := 235) hx hb d_W_228 (by decide) (fun h4 => ?_) (fun h4 => ?_)
  · refine lv_iconst (pc := 235) (v := 0) hx hb d_W_235 (by decide) ?_
    exact B236 _ (by unfold zI; rw [if_pos h4])
  · refine lv_iconst (pc := 231) (v := 1) hx hb d_W_231 (by decide) ?_
    refine lv_goto (pc := 232) (tgt := 236) hx hb d_W_232 (by decide) ?_
    exact B236 _ (by unfold zI; rw [if_neg h4])
end LW

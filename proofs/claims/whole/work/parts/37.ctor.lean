/-! the constructors -/
theorem wo_R : Cond.methodLink "ClockedChip$Registers" 3 objectInit ∈ ALL := in_ALL (List.mem_append_left _ (List.mem_of_getElem? (i := 27) rfl)) rfl
theorem wo_C : Cond.methodLink "ClockedChip" 1 objectInit ∈ ALL := in_ALL (List.mem_append_left _ (List.mem_of_getElem? (i := 19) rfl)) rfl
theorem wo_M : Cond.methodLink "ClockedChipModel" 1 objectInit ∈ ALL := in_ALL (List.mem_append_right _ (List.mem_append_right _ (List.mem_append_left _ (List.mem_of_getElem? (i := 117) rfl)))) rfl
theorem wo_i : Cond.instanceMethod objectInit ∈ ALL := in_ALL (List.mem_append_left _ (List.mem_of_getElem? (i := 20) rfl)) rfl
theorem wo_c : Cond.code objectInit object_method_1_code 1 none ∈ ALL := in_ALL (List.mem_append_left _ (List.mem_of_getElem? (i := 21) rfl)) rfl
theorem wa_int : Cond.arrayClass .int ∈ ALL := in_ALL (List.mem_append_left _ (List.mem_of_getElem? (i := 52) rfl)) rfl
theorem wa_boolean : Cond.arrayClass .boolean ∈ ALL := in_ALL (List.mem_append_left _ (List.mem_of_getElem? (i := 53) rfl)) rfl
theorem wa_long : Cond.arrayClass .long ∈ ALL := in_ALL (List.mem_append_right _ (List.mem_append_right _ (List.mem_append_right _ (List.mem_of_getElem? (i := 149) rfl)))) rfl
theorem wk_R : Cond.classLink "ClockedChip" 17 "ClockedChip$Registers" ∈ ALL := in_ALL (List.mem_append_left _ (List.mem_of_getElem? (i := 22) rfl)) rfl
theorem wk_C : Cond.classLink "ClockedChipLaw" 8 "ClockedChip" ∈ ALL := in_ALL (List.mem_append_left _ (List.mem_of_getElem? (i := 14) rfl)) rfl
theorem wk_M : Cond.classLink "ClockedChipLaw" 31 "ClockedChipModel" ∈ ALL := in_ALL (List.mem_append_right _ (List.mem_append_right _ (List.mem_append_left _ (List.mem_of_getElem? (i := 112) rfl)))) rfl
theorem wn_R : Cond.instantiable "ClockedChip$Registers" 6 ∈ ALL := in_ALL (List.mem_append_left _ (List.mem_of_getElem? (i := 23) rfl)) rfl
theorem wz_R : Cond.initialized "ClockedChip$Registers" ∈ ALL := in_ALL (List.mem_append_left _ (List.mem_of_getElem? (i := 2) rfl)) rfl
theorem wn_C : Cond.instantiable "ClockedChip" 13 ∈ ALL := in_ALL (List.mem_append_left _ (List.mem_of_getElem? (i := 15) rfl)) rfl
theorem wz_C : Cond.initialized "ClockedChip" ∈ ALL := in_ALL (List.mem_append_left _ (List.mem_of_getElem? (i := 1) rfl)) rfl
theorem wn_M : Cond.instantiable "ClockedChipModel" 29 ∈ ALL := in_ALL (List.mem_append_right _ (List.mem_append_right _ (List.mem_append_left _ (List.mem_of_getElem? (i := 113) rfl)))) rfl
theorem wz_M : Cond.initialized "ClockedChipModel" ∈ ALL := in_ALL (List.mem_append_left _ (List.mem_of_getElem? (i := 6) rfl)) rfl
abbrev rm_R_init : Room := { frames := 1, cells := 0, slots := 0, locals := 12 }
set_option maxHeartbeats 4000000 in
theorem k_R_init (l : Launch) (g : CG) (q : Nat) (ws : va_W) : KV l g y_R_init (Cond.code y_R_init c_R_init 1 none :: ALL) rm_R_init [.ref q] (fun _ : Unit => ws) () () := by
  refine KV.ofW (by decide) (Nat.le_of_ble_eq_true rfl) ?_
  intro p e s m args below meth c A Q ls Rv X he RET hC hl
  obtain ⟨hx, hb⟩ := FX_xb X
  have hl : lv_has ls 1 [(0, .ref q)] := hl
  refine lv_aload_n (pc := 0) hx hb d_R_init_0 rfl (lv_at hl 0 rfl) ?_
  refine W.objInit hx hb X.1.2.2.2.1 (X.1.2.2.2.2 _ wo_R) (X.1.2.2.2.2 _ wo_i) (X.1.2.2.2.2 _ wo_c) rfl (by rw [X.1.2.2.1]; exact hl.1) rfl d_R_init_1 (Nat.le_of_ble_eq_true rfl) (Nat.le_of_ble_eq_true rfl) ?_
  refine W.eq (g2 := F0 m 4 ls []) rfl ?_
  exact RET (pc := 4) d_R_init_4 hC he

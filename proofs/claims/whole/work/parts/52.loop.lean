/-! the law's loop -/
theorem and7 (x : Int32) : ∃ n : Nat, n < 8 ∧ x &&& 7 = nI n := pk_andE x 3 (by decide)
theorem lw_cmp {L k : Nat} (hL : L ≤ 1536) (hk : 3 * k ≤ L) : (Int32.ofNat L - 3 < nI (3 * k)) ↔ L < 3 * k + 3 := by
  have h1 : (Int32.ofNat L).toInt = (L : Int) := nI_toInt (n := L) (by omega)
  have h2 : (nI (3 * k)).toInt = ((3 * k : Nat) : Int) := nI_toInt (by omega)
  have h3 : (3 : Int32).toInt = 3 := rfl
  rw [Int32.lt_iff_toInt_lt, Int32.toInt_sub, h1, h2, h3]
  have h4 : ((L : Int) - 3).bmod (2 ^ 32) = (L : Int) - 3 := by
    rw [Int.bmod_def]
    omega
  rw [h4]
  omega
theorem lw_in {L k : Nat} (hL : L ≤ 1536) (h : 3 * k + 3 ≤ L) : vp_in (nI (3 * k)) L ∧ vp_in (nI (3 * k) + 1) L ∧ vp_in (nI (3 * k) + 2) L := by
  refine ⟨vp_in_nI (by omega) (by omega), ?_, ?_⟩
  · rw [show nI (3 * k) + 1 = nI (3 * k + 1) from nI_add (3 * k) 1]
    exact vp_in_nI (by omega) (by omega)
  · rw [show nI (3 * k) + 2 = nI (3 * k + 2) from nI_add (3 * k) 2]
    exact vp_in_nI (by omega) (by omega)
section LL
variable {p : Program} {l : Launch} {e : Env} {s : State} {m : MethodId} {below : List Frame} {meth : Method} {c : Code} {Q : State → Prop} {b L : Nat} {xs : Nat → Int32} {g : CG} {A : Nat → Prop}
set_option maxHeartbeats 4000000 in
set_option maxRecDepth 100000 in
theorem lw_iter (X0 : LX p m c s b L xs g A) (hfl : l.flags = pinnedFlags ++ [noTraceFlag]) {k : Nat} (hL : L ≤ 1536) (h3 : 3 * k + 3 ≤ L) {H : Heap} {locs : List Loc} {ls : Array Slot} {st : CS} {rt : MS} {o : Nat → Int64} (hR : RR st rt) (hC : HC g A s (wC g rt o st) H locs) (hl : lv_has ls 7 (lvW g b (nI (3 * k))))
    (NEXT : NX p l e s m below meth c Q b g A (nI (3 * k)) (7 + k) (2101 + 6 * k)) : W p l e room_1 s m #[Value.ref b] below meth c H locs (7 + k) (2101 + 6 * k) Q (F0 m 32 ls []) := by
  obtain ⟨X, tw, hX, hbl, hbA⟩ := id X0
  obtain ⟨hx, hb⟩ := FX_xb X
  obtain ⟨hi0, hi1, hi2⟩ := lw_in hL h3
  have rc : room_1.cells = 1036 := rfl
  have rs : room_1.slots = 10323 := rfl
  have hf : 7 + k ≤ room_1.cells ∧ 2101 + 6 * k ≤ room_1.slots := by rw [rc, rs]; constructor <;> omega
  have hg : 7 + k + 1 ≤ room_1.cells ∧ 2101 + 6 * k + 6 ≤ room_1.slots := by rw [rc, rs]; constructor <;> omega
  refine lv_aload_n (pc := 32) hx hb d_W_32 rfl (lv_at hl 1 rfl) ?_
  refine lv_iload (pc := 33) hx hb d_W_33 (lv_at hl 0 rfl) ?_
  refine va_sld (pc := 35) hx hb hX hbl hbA hC.2.2 hi0 d_W_35 ?_
  refine lv_bipush (pc := 36) (v := 7) hx hb d_W_36 (by decide) ?_
  refine lv_iand (pc := 38) hx hb d_W_38 ?_
  obtain ⟨j, hj, ej⟩ := and7 (xs (nI (3 * k)).toNatClampNeg)
  rcases (show j = 0 ∨ j = 1 ∨ j = 2 ∨ j = 3 ∨ j = 4 ∨ j = 5 ∨ j = 6 ∨ j = 7 by omega) with rfl | rfl | rfl | rfl | rfl | rfl | rfl | rfl
  · have ex : xs (nI (3 * k)).toNatClampNeg &&& 7 = 0 := ej
    refine lv_tableIn (pc := 39) (tgt := 84) hx hb d_W_39 (by rw [ex]; decide) (by rw [ex]; decide) (by rw [ex]; rfl) (by decide) ?_
    exact lw_poke X0 hf hi1 hi2 hR hC hl NEXT
  · have ex : xs (nI (3 * k)).toNatClampNeg &&& 7 = 1 := ej
    refine lv_tableIn (pc := 39) (tgt := 121) hx hb d_W_39 (by rw [ex]; decide) (by rw [ex]; decide) (by rw [ex]; rfl) (by decide) ?_
    exact lw_peek X0 hf hi1 hR hC hl NEXT
  · have ex : xs (nI (3 * k)).toNatClampNeg &&& 7 = 2 := ej
    refine lv_tableIn (pc := 39) (tgt := 146) hx hb d_W_39 (by rw [ex]; decide) (by rw [ex]; decide) (by rw [ex]; rfl) (by decide) ?_
    exact lw_cycle X0 hf hR hC hl NEXT
  · have ex : xs (nI (3 * k)).toNatClampNeg &&& 7 = 3 := ej
    refine lv_tableIn (pc := 39) (tgt := 159) hx hb d_W_39 (by rw [ex]; decide) (by rw [ex]; decide) (by rw [ex]; rfl) (by decide) ?_
    by_cases h1 : xs (nI (3 * k) + 1).toNatClampNeg < 0
    · exact lw_cycles_1 X0 hf hi1 hfl hg hR hC hl (Or.inl h1) NEXT
    by_cases h2 : xs (nI (3 * k) + 1).toNatClampNeg ≤ 200
    · exact lw_cycles_0 X0 hf hi1 hR hC hl h1 h2 NEXT
    · exact lw_cycles_1 X0 hf hi1 hfl hg hR hC hl (Or.inr h2) NEXT
  · have ex : xs (nI (3 * k)).toNatClampNeg &&& 7 = 4 := ej
    refine lv_tableIn (pc := 39) (tgt := 215) hx hb d_W_39 (by rw [ex]; decide) (by rw [ex]; decide) (by rw [ex]; rfl) (by decide) ?_
    by_cases h1 : xs (nI (3 * k) + 1).toNatClampNeg < 0
    · exact lw_pin_1 X0 hf hi1 hi2 hfl hg hR hC hl (Or.inl h1) NEXT
    by_cases h2 : xs (nI (3 * k) + 1).toNatClampNeg ≤ 3
    · exact lw_pin_0 X0 hf hi1 hi2 hR hC hl h1 h2 NEXT
    · exact lw_pin_1 X0 hf hi1 hi2 hfl hg hR hC hl (Or.inr h2) NEXT
  · have ex : xs (nI (3 * k)).toNatClampNeg &&& 7 = 5 := ej
    refine lv_tableIn (pc := 39) (tgt := 306) hx hb d_W_39 (by rw [ex]; decide) (by rw [ex]; decide) (by rw [ex]; rfl) (by decide) ?_
    exact lw_reset X0 hf hR hC hl NEXT
  · have ex : xs (nI (3 * k)).toNatClampNeg &&& 7 = 6 := ej
    refine lv_tableIn (pc := 39) (tgt := 317) hx hb d_W_39 (by rw [ex]; decide) (by rw [ex]; decide) (by rw [ex]; rfl) (by decide) ?_
    by_cases h1 : xs (nI (3 * k) + 1).toNatClampNeg < 0
    · exact lw_register_1 X0 hf hi1 hfl hg hR hC hl (Or.inl h1) NEXT
    by_cases h2 : xs (nI (3 * k) + 1).toNatClampNeg ≤ 7
    · exact lw_register_0 X0 hf hi1 hR hC hl h1 h2 NEXT
    · exact lw_register_1 X0 hf hi1 hfl hg hR hC hl (Or.inr h2) NEXT
  · have ex : xs (nI (3 * k)).toNatClampNeg &&& 7 = 7 := ej
    refine lv_tableIn (pc := 39) (tgt := 373) hx hb d_W_39 (by rw [ex]; decide) (by rw [ex]; decide) (by rw [ex]; rfl) (by decide) ?_
    by_cases h1 : xs (nI (3 * k) + 1).toNatClampNeg < 0
    · exact lw_set_1 X0 hf hi1 hi2 hfl hg hR hC hl (Or.inl h1) NEXT
    by_cases h2 : xs (nI (3 * k) + 1).toNatClampNeg ≤ 5
    · by_cases h4 : st.2.1 = (0 : Fin 35)
      · exact lw_set_0 X0 hf hi1 hi2 hR hC hl h1 h2 h4 NEXT
      · exact lw_set_2 X0 hf hi1 hi2 hfl hg hR hC hl h1 h2 h4 NEXT
    · exact lw_set_1 X0 hf hi1 hi2 hfl hg hR hC hl (Or.inr h2) NEXT
set_option maxHeartbeats 4000000 in
theorem lw_loop (X0 : LX p m c s b L xs g A) (hfl : l.flags = pinnedFlags ++ [noTraceFlag]) (hL : L ≤ 1536)
    (END : ∀ (H : Heap) (locs : List Loc) (ls : Array Slot) (k : Nat), k ≤ 512 → va_S A s.heap H locs → W p l e room_1 s m #[Value.ref b] below meth c H locs (7 + k) (2101 + 6 * k) Q (F0 m 427 ls [])) :
    ∀ (n k : Nat) (H : Heap) (locs : List Loc) (ls : Array Slot) (st : CS) (rt : MS) (o : Nat → Int64), k + n = L / 3 → RR st rt → HC g A s (wC g rt o st) H locs → lv_has ls 7 (lvW g b (nI (3 * k))) → W p l e room_1 s m #[Value.ref b] below meth c H locs (7 + k) (2101 + 6 * k) Q (F0 m 23 ls []) := by
  obtain ⟨X, tw, hX, hbl, hbA⟩ := id X0
  obtain ⟨hx, hb⟩ := FX_xb X
  intro n
  induction n with
  | zero =>
    intro k H locs ls st rt o hk hR hC hl
    refine lv_iload (pc := 23) hx hb d_W_23 (lv_at hl 0 rfl) ?_
    refine lv_aload_n (pc := 25) hx hb d_W_25 rfl (lv_at hl 1 rfl) ?_
    refine va_slen (pc := 26) hx hb hX hbl hbA hC.2.2 d_W_26 ?_
    refine lv_iconst (pc := 27) (v := 3) hx hb d_W_27 (by decide) ?_
    refine lv_isub (pc := 28) hx hb d_W_28 ?_
    refine lv_icmp_gt (pc := 29) (tgt := 427) hx hb d_W_29 (by decide) (fun h1 => ?_) (fun h1 => ?_)
    · exact END _ _ _ k (by omega) hC.2.2
    · exact absurd ((lw_cmp hL (by omega)).mpr (by omega)) h1
  | succ n ih =>
    intro k H locs ls st rt o hk hR hC hl
    refine lv_iload (pc := 23) hx hb d_W_23 (lv_at hl 0 rfl) ?_
    refine lv_aload_n (pc := 25) hx hb d_W_25 rfl (lv_at hl 1 rfl) ?_
    refine va_slen (pc := 26) hx hb hX hbl hbA hC.2.2 d_W_26 ?_
    refine lv_iconst (pc := 27) (v := 3) hx hb d_W_27 (by decide) ?_
    refine lv_isub (pc := 28) hx hb d_W_28 ?_
    refine lv_icmp_gt (pc := 29) (tgt := 427) hx hb d_W_29 (by decide) (fun h1 => ?_) (fun h1 => ?_)
    · have := (lw_cmp hL (by omega)).mp h1
      omega
    · refine lw_iter X0 hfl hL (by omega) hR hC hl (fun H locs ls st rt o hR hC hl => ?_)
      refine lv_iinc (pc := 421) (k := 0) (nL := 7) (v := nI (3 * (k + 1))) (lv' := lvW g b (nI (3 * (k + 1)))) hx hb d_W_421 hl rfl (nI_add (3 * k) 3) (by decide) rfl (fun ls hl => ?_)
      refine lv_goto (pc := 424) (tgt := 23) hx hb d_W_424 (by decide) ?_
      have q := ih (k + 1) H locs ls st rt o (by omega) hR hC hl
      rw [show 7 + (k + 1) = 7 + k + 1 by omega, show 2101 + 6 * (k + 1) = 2101 + 6 * k + 6 by omega] at q
      exact q
end LL

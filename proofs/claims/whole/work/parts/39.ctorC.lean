/-! the class's constructor -/
theorem callNI {p : Program} {l : Launch} {e : Env} {R : Room} {s : State} {m : MethodId} {args : Array Value} {below : List Frame} {meth : Method} {c : Code} {H : Heap} {locs : List Loc} {cells slots : Nat} {Q : State → Prop} {cc bytes : ByteArray} {pc nL maxL index : Nat} {ls : Array Slot} {rest st0 : List Value} {own host : String} {g : CG} {A : Nat → Prop} {y : MethodName} {rm : Room} {σ : Type} {Wd : σ → va_W} {st f : σ} {b : Nat} (X : FX p m c cc nL s args own g A) (hM : KV l g y (Cond.code y bytes maxL none :: ALL) rm [.ref b] Wd st f) (hC : HC g A s (Wd st) H locs)
    (cn : va_CN R s args own index y host bytes maxL none (Cond.code y bytes maxL none :: ALL) rm 0 0 0 ∧ y.name = "<init>" ∧ (Cond.instanceMethod y).before args s = true) (hsize : ls.size = nL) (hroom : (rest.map fun v => v.category).sum ≤ 8) (hst : st0 = .ref b :: rest) (hdg : decode cc pc = .ok (.invokespecial index, 3)) (hf : cells ≤ R.cells ∧ slots ≤ R.slots)
    (kk : ∀ (u : σ) (H1 : Heap) (locs1 : List Loc), f = u → HC g A s (Wd u) H1 locs1 → W p l e R s m args below meth c H1 locs1 cells slots Q (F0 m (pc + 3) ls rest)) : W p l e R s m args below meth c H locs cells slots Q (F0 m pc ls st0) := by
  have hpre := HC_pre X hC [.ref b]
  refine va_callv (va_runIN (As := []) (rest := rest) X.1 (hM H.size) cn hpre rfl rfl hsize hst (lv_room hroom) hdg hf) hC.2.2 (fun q _ h => ck_fr hC.2.1 hC.2.2 X.2.2.2 q h) (ck_fr hC.2.1 hC.2.2 X.2.2.2) (fun u t H1 locs1 ht hvm hw hB hz1 hk1 hS => kk u H1 locs1 hw (HC_behind X hC ht hB hS))
theorem wi_R : Cond.instanceMethod y_R_init ∈ ALL := (in_ALL (List.mem_append_left _ (List.mem_of_getElem? (i := 25) rfl)) rfl)
abbrev w0C (q : Nat) : va_W := [(q, .inr (iC, [.null, .null, .null, .int 0, .null, .null, .int 0, .int 0, .int 0, .int 0, .int 0, .int 0, .int 0]))]
abbrev w1C (g : CG) (q : Nat) (u : Nat × Nat × Nat) : va_W := [(q, .inr (iC, [.ref u.1, .ref u.2.1, .ref u.2.2, .int 0, .ref (g.adS 0), .ref (g.adK 15), .int 0, .int 0, .int 0, .int 0, .int 0, .int 0, .int 0])), (u.1, .inl (g.cI, 1024, .inl fun _ => 0)), (u.2.1, .inl (g.cZ, 4, .inl (upd (fun _ => 0) 2 1))), (u.2.2, .inr (iR, [.int 0, .int 0, .int 0, .int 0, .int 0, .int 0]))]
abbrev rm_C_init : Room := { frames := 2, cells := 3, slots := 1034, locals := 40 }
set_option maxHeartbeats 4000000 in
set_option maxRecDepth 100000 in
theorem k_C_init (l : Launch) (g : CG) (q : Nat) : KN (S := Nat × Nat × Nat) l g y_C_init (Cond.code y_C_init c_C_init 1 none :: ALL) rm_C_init [.ref q] (w0C q) (w1C g q) 3 1034 := by
  refine KN.ofW (by decide) (Nat.le_of_ble_eq_true rfl) ?_
  intro p e s m args below meth c A Q ls X hin RET hC hl
  obtain ⟨hx, hb⟩ := FX_xb X
  have hl : lv_has ls 1 [(0, .ref q)] := hl
  refine lv_aload_n (pc := 0) hx hb d_C_init_0 rfl (lv_at hl 0 rfl) ?_
  refine W.objInit hx hb X.1.2.2.2.1 (X.1.2.2.2.2 _ wo_C) (X.1.2.2.2.2 _ wo_i) (X.1.2.2.2.2 _ wo_c) rfl (by rw [X.1.2.2.1]; exact hl.1) rfl d_C_init_1 (Nat.le_of_ble_eq_true rfl) (Nat.le_of_ble_eq_true rfl) ?_
  refine W.eq (g2 := F0 m 4 ls []) rfl ?_
  refine lv_aload_n (pc := 4) hx hb d_C_init_4 rfl (lv_at hl 0 rfl) ?_
  refine lv_sipush (pc := 5) (v := 1024) hx hb d_C_init_5 (by decide) ?_
  refine new_I (pc := 8) (N := 1024) X hC (by decide) (by decide) (by decide) ⟨Nat.le_of_ble_eq_true rfl, Nat.le_of_ble_eq_true rfl⟩ d_C_init_8 (fun a H hC => ?_)
  refine va_putF (D := g.1) (ci := 0) (v := .ref a) (ty := .array .int) (C := "ClockedChip") (T := TC) (N := 13) hx hb X.1.2.2.2.2 in_C tyC tyC_ok nmC X.1.2.2.2.1 X.2.1 hC.1 hC.2.1 hC.2.2 0 rfl rfl 0 (by decide) (X.1.2.2.2.2 _ (in_ALL (List.mem_append_left _ (List.mem_of_getElem? (i := 58) rfl)) rfl)) (fun _ h9 => h9) rfl hin rfl (by decide +kernel) rfl rfl (Nat.le_of_ble_eq_true rfl) d_C_init_10 (fun H locs hP hD hS => ?_)
  have hC : HC g A s [(q, .inr (iC, [.ref a, .null, .null, .int 0, .null, .null, .int 0, .int 0, .int 0, .int 0, .int 0, .int 0, .int 0])), (a, .inl (g.cI, 1024, .inl fun _ => 0))] H locs := ⟨hP, hD, hS⟩
  refine lv_aload_n (pc := 13) hx hb d_C_init_13 rfl (lv_at hl 0 rfl) ?_
  refine lv_iconst (pc := 14) (v := 4) hx hb d_C_init_14 (by decide) ?_
  refine new_Z (pc := 15) (N := 4) X hC (by decide) (by decide) (by decide) ⟨Nat.le_of_ble_eq_true rfl, Nat.le_of_ble_eq_true rfl⟩ d_C_init_15 (fun b H hC => ?_)
  refine va_putF (D := g.1) (ci := 0) (v := .ref b) (ty := .array .boolean) (C := "ClockedChip") (T := TC) (N := 13) hx hb X.1.2.2.2.2 in_C tyC tyC_ok nmC X.1.2.2.2.1 X.2.1 hC.1 hC.2.1 hC.2.2 0 rfl rfl 1 (by decide) (X.1.2.2.2.2 _ (in_ALL (List.mem_append_left _ (List.mem_of_getElem? (i := 59) rfl)) rfl)) (fun _ h9 => h9) rfl hin rfl (by decide +kernel) rfl rfl (Nat.le_of_ble_eq_true rfl) d_C_init_17 (fun H locs hP hD hS => ?_)
  have hC : HC g A s [(q, .inr (iC, [.ref a, .ref b, .null, .int 0, .null, .null, .int 0, .int 0, .int 0, .int 0, .int 0, .int 0, .int 0])), (a, .inl (g.cI, 1024, .inl fun _ => 0)), (b, .inl (g.cZ, 4, .inl fun _ => 0))] H locs := ⟨hP, hD, hS⟩
  refine lv_aload_n (pc := 20) hx hb d_C_init_20 rfl (lv_at hl 0 rfl) ?_
  refine va_get (D := g.1) (ci := 0) (C := "ClockedChip") (T := TC) (N := 13) hx hb X.1.2.2.2.2 in_C X.1.2.2.2.1 X.2.1 hC.1 0 rfl rfl 1 (by decide) (X.1.2.2.2.2 _ (in_ALL (List.mem_append_left _ (List.mem_of_getElem? (i := 59) rfl)) rfl)) (fun _ h9 => h9) rfl d_C_init_21 ?_
  refine lv_iconst (pc := 24) (v := 2) hx hb d_C_init_24 (by decide) ?_
  refine lv_iconst (pc := 25) (v := 1) hx hb d_C_init_25 (by decide) ?_
  refine va_zast (x := 1) (i := 2) hx hb X.2.1 hC.1 hC.2.1 hC.2.2 2 1 rfl rfl (by unfold vp_in; decide) d_C_init_26 (fun H locs hP hD hS => ?_)
  have hC : HC g A s [(q, .inr (iC, [.ref a, .ref b, .null, .int 0, .null, .null, .int 0, .int 0, .int 0, .int 0, .int 0, .int 0, .int 0])), (a, .inl (g.cI, 1024, .inl fun _ => 0)), (b, .inl (g.cZ, 4, .inl (upd (fun _ => 0) 2 1)))] H locs := ⟨hP, hD, hS⟩
  refine lv_aload_n (pc := 27) hx hb d_C_init_27 rfl (lv_at hl 0 rfl) ?_
  refine va_new (D := g.1) (ci := 1) (fs := [.int 0, .int 0, .int 0, .int 0, .int 0, .int 0]) (C := "ClockedChip$Registers") (T := TR) (N := 6) hx hb X.1.2.2.2.2 in_R tyR tyR_ok X.1.2.2.2.1 (X.1.2.2.2.2 _ wk_R) (X.1.2.2.2.2 _ wn_R) (X.1.2.2.2.2 _ wz_R) X.2.1 hC.1 hC.2.1 hC.2.2 X.2.2.2 rfl (fun j hj => by rcases (show j = 0 ∨ j = 1 ∨ j = 2 ∨ j = 3 ∨ j = 4 ∨ j = 5 by omega) with rfl | rfl | rfl | rfl | rfl | rfl <;> rfl) (Nat.le_of_ble_eq_true rfl) (Nat.le_of_ble_eq_true rfl) d_C_init_28 (fun r H hP hD hS => ?_)
  have hC : HC g A s [(q, .inr (iC, [.ref a, .ref b, .null, .int 0, .null, .null, .int 0, .int 0, .int 0, .int 0, .int 0, .int 0, .int 0])), (a, .inl (g.cI, 1024, .inl fun _ => 0)), (b, .inl (g.cZ, 4, .inl (upd (fun _ => 0) 2 1))), (r, .inr (iR, [.int 0, .int 0, .int 0, .int 0, .int 0, .int 0]))] H locs := ⟨hP, hD, hS⟩
  refine lv_dup (pc := 31) hx hb d_C_init_31 rfl ?_
  refine callNI (pc := 32) (y := y_R_init) (bytes := c_R_init) (maxL := 1) (host := "ClockedChip") (index := 19) (rm := rm_R_init) (rest := [.ref r, .ref q]) X (k_R_init l g r _) hC ⟨va_cnB (ws' := ALL) 0 X.1.2.2.2.2 (goodIn_code w_R_init) rfl rfl rfl (X.2.2.1.2.2.2.2.2.2 _ (List.mem_append_left _ (List.mem_of_getElem? (i := 24) rfl)) rfl) (X.1.2.2.2.2 _ wz_R) (by decide +kernel) ⟨Nat.le_of_ble_eq_true rfl, Nat.le_of_ble_eq_true rfl⟩, rfl, X.1.2.2.2.2 _ wi_R⟩ hl.1 (Nat.le_of_ble_eq_true rfl) rfl d_C_init_32 ⟨Nat.le_of_ble_eq_true rfl, Nat.le_of_ble_eq_true rfl⟩ (fun _ H locs _ hC => ?_)
  refine va_putF (D := g.1) (ci := 0) (v := .ref r) (ty := .object "ClockedChip$Registers") (C := "ClockedChip") (T := TC) (N := 13) hx hb X.1.2.2.2.2 in_C tyC tyC_ok nmC X.1.2.2.2.1 X.2.1 hC.1 hC.2.1 hC.2.2 0 rfl rfl 2 (by decide) (X.1.2.2.2.2 _ (in_ALL (List.mem_append_left _ (List.mem_of_getElem? (i := 60) rfl)) rfl)) (fun _ h9 => h9) rfl hin rfl (by decide +kernel) rfl rfl (Nat.le_of_ble_eq_true rfl) d_C_init_35 (fun H locs hP hD hS => ?_)
  have hC : HC g A s [(q, .inr (iC, [.ref a, .ref b, .ref r, .int 0, .null, .null, .int 0, .int 0, .int 0, .int 0, .int 0, .int 0, .int 0])), (a, .inl (g.cI, 1024, .inl fun _ => 0)), (b, .inl (g.cZ, 4, .inl (upd (fun _ => 0) 2 1))), (r, .inr (iR, [.int 0, .int 0, .int 0, .int 0, .int 0, .int 0]))] H locs := ⟨hP, hD, hS⟩
  refine lv_aload_n (pc := 38) hx hb d_C_init_38 rfl (lv_at hl 0 rfl) ?_
  refine SC_stp_FETCH (pc := 39) X hC d_C_init_39 ?_
  refine va_put (D := g.1) (ci := 0) (v := .ref (g.adS 0)) (ty := .object "ClockedChip$Step") (C := "ClockedChip") (T := TC) (N := 13) hx hb X.1.2.2.2.2 in_C tyC tyC_ok nmC X.1.2.2.2.1 X.2.1 hC.1 hC.2.1 hC.2.2 0 rfl rfl 4 (by decide) (X.1.2.2.2.2 _ (in_ALL (List.mem_append_left _ (List.mem_of_getElem? (i := 62) rfl)) rfl)) (fun _ h9 => h9) rfl (by decide +kernel) rfl rfl (Nat.le_of_ble_eq_true rfl) d_C_init_42 (fun H locs hP hD hS => ?_)
  have hC : HC g A s [(q, .inr (iC, [.ref a, .ref b, .ref r, .int 0, .ref (g.adS 0), .null, .int 0, .int 0, .int 0, .int 0, .int 0, .int 0, .int 0])), (a, .inl (g.cI, 1024, .inl fun _ => 0)), (b, .inl (g.cZ, 4, .inl (upd (fun _ => 0) 2 1))), (r, .inr (iR, [.int 0, .int 0, .int 0, .int 0, .int 0, .int 0]))] H locs := ⟨hP, hD, hS⟩
  refine lv_aload_n (pc := 45) hx hb d_C_init_45 rfl (lv_at hl 0 rfl) ?_
  refine SC_knd_NOT_READ_YET (pc := 46) X hC d_C_init_46 ?_
  refine va_put (D := g.1) (ci := 0) (v := .ref (g.adK 15)) (ty := .object "ClockedChip$Kind") (C := "ClockedChip") (T := TC) (N := 13) hx hb X.1.2.2.2.2 in_C tyC tyC_ok nmC X.1.2.2.2.1 X.2.1 hC.1 hC.2.1 hC.2.2 0 rfl rfl 5 (by decide) (X.1.2.2.2.2 _ (in_ALL (List.mem_append_left _ (List.mem_of_getElem? (i := 63) rfl)) rfl)) (fun _ h9 => h9) rfl (by decide +kernel) rfl rfl (Nat.le_of_ble_eq_true rfl) d_C_init_49 (fun H locs hP hD hS => ?_)
  exact RET (pc := 52) (a, b, r) d_C_init_52 ⟨hP, hD, hS⟩

/-! the law's beginning: the two objects and the row for answers -/
theorem callNJ {S : Type} {p : Program} {l : Launch} {e : Env} {R : Room} {s : State} {m : MethodId} {args : Array Value} {below : List Frame} {meth : Method} {c : Code} {H : Heap} {locs : List Loc} {cells slots : Nat} {Q : State → Prop} {cc bytes : ByteArray} {pc nL maxL index mc ms : Nat} {ls : Array Slot} {rest st0 : List Value} {own : String} {g : CG} {A : Nat → Prop} {y : MethodName} {rm : Room} {b : Nat} {w0 wr ws : va_W} {w1 : S → va_W} (X : FX p m c cc nL s args own g A) (hM : KN (S := S) l g y (Cond.code y bytes maxL none :: ALL) rm [.ref b] w0 w1 mc ms) (hC : HC g A s ws H locs) (isC isR : List Nat) (hCs : isC.map (fun i => ws[i]?) = w0.map some) (hRs : isR.map (fun i => ws[i]?) = wr.map some) (hnC : va_nd isC = true) (hnR : va_nd isR = true) (hdis : ∀ i ∈ isR, i ∉ isC)
    (cn : CallB R s args own index y bytes maxL none (Cond.code y bytes maxL none :: ALL) rm mc ms 0 ∧ y.name = "<init>" ∧ (Cond.instanceMethod y).before args s = true) (hsize : ls.size = nL) (hroom : (rest.map fun v => v.category).sum ≤ 8) (hst : st0 = .ref b :: rest) (hdg : decode cc pc = .ok (.invokespecial index, 3)) (hf : cells + mc ≤ R.cells ∧ slots + ms ≤ R.slots)
    (kk : ∀ (u : S) (H1 : Heap) (locs1 : List Loc), HC g A s (wr ++ w1 u) H1 locs1 → W p l e R s m args below meth c H1 locs1 (cells + mc) (slots + ms) Q (F0 m (pc + 3) ls rest)) : W p l e R s m args below meth c H locs cells slots Q (F0 m pc ls st0) := by
  have hsub : isC.filterMap (fun i => ws[i]?) = w0 := by
    have h9 : (isC.map (fun i => ws[i]?)).filterMap id = w0 := by rw [hCs]; simp
    simpa [List.filterMap_map] using h9
  have hC0 : HC g A s w0 H locs := ⟨hC.1.sub isC hsub, hC.2.1.sub isC hnC hCs, hC.2.2⟩
  have hpre := HC_pre (Wd := fun _ : Unit => w0) (st := ()) X hC0 [.ref b]
  refine va_callv (va_runI (As := []) (rest := rest) X.1 (hM H.size) cn hpre rfl rfl hsize hst (lv_room hroom) hdg hf) hC.2.2 (fun q _ h => ck_fr hC0.2.1 hC0.2.2 X.2.2.2 q h) (ck_fr hC0.2.1 hC0.2.2 X.2.2.2) (fun u t H1 locs1 ht hvm hw hB hz1 hk1 hS => ?_)
  obtain ⟨hP1, -, hD1⟩ := hB
  obtain ⟨j1, j2⟩ := va_join hC.1 hC.2.1 isC isR hCs hRs hnR hdis hk1 (ck_fr hC0.2.1 hC0.2.2 X.2.2.2) (by rw [← ht]; exact hP1) hD1
  exact kk u H1 locs1 ⟨j1, j2, hS⟩
def setG (g : CG) (q a1 a2 a3 q2 mm q3 : Nat) : CG := (g.1, fun k => match k with
  | 0 => q
  | 1 => a1
  | 2 => a2
  | 3 => a3
  | 4 => q2
  | 5 => mm
  | 6 => q3
  | k => g.2.1 k, g.2.2.1, g.2.2.2)
set_option maxRecDepth 100000 in
theorem vl_C_init : Cond.methodLink "ClockedChipLaw" 30 y_C_init ∈ ALL := in_ALL (by decide +kernel) rfl
set_option maxRecDepth 100000 in
theorem vi_C_init : Cond.instanceMethod y_C_init ∈ ALL := in_ALL (by decide +kernel) rfl
set_option maxRecDepth 100000 in
theorem vl_M_init : Cond.methodLink "ClockedChipLaw" 33 y_M_init ∈ ALL := in_ALL (by decide +kernel) rfl
set_option maxRecDepth 100000 in
theorem vi_M_init : Cond.instanceMethod y_M_init ∈ ALL := in_ALL (by decide +kernel) rfl
set_option maxHeartbeats 4000000 in
set_option maxRecDepth 100000 in
theorem lw_begin {p : Program} {l : Launch} {e : Env} {s : State} {m : MethodId} {below : List Frame} {meth : Method} {c : Code} {Q : State → Prop} {b L : Nat} {xs : Nat → Int32} {g : CG} {A : Nat → Prop} {ls : Array Slot} (X0 : LX p m c s b L xs g A) (hfl : l.flags = pinnedFlags ++ [noTraceFlag]) (hL : L ≤ 1536)
    (END : ∀ (H : Heap) (locs : List Loc) (ls : Array Slot) (k : Nat), k ≤ 512 → va_S A s.heap H locs → W p l e room_1 s m #[Value.ref b] below meth c H locs (7 + k) (2101 + 6 * k) Q (F0 m 427 ls []))
    (hl : lv_has ls 7 [(0, .ref b)]) : W p l e room_1 s m #[Value.ref b] below meth c s.heap [] 0 0 Q (F0 m 0 ls []) := by
  obtain ⟨X, tw, hX, hbl, hbA⟩ := id X0
  obtain ⟨hx, hb⟩ := FX_xb X
  have hC : HC g A s [] s.heap [] := ⟨fun k q h => by simp at h, ⟨fun i j x y h => by simp at h, fun k q h => by simp at h⟩, va_S.rf⟩
  refine va_new (D := g.1) (ci := 0) (pc := 0) (fs := [.null, .null, .null, .int 0, .null, .null, .int 0, .int 0, .int 0, .int 0, .int 0, .int 0, .int 0]) (C := "ClockedChip") (T := TC) (N := 13) hx hb X.1.2.2.2.2 in_C tyC tyC_ok X.1.2.2.2.1 (X.1.2.2.2.2 _ wk_C) (X.1.2.2.2.2 _ wn_C) (X.1.2.2.2.2 _ wz_C) X.2.1 hC.1 hC.2.1 hC.2.2 X.2.2.2 rfl (fun j hj => by rcases (show j = 0 ∨ j = 1 ∨ j = 2 ∨ j = 3 ∨ j = 4 ∨ j = 5 ∨ j = 6 ∨ j = 7 ∨ j = 8 ∨ j = 9 ∨ j = 10 ∨ j = 11 ∨ j = 12 by omega) with rfl | rfl | rfl | rfl | rfl | rfl | rfl | rfl | rfl | rfl | rfl | rfl | rfl <;> rfl) (by decide) (by decide) d_W_0 (fun q H hP hD hS => ?_)
  have hC : HC g A s (w0C q) H [] := ⟨hP, hD, hS⟩
  refine lv_dup (pc := 3) hx hb d_W_3 rfl ?_
  refine callNJ (pc := 4) (y := y_C_init) (bytes := c_C_init) (maxL := 1) (index := 30) (rest := [.ref q]) (wr := []) X (k_C_init l g q) hC [0] [] rfl rfl rfl rfl (fun i h => by cases h) ⟨callB_of 0 X.1.2.2.2.2 (goodIn_code w_C_init) rfl rfl rfl (X.1.2.2.2.2 _ wz_C) (X.1.2.2.2.2 _ vl_C_init) (by decide +kernel) ⟨by decide, by decide⟩, rfl, X.1.2.2.2.2 _ vi_C_init⟩ hl.1 (Nat.le_of_ble_eq_true rfl) rfl d_W_4 ⟨by decide, by decide⟩ (fun u H locs hC => ?_)
  obtain ⟨a1, a2, a3⟩ := u
  refine lv_astore_n (pc := 7) (nL := 7) (lv' := [(1, .ref q), (0, .ref b)]) hx hb d_W_7 rfl hl (by decide) rfl (fun ls hl => ?_)
  refine va_new (D := g.1) (ci := 2) (pc := 8) (fs := [.null, .int 0, .int 0, .int 0, .int 0, .int 0, .int 0, .int 0, .int 0, .int 0, .int 0, .int 0, .int 0, .int 0, .int 0, .int 0, .int 0, .int 0, .int 0, .int 0, .int 0, .int 0, .int 0, .int 0, .int 0, .int 0, .int 0, .int 0, .int 0]) (C := "ClockedChipModel") (T := TM) (N := 29) hx hb X.1.2.2.2.2 in_M tyM tyM_ok X.1.2.2.2.1 (X.1.2.2.2.2 _ wk_M) (X.1.2.2.2.2 _ wn_M) (X.1.2.2.2.2 _ wz_M) X.2.1 hC.1 hC.2.1 hC.2.2 X.2.2.2 rfl (fun j hj => by rcases (show j = 0 ∨ j = 1 ∨ j = 2 ∨ j = 3 ∨ j = 4 ∨ j = 5 ∨ j = 6 ∨ j = 7 ∨ j = 8 ∨ j = 9 ∨ j = 10 ∨ j = 11 ∨ j = 12 ∨ j = 13 ∨ j = 14 ∨ j = 15 ∨ j = 16 ∨ j = 17 ∨ j = 18 ∨ j = 19 ∨ j = 20 ∨ j = 21 ∨ j = 22 ∨ j = 23 ∨ j = 24 ∨ j = 25 ∨ j = 26 ∨ j = 27 ∨ j = 28 by omega) with rfl | rfl | rfl | rfl | rfl | rfl | rfl | rfl | rfl | rfl | rfl | rfl | rfl | rfl | rfl | rfl | rfl | rfl | rfl | rfl | rfl | rfl | rfl | rfl | rfl | rfl | rfl | rfl | rfl <;> rfl) (by decide) (by decide) d_W_8 (fun q2 H hP hD hS => ?_)
  have hC : HC g A s (w1C g q (a1, a2, a3) ++ w0M q2) H locs := ⟨hP, hD, hS⟩
  refine lv_dup (pc := 11) hx hb d_W_11 rfl ?_
  refine callNJ (pc := 12) (y := y_M_init) (bytes := c_M_init) (maxL := 1) (index := 33) (rest := [.ref q2]) (wr := w1C g q (a1, a2, a3)) X (k_M_init l g q2) hC [4] [0, 1, 2, 3] rfl rfl rfl rfl (by decide) ⟨callB_of 0 X.1.2.2.2.2 (goodIn_code w_M_init) rfl rfl rfl (X.1.2.2.2.2 _ wz_M) (X.1.2.2.2.2 _ vl_M_init) (by decide +kernel) ⟨by decide, by decide⟩, rfl, X.1.2.2.2.2 _ vi_M_init⟩ hl.1 (Nat.le_of_ble_eq_true rfl) rfl d_W_12 ⟨by decide, by decide⟩ (fun mm H locs hC => ?_)
  refine lv_astore_n (pc := 15) (nL := 7) (lv' := [(2, .ref q2), (1, .ref q), (0, .ref b)]) hx hb d_W_15 rfl hl (by decide) rfl (fun ls hl => ?_)
  refine lv_iconst (pc := 16) (v := 1) hx hb d_W_16 (by decide) ?_
  refine new_L (pc := 17) (N := 1) X hC (by decide) (by decide) (by decide) ⟨by decide, by decide⟩ d_W_17 (fun q3 H hC => ?_)
  refine lv_astore_n (pc := 19) (nL := 7) (lv' := [(3, .ref q3), (2, .ref q2), (1, .ref q), (0, .ref b)]) hx hb d_W_19 rfl hl (by decide) rfl (fun ls hl => ?_)
  refine lv_iconst (pc := 20) (v := 0) hx hb d_W_20 (by decide) ?_
  refine lv_istore (pc := 21) (nL := 7) (lv' := [(4, .int 0), (3, .ref q3), (2, .ref q2), (1, .ref q), (0, .ref b)]) hx hb d_W_21 hl (by decide) rfl (fun ls hl => ?_)
  have hC' : HC (setG g q a1 a2 a3 q2 mm q3) A s (wC (setG g q a1 a2 a3 q2 mm q3) rt0 (fun _ => 0) st0) H locs := hC
  have X' : LX p m c s b L xs (setG g q a1 a2 a3 q2 mm q3) A := X0
  have hl' : lv_has ls 7 (lvW (setG g q a1 a2 a3 q2 mm q3) b (nI (3 * 0))) := by
    rw [show nI (3 * 0) = 0 from nI_0]
    exact lv_sub hl [0, 4, 3, 2, 1] rfl
  exact lw_loop X' hfl hL END (L / 3) 0 H locs ls st0 rt0 (fun _ => 0) (Nat.zero_add _) RR_0 hC' hl'

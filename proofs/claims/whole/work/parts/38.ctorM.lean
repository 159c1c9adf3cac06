/-! a constructor's contract; the reference's constructor -/
def KN {S : Type} (l : Launch) (g : CG) (y : MethodName) (ws : List Cond) (rm : Room) (av : List Value) (w0 : va_W) (w1 : S → va_W) (mc ms : Nat) : Prop :=
  ∀ sz : Nat, Met l y ws rm (va_Pc av (pre7 g w0 sz)) (va_Qv (fun _ : S => True) (fun u t => post7 g w0 (w1 u) sz t) (va_A w0 sz)) mc ms (va_A w0 sz)
theorem KN.ofW {S : Type} {l : Launch} {g : CG} {y : MethodName} {cc : ByteArray} {nL : Nat} {rm : Room} {av : List Value} {w0 : va_W} {w1 : S → va_W} {mc ms : Nat} (hy : plainName y.cls = true) (hlen : (lg_sl av).length ≤ nL)
    (body : ∀ (p : Program) (e : Env) (s : State) (m : MethodId) (args : Array Value) (below : List Frame) (meth : Method) (c : Code) (A : Nat → Prop) (Q : State → Prop) (ls : Array Slot), FX p m c cc nL s args y.cls g A → meth.name = y.name →
      (∀ {pc : Nat} {ls : Array Slot} {H : Heap} {locs : List Loc} (u : S), decode cc pc = .ok (.return_, 1) → HC g A s (w1 u) H locs → W p l e rm s m args below meth c H locs mc ms Q (F0 m pc ls [])) →
      HC g A s w0 s.heap [] → lv_has ls nL (lv_args 0 av) → W p l e rm s m args below meth c s.heap [] 0 0 Q (F0 m 0 ls [])) : KN l g y (Cond.code y cc nL none :: ALL) rm av w0 w1 mc ms := by
  intro sz
  refine Met.ofW (cc := cc) (maxL := nL) (ret := none) hy rfl ?_
  intro p e s m args below meth c s₁ B hml hv
  obtain ⟨rfl, hsz, hP, hK, hD0, hE⟩ := hv
  have hts := atoms_spec (ws := Cond.code y cc nL none :: ALL) B.pre
  have hown : s.vm.findClass y.cls = some m.cls := findClass_of_methodNamed B.named
  have hlocks := B.notSynchronized
  have hin := (name_of_methodNamed B.named B.method).1
  subst hsz
  have hD := hD0.self (sz := s.heap.size)
  have hl := lv_entry av (n := nL) hlen
  rw [lg_entry_eq]
  exact body p e s m _ below meth c (va_A w0 s.heap.size) _ _ ⟨⟨B.exec, B.bytes, hml, hown, fun w h => hts w (List.mem_cons_of_mem _ h)⟩, hK, hE, fun q h => Or.inr h⟩ hin
    (fun u hdg hC => W.vret B.exec B.bytes B.returns (fun t ht hW => ⟨⟨u, rfl, trivial, by rw [ht]; exact hC.1, va_K.moved hW.alike hK, hC.2.1⟩, hC.2.2.F ht⟩) hC.2.2.2.2 hdg) ⟨hP, hD, va_S.rf⟩ hl
theorem cI_eq {g : CG} {s : State} {cA : ClassId} (h : va_K g.1 CL (tysG g) s) (h' : va_K g.1 CL (tysG g ++ [(cA, .int)]) s) : cA = g.cI :=
  Option.some.inj ((show s.vm.findClass _ = some cA from (h'.2 3 _ rfl).2).symm.trans (show s.vm.findClass _ = some g.cI from (h.2 0 _ rfl).2))
theorem cZ_eq {g : CG} {s : State} {cA : ClassId} (h : va_K g.1 CL (tysG g) s) (h' : va_K g.1 CL (tysG g ++ [(cA, .boolean)]) s) : cA = g.cZ :=
  Option.some.inj ((show s.vm.findClass _ = some cA from (h'.2 3 _ rfl).2).symm.trans (show s.vm.findClass _ = some g.cZ from (h.2 1 _ rfl).2))
theorem cL_eq {g : CG} {s : State} {cA : ClassId} (h : va_K g.1 CL (tysG g) s) (h' : va_K g.1 CL (tysG g ++ [(cA, .long)]) s) : cA = g.cL :=
  Option.some.inj ((show s.vm.findClass _ = some cA from (h'.2 3 _ rfl).2).symm.trans (show s.vm.findClass _ = some g.cL from (h.2 2 _ rfl).2))
section NA
variable {p : Program} {l : Launch} {e : Env} {R : Room} {s : State} {m : MethodId} {args : Array Value} {below : List Frame} {meth : Method} {c : Code} {H : Heap} {locs : List Loc} {cells slots : Nat} {Q : State → Prop}
variable {cc : ByteArray} {pc nL : Nat} {ls : Array Slot} {rest : List Value} {own : String} {g : CG} {A : Nat → Prop} {ws : va_W}
theorem new_I (X : FX p m c cc nL s args own g A) (hC : HC g A s ws H locs) {n : Int32} {N : Nat} (hn : ¬ n < 0) (hN : n.toNatClampNeg = N) (hbytes : N * componentBytes .int ≤ 536870912) (hf : cells + 1 ≤ R.cells ∧ slots + N ≤ R.slots) (hdg : decode cc pc = .ok (.newarray .int, 2))
    (kk : ∀ (q : Nat) (H1 : Heap), HC g A s (ws ++ [(q, .inl (g.cI, N, .inl fun _ => 0))]) H1 locs → W p l e R s m args below meth c H1 locs (cells + 1) (slots + N) Q (F0 m (pc + 2) ls (.ref q :: rest))) : W p l e R s m args below meth c H locs cells slots Q (F0 m pc ls (.int n :: rest)) :=
  va_newa (atype := .int) (D := g.1) (a0 := (N, .inl fun _ => 0)) X.1.1 X.1.2.1 (X.1.2.2.2.2 _ wa_int) rfl X.2.1 hC.1 hC.2.1 hC.2.2 X.2.2.2 (fun cA => rfl) hn hN hbytes hf.1 hf.2 hdg (fun q cA H1 hK hP hD hS => by
    have e := cI_eq X.2.1 hK
    subst e
    exact kk q H1 ⟨hP, hD, hS⟩)
theorem new_Z (X : FX p m c cc nL s args own g A) (hC : HC g A s ws H locs) {n : Int32} {N : Nat} (hn : ¬ n < 0) (hN : n.toNatClampNeg = N) (hbytes : N * componentBytes .boolean ≤ 536870912) (hf : cells + 1 ≤ R.cells ∧ slots + N ≤ R.slots) (hdg : decode cc pc = .ok (.newarray .boolean, 2))
    (kk : ∀ (q : Nat) (H1 : Heap), HC g A s (ws ++ [(q, .inl (g.cZ, N, .inl fun _ => 0))]) H1 locs → W p l e R s m args below meth c H1 locs (cells + 1) (slots + N) Q (F0 m (pc + 2) ls (.ref q :: rest))) : W p l e R s m args below meth c H locs cells slots Q (F0 m pc ls (.int n :: rest)) :=
  va_newa (atype := .boolean) (D := g.1) (a0 := (N, .inl fun _ => 0)) X.1.1 X.1.2.1 (X.1.2.2.2.2 _ wa_boolean) rfl X.2.1 hC.1 hC.2.1 hC.2.2 X.2.2.2 (fun cA => rfl) hn hN hbytes hf.1 hf.2 hdg (fun q cA H1 hK hP hD hS => by
    have e := cZ_eq X.2.1 hK
    subst e
    exact kk q H1 ⟨hP, hD, hS⟩)
theorem new_L (X : FX p m c cc nL s args own g A) (hC : HC g A s ws H locs) {n : Int32} {N : Nat} (hn : ¬ n < 0) (hN : n.toNatClampNeg = N) (hbytes : N * componentBytes .long ≤ 536870912) (hf : cells + 1 ≤ R.cells ∧ slots + N ≤ R.slots) (hdg : decode cc pc = .ok (.newarray .long, 2))
    (kk : ∀ (q : Nat) (H1 : Heap), HC g A s (ws ++ [(q, .inl (g.cL, N, .inr (.inl fun _ => 0)))]) H1 locs → W p l e R s m args below meth c H1 locs (cells + 1) (slots + N) Q (F0 m (pc + 2) ls (.ref q :: rest))) : W p l e R s m args below meth c H locs cells slots Q (F0 m pc ls (.int n :: rest)) :=
  va_newa (atype := .long) (D := g.1) (a0 := (N, .inr (.inl fun _ => 0))) X.1.1 X.1.2.1 (X.1.2.2.2.2 _ wa_long) rfl X.2.1 hC.1 hC.2.1 hC.2.2 X.2.2.2 (fun cA => rfl) hn hN hbytes hf.1 hf.2 hdg (fun q cA H1 hK hP hD hS => by
    have e := cL_eq X.2.1 hK
    subst e
    exact kk q H1 ⟨hP, hD, hS⟩)
end NA
abbrev w0M (q : Nat) : va_W := [(q, .inr (iM, [.null, .int 0, .int 0, .int 0, .int 0, .int 0, .int 0, .int 0, .int 0, .int 0, .int 0, .int 0, .int 0, .int 0, .int 0, .int 0, .int 0, .int 0, .int 0, .int 0, .int 0, .int 0, .int 0, .int 0, .int 0, .int 0, .int 0, .int 0, .int 0]))]
abbrev w1M (g : CG) (q a : Nat) : va_W := [(q, .inr (iM, [.ref a, .int 0, .int 0, .int 0, .int 0, .int 0, .int 0, .int 0, .int 0, .int 1, .int 0, .int 0, .int 0, .int 0, .int 0, .int 0, .int 0, .int 0, .int 0, .int 0, .int 0, .int 0, .int 0, .int 0, .int 0, .int 0, .int 0, .int 0, .int 0])), (a, .inl (g.cI, 1024, .inl fun _ => 0))]
abbrev rm_M_init : Room := { frames := 1, cells := 1, slots := 1024, locals := 12 }
set_option maxHeartbeats 4000000 in
set_option maxRecDepth 100000 in
theorem k_M_init (l : Launch) (g : CG) (q : Nat) : KN (S := Nat) l g y_M_init (Cond.code y_M_init c_M_init 1 none :: ALL) rm_M_init [.ref q] (w0M q) (w1M g q) 1 1024 := by
  refine KN.ofW (by decide) (Nat.le_of_ble_eq_true rfl) ?_
  intro p e s m args below meth c A Q ls X hin RET hC hl
  obtain ⟨hx, hb⟩ := FX_xb X
  have hl : lv_has ls 1 [(0, .ref q)] := hl
  refine lv_aload_n (pc := 0) hx hb d_M_init_0 rfl (lv_at hl 0 rfl) ?_
  refine W.objInit hx hb X.1.2.2.2.1 (X.1.2.2.2.2 _ wo_M) (X.1.2.2.2.2 _ wo_i) (X.1.2.2.2.2 _ wo_c) rfl (by rw [X.1.2.2.1]; exact hl.1) rfl d_M_init_1 (Nat.le_of_ble_eq_true rfl) (Nat.le_of_ble_eq_true rfl) ?_
  refine W.eq (g2 := F0 m 4 ls []) rfl ?_
  refine lv_aload_n (pc := 4) hx hb d_M_init_4 rfl (lv_at hl 0 rfl) ?_
  refine lv_sipush (pc := 5) (v := 1024) hx hb d_M_init_5 (by decide) ?_
  refine new_I (pc := 8) (N := 1024) X hC (by decide) (by decide) (by decide) ⟨Nat.le_of_ble_eq_true rfl, Nat.le_of_ble_eq_true rfl⟩ d_M_init_8 (fun a H1 hC => ?_)
  refine W.widen (k := 1) (n := 1024) (by omega) (by omega) ?_
  refine va_putF (D := g.1) (ci := 2) (v := .ref a) (ty := .array .int) (C := "ClockedChipModel") (T := TM) (N := 29) hx hb X.1.2.2.2.2 in_M tyM tyM_ok nmM X.1.2.2.2.1 X.2.1 hC.1 hC.2.1 hC.2.2 0 rfl rfl 0 (by decide) (X.1.2.2.2.2 _ (in_ALL (List.mem_append_right _ (List.mem_append_right _ (List.mem_append_left _ (List.mem_of_getElem? (i := 118) rfl)))) rfl)) (fun _ h9 => h9) rfl hin rfl (by decide +kernel) rfl rfl (Nat.le_of_ble_eq_true rfl) d_M_init_10 (fun H2 locs2 hP hD hS => ?_)
  refine lv_aload_n (pc := 13) hx hb d_M_init_13 rfl (lv_at hl 0 rfl) ?_
  refine lv_iconst (pc := 14) (v := 1) hx hb d_M_init_14 (by decide) ?_
  refine va_put (D := g.1) (ci := 2) (v := .int 1) (ty := .boolean) (C := "ClockedChipModel") (T := TM) (N := 29) hx hb X.1.2.2.2.2 in_M tyM tyM_ok nmM X.1.2.2.2.1 X.2.1 hP hD hS 0 rfl rfl 9 (by decide) (X.1.2.2.2.2 _ (in_ALL (List.mem_append_right _ (List.mem_append_right _ (List.mem_append_left _ (List.mem_of_getElem? (i := 127) rfl)))) rfl)) (fun _ h9 => h9) rfl (by decide +kernel) rfl rfl (Nat.le_of_ble_eq_true rfl) d_M_init_15 (fun H3 locs3 hP hD hS => ?_)
  exact RET (pc := 18) a d_M_init_18 ⟨hP, hD, hS⟩

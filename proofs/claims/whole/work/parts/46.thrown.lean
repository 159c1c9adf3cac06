/-! a method that throws: its contract; the throw -/
def XC (X : String) (st : State) (x : Nat) (t : State) : Prop := st.heap.size ≤ x ∧ ∃ ce : Cell, t.heap[x]? = some ce ∧ ce.vm.isStatics = false ∧ st.vm.findClass X = some ce.cls
def preT (g : CG) (ws : va_W) (sz : Nat) (U : State) : Prop := pre7 g ws sz U ∧ TW (va_A ws sz) U U.heap
theorem preT_blind {g : CG} {ws : va_W} {sz : Nat} {av : List Value} : FrameBlind (va_Pc av (preT g ws sz)) := fun a U f mk q => by
  obtain ⟨q0, q1, q2⟩ := q
  obtain ⟨r0, r1⟩ := pre7_blind (av := av) a U f mk ⟨q0, q1⟩
  exact ⟨r0, r1, TW.moved (u := U) (U := U.calling f mk a) (Vm.Alike.refl U.vm) q2⟩
def QX (X : String) (g : CG) (w : va_W) (sz : Nat) : Array Value → State → Outcome → State → Prop := fun _ st o t => ∃ x : Nat, o = .threw x ∧ XC X st x t ∧ post7 g w w sz t ∧ va_F (va_A w sz) st t ∧ st.WarmedH t.vm ∧ st.sameButNew ({ t with vm := st.vm } : State) [] 1 6
def KT (l : Launch) (g : CG) (X : String) (y : MethodName) (ws : List Cond) (rm : Room) (av : List Value) (w : va_W) : Prop :=
  ∀ sz : Nat, MetFree l y (headSpec ws rm) (va_Pc av (preT g w sz)) (fun _ _ _ _ _ => True) (QX X g w sz)
def MX (below : List Frame) (X : String) (g : CG) (w : va_W) (s : State) : State → Prop := fun t => ∃ x : Nat, t.status = .running ∧ Ended t below (.threw x) ∧ XC X s x t ∧ post7 g w w s.heap.size t ∧ va_F (va_A w s.heap.size) s t ∧ s.WarmedH t.vm ∧ s.sameButNew ({ t with vm := s.vm } : State) [] 1 6
abbrev rmX : Room := { frames := 6, cells := 1, slots := 6, locals := 81 }
theorem fit_nmX : ∀ n ∈ nmX, Bundle.fit n = true := by decide +kernel
set_option maxHeartbeats 4000000 in
theorem KT.ofW {l : Launch} {g : CG} {X : String} {y : MethodName} {cc : ByteArray} {nL ik ic : Nat} {ret : Option FieldType} {av : List Value} {w : va_W} (hfl : l.flags = pinnedFlags ++ [noTraceFlag]) (hyc : y.cls = "ClockedChip") (hlen : (lg_sl av).length ≤ nL) (hX : Bundle.fit X = true)
    (hk : Cond.classLink "ClockedChip" ik X ∈ ALL) (hn : Cond.instantiable X 6 ∈ ALL) (hz : Cond.initialized X ∈ ALL)
    (ho : ∀ a ∈ Bundle.ownAtoms0 "ClockedChip" ic X nmX, a ∈ tables_1 ∨ a ∈ stU) (hg : ∀ a ∈ Bundle.ownAtoms0 "ClockedChip" ic X nmX, a ∈ stU ∨ (goodWord a || isCD a) = true)
    (body : ∀ (p : Program) (e : Env) (s : State) (m : MethodId) (args : Array Value) (below : List Frame) (meth : Method) (c : Code) (A : Nat → Prop) (Q : State → Prop) (ls : Array Slot), FX p m c cc nL s args y.cls g A →
      (∀ {pc : Nat} {ls : Array Slot}, ls.size = nL → decode cc pc = .ok (.new ik, 3) → decode cc (pc + 3) = .ok (.dup, 1) → decode cc (pc + 4) = .ok (.invokespecial ic, 3) → decode cc (pc + 7) = .ok (.athrow, 1) → W p l e rmX s m args below meth c s.heap [] 0 0 Q (F0 m pc ls [])) →
      HC g A s w s.heap [] → lv_has ls nL (lv_args 0 av) → W p l e rmX s m args below meth c s.heap [] 0 0 Q (F0 m 0 ls [])) : KT l g X y (Cond.code y cc nL ret :: ALL) rmX av w := by
  intro sz
  refine MetFree.of_bodyS (code := cc) (maxLocals := nL) (ret := ret) (by rw [hyc]; decide) ?_ ?_
  · intro args s m h hn
    obtain ⟨meth, c, h1, h2, h3, h4, h5, h6, -, -⟩ := Cond.code_spec hn (atoms_spec (ws := Cond.code y cc nL ret :: ALL) h _ List.mem_cons_self)
    exact ⟨meth, c, h1, h2, h3, h4, h5, h6⟩
  · intro p e s m args below meth c s₁ B hml hv _
    obtain ⟨rfl, ⟨hsz, hP, hK, hD0, hE⟩, hT⟩ := hv
    have hts := atoms_spec (ws := Cond.code y cc nL ret :: ALL) B.pre
    have hts' : ∀ w ∈ ALL, w.before av.toArray s = true := fun w h => hts w (List.mem_cons_of_mem _ h)
    have hown : s.vm.findClass y.cls = some m.cls := findClass_of_methodNamed B.named
    have hownC : s.vm.findClass "ClockedChip" = some m.cls := by rw [← hyc]; exact hown
    have hlocks := B.notSynchronized
    subst hsz
    have hD := hD0.self (sz := s.heap.size)
    have hl := lv_entry av (n := nL) hlen
    have hh0 : s₁.heap = s.heap := by rw [B.state]; rfl
    have X0 := Stand.of_body B
    have hemp : c.exceptionTable.toList = [] := by
      obtain ⟨meth', c', h1, h2, -, -, -, -, h7, -⟩ := Cond.code_spec B.named (hts _ List.mem_cons_self)
      cases B.method.symm.trans h1
      cases X0.code.symm.trans h2
      have h0 : c.exceptionTable.size = 0 := by simpa [Array.isEmpty] using h7
      exact List.eq_nil_of_length_eq_zero (by simpa using h0)
    have hgo : ∀ {pc : Nat} {ls : Array Slot}, ls.size = nL → decode cc pc = .ok (.new ik, 3) → decode cc (pc + 3) = .ok (.dup, 1) → decode cc (pc + 4) = .ok (.invokespecial ic, 3) → decode cc (pc + 7) = .ok (.athrow, 1) → W p l e rmX s m av.toArray below meth c s.heap [] 0 0 (MX below X g w s) (F0 m pc ls []) := by
      intro pc ls hls d0 d3 d4 d7
      refine W.newc B.exec B.bytes hownC (hts' _ hk) (hts' _ hn) (hts' _ hz) rfl d0 (by decide) (by decide) (fun cC kC h1 h2 h3 h4 => ?_)
      refine W.eq (g2 := F0 m (pc + 3) ls [.ref s.heap.size]) rfl ?_
      refine lv_dup (pc := pc + 3) B.exec B.bytes d3 rfl ?_
      intro T hT' XT
      obtain ⟨U, q1, q2, q3, q4, q5, ce, q6, q7⟩ := XT.ctorThrow0 B.exec (Launch.traces_off hfl B.admits) (own := "ClockedChip") (cls := X) (names := nmX) (ic := ic) hownC hX fit_nmX (own_before ho hg hts' hT) (fun x h => by cases h) h1 h2 (a := s.heap.size) (by rw [hT']; simp) (Nat.le_refl _) (g := F0 m (pc + 4) ls [.ref s.heap.size, .ref s.heap.size]) rfl (hls.trans hml.symm) rfl rfl (rest := []) rfl (by rw [B.bytes]; exact d4) (by rw [B.bytes]; exact d7) (fun x h => by rw [hemp] at h; cases h) (by decide) (Nat.le_of_ble_eq_true rfl)
      have keep : ∀ q : Nat, q < s.heap.size → U.heap[q]? = s.heap[q]? := fun q h => by
        have hc : s.heap[q]? = some s.heap[q] := Array.getElem?_eq_getElem h
        rw [hc]
        exact q5.old_cell hc
      exact ⟨U, q1, s.heap.size, q2, q3, ⟨Nat.le_refl _, ce, q6, by rw [q7.vm]; rfl, q7.cls⟩, ⟨fun k q hk => (hP k q hk).kept (keep q.1 (hP k q hk).lt), va_K.moved q4.alike hK, hD⟩, ⟨q5.2.1, fun q h1 _ => keep q h1⟩, q4, q5⟩
    rw [lg_entry_eq]
    obtain ⟨t, a1, x, b1, b2, b3, b4, b5, b6, b7⟩ := body p e s m _ below meth c (va_A w s.heap.size) (MX below X g w s) _ ⟨⟨B.exec, B.bytes, hml, hown, hts'⟩, hK, hE, fun q h => Or.inr h⟩ hgo ⟨hP, hD, va_S.rf⟩ hl s₁ hh0 X0
    exact ⟨t, .threw x, a1, b1, b2, x, rfl, b3, b4, b5, b6, b7⟩
/-! the words of the three -/
abbrev nmA : String := "java/lang/IllegalArgumentException"
abbrev nmB : String := "java/lang/IndexOutOfBoundsException"
abbrev nmS2 : String := "java/lang/IllegalStateException"
set_option maxRecDepth 100000 in
theorem wx_kA : Cond.classLink "ClockedChip" 46 nmA ∈ ALL := in_ALL (by decide +kernel) rfl
set_option maxRecDepth 100000 in
theorem wx_kB : Cond.classLink "ClockedChip" 53 nmB ∈ ALL := in_ALL (by decide +kernel) rfl
set_option maxRecDepth 100000 in
theorem wx_kS : Cond.classLink "ClockedChip" 98 nmS2 ∈ ALL := in_ALL (by decide +kernel) rfl
set_option maxRecDepth 100000 in
theorem wx_nA : Cond.instantiable nmA 6 ∈ ALL := in_ALL (by decide +kernel) rfl
set_option maxRecDepth 100000 in
theorem wx_nB : Cond.instantiable nmB 6 ∈ ALL := in_ALL (by decide +kernel) rfl
set_option maxRecDepth 100000 in
theorem wx_nS : Cond.instantiable nmS2 6 ∈ ALL := in_ALL (by decide +kernel) rfl
set_option maxRecDepth 100000 in
theorem wx_zA : Cond.initialized nmA ∈ ALL := in_ALL (by decide +kernel) rfl
set_option maxRecDepth 100000 in
theorem wx_zB : Cond.initialized nmB ∈ ALL := in_ALL (by decide +kernel) rfl
set_option maxRecDepth 100000 in
theorem wx_zS : Cond.initialized nmS2 ∈ ALL := in_ALL (by decide +kernel) rfl
section TC
variable {l : Launch} (g : CG) (rt : MS) (o : Nat → Int64) (st : CS) (v1 v2 : Int32)
theorem kt_C_cycles (hfl : l.flags = pinnedFlags ++ [noTraceFlag]) (h : v1 < 0 ∨ ¬ v1 ≤ 200) : KT l g nmA y_C_cycles (Cond.code y_C_cycles c_C_cycles 4 (some .int) :: ALL) rmX [.ref (g.chip), .int v1] (wC g rt o st) := by
  refine KT.ofW (ik := 46) (ic := 48) hfl rfl (Nat.le_of_ble_eq_true rfl) (by decide +kernel) wx_kA wx_nA wx_zA own_A gd_A ?_
  intro p e s m args below meth c A Q ls X TH hC hl
  obtain ⟨hx, hb⟩ := FX_xb X
  have hl : lv_has ls 4 [(0, .ref (g.chip)), (1, .int v1)] := hl
  refine lv_iload_n (pc := 0) hx hb d_C_cycles_0 rfl (lv_at hl 1 rfl) ?_
  refine lv_if_lt (pc := 1) (tgt := 11) hx hb d_C_cycles_1 (by decide) (fun h1 => ?_) (fun h1 => ?_)
  · exact TH (pc := 11) hl.1 d_C_cycles_11 d_C_cycles_14 d_C_cycles_15 d_C_cycles_18
  refine lv_iload_n (pc := 4) hx hb d_C_cycles_4 rfl (lv_at hl 1 rfl) ?_
  refine lv_sipush (pc := 5) (v := 200) hx hb d_C_cycles_5 (by decide) ?_
  refine lv_icmp_le (pc := 8) (tgt := 19) hx hb d_C_cycles_8 (by decide) (fun h2 => absurd h2 (h.resolve_left h1)) (fun h2 => ?_)
  exact TH (pc := 11) hl.1 d_C_cycles_11 d_C_cycles_14 d_C_cycles_15 d_C_cycles_18
theorem kt_C_pin (hfl : l.flags = pinnedFlags ++ [noTraceFlag]) (h : v1 < 0 ∨ ¬ v1 < 4) : KT l g nmB y_C_pin (Cond.code y_C_pin c_C_pin 4 (some .boolean) :: ALL) rmX [.ref (g.chip), .int v1, .int v2] (wC g rt o st) := by
  refine KT.ofW (ik := 53) (ic := 55) hfl rfl (Nat.le_of_ble_eq_true rfl) (by decide +kernel) wx_kB wx_nB wx_zB own_B gd_B ?_
  intro p e s m args below meth c A Q ls X TH hC hl
  obtain ⟨hx, hb⟩ := FX_xb X
  have hl : lv_has ls 4 [(0, .ref (g.chip)), (1, .int v1), (2, .int v2)] := hl
  refine lv_iload_n (pc := 0) hx hb d_C_pin_0 rfl (lv_at hl 1 rfl) ?_
  refine lv_if_lt (pc := 1) (tgt := 9) hx hb d_C_pin_1 (by decide) (fun h1 => ?_) (fun h1 => ?_)
  · exact TH (pc := 9) hl.1 d_C_pin_9 d_C_pin_12 d_C_pin_13 d_C_pin_16
  refine lv_iload_n (pc := 4) hx hb d_C_pin_4 rfl (lv_at hl 1 rfl) ?_
  refine lv_iconst (pc := 5) (v := 4) hx hb d_C_pin_5 (by decide) ?_
  refine lv_icmp_lt (pc := 6) (tgt := 17) hx hb d_C_pin_6 (by decide) (fun h2 => absurd h2 (h.resolve_left h1)) (fun h2 => ?_)
  exact TH (pc := 9) hl.1 d_C_pin_9 d_C_pin_12 d_C_pin_13 d_C_pin_16
theorem kt_C_register (hfl : l.flags = pinnedFlags ++ [noTraceFlag]) (h : v1 < 0 ∨ ¬ v1 ≤ 7) : KT l g nmB y_C_register (Cond.code y_C_register c_C_register 2 (some .int) :: ALL) rmX [.ref (g.chip), .int v1] (wC g rt o st) := by
  refine KT.ofW (ik := 53) (ic := 55) hfl rfl (Nat.le_of_ble_eq_true rfl) (by decide +kernel) wx_kB wx_nB wx_zB own_B gd_B ?_
  intro p e s m args below meth c A Q ls X TH hC hl
  obtain ⟨hx, hb⟩ := FX_xb X
  have hl : lv_has ls 2 [(0, .ref (g.chip)), (1, .int v1)] := hl
  refine lv_iload_n (pc := 0) hx hb d_C_register_0 rfl (lv_at hl 1 rfl) ?_
  refine lv_if_lt (pc := 1) (tgt := 10) hx hb d_C_register_1 (by decide) (fun h1 => ?_) (fun h1 => ?_)
  · exact TH (pc := 10) hl.1 d_C_register_10 d_C_register_13 d_C_register_14 d_C_register_17
  refine lv_iload_n (pc := 4) hx hb d_C_register_4 rfl (lv_at hl 1 rfl) ?_
  refine lv_bipush (pc := 5) (v := 7) hx hb d_C_register_5 (by decide) ?_
  refine lv_icmp_le (pc := 7) (tgt := 18) hx hb d_C_register_7 (by decide) (fun h2 => absurd h2 (h.resolve_left h1)) (fun h2 => ?_)
  exact TH (pc := 10) hl.1 d_C_register_10 d_C_register_13 d_C_register_14 d_C_register_17
theorem kt_C_set1 (hfl : l.flags = pinnedFlags ++ [noTraceFlag]) (h : v1 < 0 ∨ ¬ v1 ≤ 5) : KT l g nmB y_C_set (Cond.code y_C_set c_C_set 3 none :: ALL) rmX [.ref (g.chip), .int v1, .int v2] (wC g rt o st) := by
  refine KT.ofW (ik := 53) (ic := 55) hfl rfl (Nat.le_of_ble_eq_true rfl) (by decide +kernel) wx_kB wx_nB wx_zB own_B gd_B ?_
  intro p e s m args below meth c A Q ls X TH hC hl
  obtain ⟨hx, hb⟩ := FX_xb X
  have hl : lv_has ls 3 [(0, .ref (g.chip)), (1, .int v1), (2, .int v2)] := hl
  refine lv_iload_n (pc := 0) hx hb d_C_set_0 rfl (lv_at hl 1 rfl) ?_
  refine lv_if_lt (pc := 1) (tgt := 9) hx hb d_C_set_1 (by decide) (fun h1 => ?_) (fun h1 => ?_)
  · exact TH (pc := 9) hl.1 d_C_set_9 d_C_set_12 d_C_set_13 d_C_set_16
  refine lv_iload_n (pc := 4) hx hb d_C_set_4 rfl (lv_at hl 1 rfl) ?_
  refine lv_iconst (pc := 5) (v := 5) hx hb d_C_set_5 (by decide) ?_
  refine lv_icmp_le (pc := 6) (tgt := 17) hx hb d_C_set_6 (by decide) (fun h2 => absurd h2 (h.resolve_left h1)) (fun h2 => ?_)
  exact TH (pc := 9) hl.1 d_C_set_9 d_C_set_12 d_C_set_13 d_C_set_16
theorem kt_C_set2 (hfl : l.flags = pinnedFlags ++ [noTraceFlag]) (hq1 : ¬ v1 < 0) (hq2 : v1 ≤ 5) (hq3 : ¬ st.2.1 = (0 : Fin 35)) : KT l g nmS2 y_C_set (Cond.code y_C_set c_C_set 3 none :: ALL) rmX [.ref (g.chip), .int v1, .int v2] (wC g rt o st) := by
  refine KT.ofW (ik := 98) (ic := 100) hfl rfl (Nat.le_of_ble_eq_true rfl) (by decide +kernel) wx_kS wx_nS wx_zS own_S gd_S ?_
  intro p e s m args below meth c A Q ls X TH hC hl
  obtain ⟨hx, hb⟩ := FX_xb X
  have hl : lv_has ls 3 [(0, .ref (g.chip)), (1, .int v1), (2, .int v2)] := hl
  refine lv_iload_n (pc := 0) hx hb d_C_set_0 rfl (lv_at hl 1 rfl) ?_
  refine lv_if_lt (pc := 1) (tgt := 9) hx hb d_C_set_1 (by decide) (fun h1 => absurd h1 hq1) (fun h1 => ?_)
  refine lv_iload_n (pc := 4) hx hb d_C_set_4 rfl (lv_at hl 1 rfl) ?_
  refine lv_iconst (pc := 5) (v := 5) hx hb d_C_set_5 (by decide) ?_
  refine lv_icmp_le (pc := 6) (tgt := 17) hx hb d_C_set_6 (by decide) (fun h2 => ?_) (fun h2 => absurd hq2 h2)
  refine lv_aload_n (pc := 17) hx hb d_C_set_17 rfl (lv_at hl 0 rfl) ?_
  refine GC_step (pc := 18) X hC d_C_set_18 ?_
  refine SC_stp_FETCH (pc := 21) X hC d_C_set_21 ?_
  refine acS_eq (pc := 24) (tgt := 35) (i := st.2.1) (j := (0 : Fin 35)) X d_C_set_24 (by decide) (fun h3 => absurd h3 hq3) (fun h3 => ?_)
  exact TH (pc := 27) hl.1 d_C_set_27 d_C_set_30 d_C_set_31 d_C_set_34
end TC

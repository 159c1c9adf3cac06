/-! what holds at the start: classes, arrays' classes, nest words -/
theorem start_K {args : Array Value} {s : State} (ht : ∀ w ∈ ALL, w.before args s = true) : ∃ (D : va_G) (ty : Nat → ClassId), va_K D CL [(ty 0, .int), (ty 1, .boolean), (ty 2, .long)] s := by
  obtain ⟨cC, j0, k0⟩ := u_known (n := 13) ht in_C (ht _ wn_C)
  obtain ⟨cR, j1, k1⟩ := u_known (n := 6) ht in_R (ht _ wn_R)
  obtain ⟨cM, j2, k2⟩ := u_known (n := 29) ht in_M (ht _ wn_M)
  obtain ⟨aI, kI, pI, i1, i2, i3⟩ := Cond.arrayClass_spec (ht _ wa_int)
  obtain ⟨aZ, kZ, pZ, z1, z2, z3⟩ := Cond.arrayClass_spec (ht _ wa_boolean)
  obtain ⟨aL, kL, pL, l1, l2, l3⟩ := Cond.arrayClass_spec (ht _ wa_long)
  refine ⟨(fun k => match k with
    | 0 => cC
    | 1 => cR
    | _ => cM, fun k => match k with
    | 0 => j0
    | 1 => j1
    | _ => j2), fun k => match k with
    | 0 => aI
    | 1 => aZ
    | _ => aL, fun k q hk => ?_, fun k q hk => ?_⟩
  · rcases k with _ | _ | _ | k
    · cases hk; exact k0
    · cases hk; exact k1
    · cases hk; exact k2
    · simp at hk
  · rcases k with _ | _ | _ | k
    · cases hk; exact ⟨fun n z => ⟨fun k h => (by cases h), kI, i2, pI, i3⟩, i1⟩
    · cases hk; exact ⟨fun n z => ⟨fun k h => (by cases h), kZ, z2, pZ, z3⟩, z1⟩
    · cases hk; exact ⟨fun n z => ⟨fun k h => (by cases h), kL, l2, pL, l3⟩, l1⟩
    · simp at hk
theorem start_NW {args : Array Value} {s : State} (ht : ∀ w ∈ tables_1, w.before args s = true) : NW s := fun w hw hn => by
  have q := ht w hw
  cases w <;> first | exact va_Nw.of rfl q | cases hn
abbrev GV : List Cond := flatC (Jvm.Cond.and given_1 narrow_1)
abbrev tmS (i : Nat) : Term := .static "ClockedChip$Step" (nmS.getD i "") "LClockedChip$Step;"
abbrev tmK (i : Nat) : Term := .static "ClockedChip$Kind" (nmK.getD i "") "LClockedChip$Kind;"
abbrev tmA : Term := .static "ClockedChip$1" "$SwitchMap$ClockedChip$Step" "[I"
abbrev tmB : Term := .static "ClockedChip$1" "$SwitchMap$ClockedChip$Kind" "[I"
set_option maxRecDepth 100000 in
theorem gS_l : ∀ i, i < 35 → Cond.laysStatic "ClockedChip$Step" (nmS.getD i "") "LClockedChip$Step;" ∈ tables_1 := by decide +kernel
set_option maxRecDepth 100000 in
theorem gK_l : ∀ i, i < 16 → Cond.laysStatic "ClockedChip$Kind" (nmK.getD i "") "LClockedChip$Kind;" ∈ tables_1 := by decide +kernel
set_option maxRecDepth 100000 in
theorem gS_x : ∀ i, i < 35 → Cond.exactly (tmS i) "ClockedChip$Step" ∈ GV := by decide +kernel
set_option maxRecDepth 100000 in
theorem gK_x : ∀ i, i < 16 → Cond.exactly (tmK i) "ClockedChip$Kind" ∈ GV := by decide +kernel
set_option maxRecDepth 100000 in
theorem gS_f : ∀ q ∈ FS, ∀ i, i < 35 → Cond.eq (.field (tmS i) q.1 q.2.1 q.2.2.1) (.int (q.2.2.2.getD i 0)) ∈ GV := by decide +kernel
set_option maxRecDepth 100000 in
theorem gK_f : ∀ q ∈ FK, ∀ i, i < 16 → Cond.eq (.field (tmK i) q.1 q.2.1 q.2.2.1) (.int (q.2.2.2.getD i 0)) ∈ GV := by decide +kernel
set_option maxRecDepth 100000 in
theorem gA_e : ∀ j, j < 35 → Cond.eq (.elem tmA (.int (Int32.ofNat j))) (.int (swLS.getD j 0)) ∈ GV := by decide +kernel
set_option maxRecDepth 100000 in
theorem gB_e : ∀ j, j < 16 → Cond.eq (.elem tmB (.int (Int32.ofNat j))) (.int (swLK.getD j 0)) ∈ GV := by decide +kernel
set_option maxRecDepth 100000 in
theorem gA_a : Cond.arrayOf tmA .int ∈ GV ∧ Cond.arrayOf tmB .int ∈ GV ∧ Cond.eq (.length tmA) (.int 35) ∈ GV ∧ Cond.eq (.length tmB) (.int 16) ∈ GV ∧ wNC ∈ GV ∧ Cond.isRef (.static "java/lang/Throwable" "UNASSIGNED_STACK" "[Ljava/lang/StackTraceElement;") ∈ GV ∧ Cond.isRef (.static "java/lang/Throwable" "SUPPRESSED_SENTINEL" "Ljava/util/List;") ∈ GV := by decide +kernel
set_option maxRecDepth 100000 in
theorem gA_l : Cond.laysStatic "ClockedChip$1" "$SwitchMap$ClockedChip$Step" "[I" ∈ tables_1 ∧ Cond.laysStatic "ClockedChip$1" "$SwitchMap$ClockedChip$Kind" "[I" ∈ tables_1 ∧ Cond.laysStatic "java/lang/Throwable" "UNASSIGNED_STACK" "[Ljava/lang/StackTraceElement;" ∈ tables_1 ∧ Cond.laysStatic "java/lang/Throwable" "SUPPRESSED_SENTINEL" "Ljava/util/List;" ∈ tables_1 ∧ Cond.initialized "ClockedChip$1" ∈ tables_1 ∧ Cond.initialized "ClockedChip$Step" ∈ tables_1 ∧ Cond.initialized "ClockedChip$Kind" ∈ tables_1 := by decide +kernel
theorem ord_ne {args : Array Value} {s : State} {t u : Term} {E C n d : String} {x y : Int32} (hxt : (Cond.exactly t E).before args s = true) (hxu : (Cond.exactly u E).before args s = true) (ht : (Cond.eq (.field t C n d) (.int x)).before args s = true) (hu : (Cond.eq (.field u C n d) (.int y)).before args s = true) (hne : x ≠ y) : (Cond.not (.eq t u)).before args s = true := by
  obtain ⟨a, c, cell, k, q1, -⟩ := Cond.exactly_spec hxt
  obtain ⟨a', c', cell', k', q1', -⟩ := Cond.exactly_spec hxu
  have e1 := va_eqt ht
  have e2 := va_eqt hu
  rw [va_fe q1] at e1
  rw [va_fe q1'] at e2
  have hna : a ≠ a' := fun h => by
    subst h
    rw [e1] at e2
    injection e2 with e3
    injection e3 with e4
    exact hne e4
  refine Cond.holds_not_iff.mpr ?_
  simp [Cond.value, q1, q1', hna]
theorem oLS_inj : ∀ i, i < 35 → ∀ j, j < 35 → i ≠ j → oLS.getD i 0 ≠ oLS.getD j 0 := by decide +kernel
theorem oLK_inj : ∀ i, i < 16 → ∀ j, j < 16 → i ≠ j → oLK.getD i 0 ≠ oLK.getD j 0 := by decide +kernel
theorem start_G {b : Nat} {s : State} (ht : ∀ w ∈ ALL, w.before #[Value.ref b] s = true) (ht1 : ∀ w ∈ tables_1, w.before #[Value.ref b] s = true) (hgv : (Jvm.Cond.and given_1 narrow_1).before #[Value.ref b] s = true) :
    ∃ g : CG, va_K g.1 CL (tysG g) s ∧ ENV g (fun q => s.heap.size ≤ q) s s.heap := by
  have hv : ∀ w ∈ GV, w.before #[Value.ref b] s = true := flat_of_before _ hgv
  have hA : ∀ a : Nat, a < s.heap.size → ¬ s.heap.size ≤ a := fun a h z => absurd z (Nat.not_le.mpr h)
  obtain ⟨D, ty, hK⟩ := start_K ht
  obtain ⟨a1, a2, a3, a4, -, -, -⟩ := gA_a
  obtain ⟨l1, l2, -, -, l5, l6, l7⟩ := gA_l
  obtain ⟨adS, eS⟩ := va_Enof (E := "ClockedChip$Step") (d := "LClockedChip$Step;") (nm := nmS) (F := FS) (A := fun q => s.heap.size ≤ q) (fun i hi => ht1 _ (gS_l i hi)) (ht1 _ l6) (fun i hi => hv _ (gS_x i hi)) (fun q hq i hi => hv _ (gS_f q hq i hi))
    (fun i j hi hj hn => Or.inl (ord_ne (hv _ (gS_x i hi)) (hv _ (gS_x j hj)) (hv _ (gS_f _ List.mem_cons_self i hi)) (hv _ (gS_f _ List.mem_cons_self j hj)) (oLS_inj i hi j hj hn))) hA
  obtain ⟨adK, eK⟩ := va_Enof (E := "ClockedChip$Kind") (d := "LClockedChip$Kind;") (nm := nmK) (F := FK) (A := fun q => s.heap.size ≤ q) (fun i hi => ht1 _ (gK_l i hi)) (ht1 _ l7) (fun i hi => hv _ (gK_x i hi)) (fun q hq i hi => hv _ (gK_f q hq i hi))
    (fun i j hi hj hn => Or.inl (ord_ne (hv _ (gK_x i hi)) (hv _ (gK_x j hj)) (hv _ (gK_f _ List.mem_cons_self i hi)) (hv _ (gK_f _ List.mem_cons_self j hj)) (oLK_inj i hi j hj hn))) hA
  obtain ⟨tA, vA, hTA⟩ := va_Tof (A := fun q => s.heap.size ≤ q) (N := 35) (f := fun j => .int (swLS.getD j 0)) (by decide) (hv _ a1) (va_eqt (hv _ a3)) (fun j hj => va_eqt (hv _ (gA_e j hj))) hA
  obtain ⟨tB, vB, hTB⟩ := va_Tof (A := fun q => s.heap.size ≤ q) (N := 16) (f := fun j => .int (swLK.getD j 0)) (by decide) (hv _ a2) (va_eqt (hv _ a4)) (fun j hj => va_eqt (hv _ (gB_e j hj))) hA
  exact ⟨(D, fun k => match k with
    | 7 => tA
    | _ => tB, ty, adS, adK), hK, eS, eK, va_Zref (ht1 _ l1) (ht1 _ l5) vA hA, va_Zref (ht1 _ l2) (ht1 _ l5) vB hA, hTA, hTB, start_NW ht1⟩
theorem start_U {b : Nat} {s : State} (ht1 : ∀ w ∈ tables_1, w.before #[Value.ref b] s = true) (hgv : (Jvm.Cond.and given_1 narrow_1).before #[Value.ref b] s = true) : (∀ w ∈ stU, w.before #[Value.ref b] s = true) ∧ wNC.before #[Value.ref b] s = true := by
  have hv : ∀ w ∈ GV, w.before #[Value.ref b] s = true := flat_of_before _ hgv
  obtain ⟨-, -, -, -, a5, a6, a7⟩ := gA_a
  obtain ⟨-, -, l3, l4, -, -, -⟩ := gA_l
  refine ⟨fun w hw => ?_, hv _ a5⟩
  rcases List.mem_cons.mp hw with rfl | hw
  · exact hv _ a6
  rcases List.mem_cons.mp hw with rfl | hw
  · exact hv _ a7
  rcases List.mem_cons.mp hw with rfl | hw
  · exact ht1 _ l3
  rcases List.mem_cons.mp hw with rfl | hw
  · exact ht1 _ l4
  cases hw

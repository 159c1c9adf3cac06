/-! a handler whose class may still be open: the search resolves it -/
section FH
variable {e : Env} {s : State} {f : JFrame} {a : Addr}
theorem fh_row {Q : Handler → Pre} {E : CtlPost} {d : Bool} {acts : List Action} {x : ExceptionTableEntry} {t : List ExceptionTableEntry} {c : ClassId} {cell : Cell} (hx : covers x f.pc = true) (h0 : x.catchType ≠ 0) (hl : s.vm.ClassLinks e.platform f.method.cls x.catchType c) (hcell : s.heap[a]? = some cell) (hobj : ∀ k, cell.vm ≠ .statics k) (hk : ∃ k, s.vm.classes[cell.cls]? = some k) :
    wp (findHandler.go f a (x :: t)) Q E e d acts s ↔ if s.vm.assignable cell.cls c = true then Q (.found x.handlerPc) d acts (s.setVm (s.vm.noted f.method.cls x.catchType (.cls c))) else wp (findHandler.go f a t) Q E e d acts (s.setVm (s.vm.noted f.method.cls x.catchType (.cls c))) := by
  simp only [covers] at hx
  obtain ⟨ha, ht⟩ := (resolveClass_links e.toSetting hl).op (op := VmOp.resolveClass f.method.cls x.catchType) rfl
  have hal : s.vm.Alike (s.vm.noted f.method.cls x.catchType (.cls c)) := (Vm.Alike.refl s.vm).noted _ _ _
  obtain ⟨_, _, _, kt, _, _, _, _, _, hkt, _, _⟩ := hl.here
  obtain ⟨k1, hk1⟩ := hk
  obtain ⟨k1', hk1', -⟩ := hal.2.2 _ _ hk1
  obtain ⟨k2', hk2', -⟩ := hal.2.2 _ _ hkt
  have hE : (s.vm.noted f.method.cls x.catchType (.cls c)).assignable cell.cls c = s.vm.assignable cell.cls c := by rw [hal.assignable]
  cases hfit : s.vm.assignable cell.cls c <;> (rw [hfit] at hE; simp [findHandler.go, hx, h0, ha, ht, hcell, hobj, hk1', hk2', hE, VmOp.dirties, VmOp.acts])
/-- the search ends so, and leaves these tables -/
def FT (e : Env) (s : State) (f : JFrame) (a : Addr) (h : Handler) (vm' : Vm) : Prop :=
  ∀ (Q : Handler → Pre) (E : CtlPost) (d : Bool) (acts : List Action), wp (findHandler f a) Q E e d acts s ↔ Q h d acts (s.setVm vm')
theorem th_catch {r : List Frame} {pc : Nat} {vm' : Vm} (hfind : FT e s f a (.found pc) vm') : (stepThrowing e s a (.java f :: r)).Is ((s.setVm vm').setFrames (.java { f with pc := pc, stack := [.ref a] } :: r)) [] := by
  simp only [stepThrowing, searchFrame, vmDo]
  generalize hr : Sem.go _ e false [] s = res
  obtain ⟨as, rfl, ha⟩ := Sem.eq_ok_of hr (a := Handler.found pc) (s' := s.setVm vm') (acts' := []) (by simp [hfind _ _ _ _])
  exact ⟨rfl, ha⟩
theorem sF3 (u : State) (v : Vm) (F G : List Frame) : ((u.setFrames F).setVm v).setFrames G = (u.setVm v).setFrames G := by
  have h1 : (u.setFrames F).setVm v = (u.setVm v).setFrames F := rfl
  rw [h1, State.setFrames_setFrames]
theorem st_catch {tb : Tables} {target : State} {c : Code} {below : List Frame} (h : At s f.method c below) {pc : Nat} {vm' : Vm} (hfind : FT e ((s.setTop f).pushFrame (.throwing a)) f a (.found pc) vm')
    (hrest : Steps tb e below ((s.setVm vm').setTop { f with pc := pc, stack := [.ref a] }) target) : Steps tb e below ((s.setTop f).pushFrame (.throwing a)) target := by
  obtain ⟨hgo, hw⟩ := h.throwing a
  refine Steps.head hgo hw ?_
  rw [stepThread_throwing (frames_entered h.top _), (th_catch (s := (s.setTop f).pushFrame (.throwing a)) hfind).1]
  obtain ⟨g₀, hg⟩ := Option.isSome_iff_exists.mp h.top
  obtain ⟨r, hr⟩ := State.topJava?_eq_some.mp hg
  have hr' : (s.setVm vm').frames = .java g₀ :: r := hr
  rw [State.setTop_of_frames _ hr'] at hrest
  rw [hr, List.tail_cons, State.pushFrame, sF3, State.setTop_of_frames _ hr, sF3]
  exact hrest
end FH
section CX
variable {p : Program} {l : Launch} {e : Env} {R : Room} {s : State} {m : MethodId} {args : Array Value} {below : List Frame} {meth : Method} {c : Code} {H : Heap} {locs : List Loc} {cells slots : Nat} {Q : State → Prop}
/-- the frame gf catches what is of the class X, at hpc -/
def CT (p : Program) (l : Launch) (e : Env) (R : Room) (s : State) (m : MethodId) (args : Array Value) (below : List Frame) (meth : Method) (c : Code) (X : String) (gf : JFrame) (hpc : Nat) : Prop :=
  ∀ (T : State) (locs : List Loc) (cells slots : Nat) (a : Nat) (cell : Cell), Stand p l e R s m args below meth c T locs cells slots → T.heap[a]? = some cell → cell.vm.isStatics = false → s.vm.findClass X = some cell.cls → ∃ vm' : Vm, s.WarmedH vm' ∧ FT e ((T.setTop gf).pushFrame (.throwing a)) gf a (.found hpc) vm'
abbrev exRow (x : ExceptionTableEntry) : Nat × Nat × Nat × Nat := (x.startPc, x.endPc, x.handlerPc, x.catchType)
theorem cat_1 {own X Y : String} {gf : JFrame} {s0 e0 hpc ct : Nat} {hs : List (Nat × Nat × Nat × Nat)} (hown : s.vm.findClass own = some m.cls) (hex : c.exceptionTable.toList.map exRow = (s0, e0, hpc, ct) :: hs) (hg : gf.method = m) (hcov : (decide (s0 ≤ gf.pc) && decide (gf.pc < e0)) = true) (h0 : ct ≠ 0)
    (hlink : (Cond.classLink own ct Y).before args s = true) (hcast : (Cond.castable X Y).before args s = true) : CT p l e R s m args below meth c X gf hpc := by
  intro T locs cells slots a cell XT hcell hobj hfc
  have hpl : e.platform.magicAccessors = ({} : Platform).magicAccessors := by rw [XT.admits.platform]
  obtain ⟨cT, hcT, hcl⟩ := Cond.classLink_spec hown hlink e.platform hpl
  obtain ⟨c3, c4, hc3, hc4, hasg⟩ := Cond.castable_spec hcast
  cases hc3.symm.trans hfc
  cases hc4.symm.trans hcT
  obtain ⟨dk, _, _, kt, hd, _, _, _, _, hkt, _, hopen⟩ := hcl.here
  have hW' : s.WarmedH (T.vm.noted m.cls ct (.cls cT)) := XT.warmed.noted hd hopen (State.rightAt_cls hcl)
  have hfit : T.vm.assignable cell.cls cT = true := by rw [XT.warmed.alike.assignable]; exact hasg
  obtain ⟨kt', hkt', -⟩ := XT.warmed.alike.2.2 _ _ hkt
  have hk := Vm.classAt_of_assignable hfit ⟨kt', hkt'⟩
  subst hg
  cases hL : c.exceptionTable.toList with
  | nil => rw [hL] at hex; cases hex
  | cons x rest =>
    rw [hL, List.map_cons] at hex
    injection hex with hx1 hx2
    injection hx1 with a1 hx1
    injection hx1 with a2 hx1
    injection hx1 with a3 a4
    subst a1; subst a2; subst a3; subst a4
    refine ⟨_, hW', fun Q E d acts => ?_⟩
    rw [W.findHandler_eq (s := (T.setTop gf).pushFrame (.throwing a)) (meth := meth) (code := c) XT.method' XT.code, hL]
    refine (fh_row (s := (T.setTop gf).pushFrame (.throwing a)) (cell := cell) hcov h0 (XT.warmed.classLinks hcl) hcell (VmData.ne_statics_of hobj) hk).trans ?_
    exact iff_of_eq (if_pos hfit)
theorem cat_2 {own X Y Z : String} {gf : JFrame} {s0 e0 h1 ct s1 e1 hpc cu : Nat} {hs : List (Nat × Nat × Nat × Nat)} (hown : s.vm.findClass own = some m.cls) (hex : c.exceptionTable.toList.map exRow = (s0, e0, h1, ct) :: (s1, e1, hpc, cu) :: hs) (hg : gf.method = m) (hcov : (decide (s0 ≤ gf.pc) && decide (gf.pc < e0)) = true) (h0 : ct ≠ 0)
    (hcov' : (decide (s1 ≤ gf.pc) && decide (gf.pc < e1)) = true) (h0' : cu ≠ 0) (hlink : (Cond.classLink own ct Z).before args s = true) (hlink' : (Cond.classLink own cu Y).before args s = true) (hno : (Cond.not (.castable X Z)).before args s = true) (hcast : (Cond.castable X Y).before args s = true) : CT p l e R s m args below meth c X gf hpc := by
  intro T locs cells slots a cell XT hcell hobj hfc
  have hpl : e.platform.magicAccessors = ({} : Platform).magicAccessors := by rw [XT.admits.platform]
  obtain ⟨cT, hcT, hcl⟩ := Cond.classLink_spec hown hlink e.platform hpl
  obtain ⟨cU, hcU, hcl'⟩ := Cond.classLink_spec hown hlink' e.platform hpl
  obtain ⟨c3, c4, hc3, hc4, hasg⟩ := Cond.castable_spec hcast
  cases hc3.symm.trans hfc
  cases hc4.symm.trans hcU
  have hv := Cond.holds_not_iff.mp hno
  simp only [Cond.value, hfc, hcT] at hv
  have hnot : s.vm.assignable cell.cls cT = false := Option.some.inj hv
  obtain ⟨dk, _, _, kt, hd, _, _, _, _, hkt, _, hopen⟩ := hcl.here
  obtain ⟨dk', _, _, ku, hd', _, _, _, _, hku, _, hopen'⟩ := hcl'.here
  have hW1 : s.WarmedH (T.vm.noted m.cls ct (.cls cT)) := XT.warmed.noted hd hopen (State.rightAt_cls hcl)
  have hW2 : s.WarmedH ((T.vm.noted m.cls ct (.cls cT)).noted m.cls cu (.cls cU)) := hW1.noted hd' hopen' (State.rightAt_cls hcl')
  have hfit0 : T.vm.assignable cell.cls cT = false := by rw [XT.warmed.alike.assignable]; exact hnot
  have hfit : (T.vm.noted m.cls ct (.cls cT)).assignable cell.cls cU = true := by rw [hW1.alike.assignable]; exact hasg
  obtain ⟨k0, hk0⟩ := Vm.classAt_of_assignable hasg ⟨ku, hku⟩
  obtain ⟨k1, hk1, -⟩ := XT.warmed.alike.2.2 _ _ hk0
  obtain ⟨k2, hk2, -⟩ := hW1.alike.2.2 _ _ hk0
  subst hg
  cases hL : c.exceptionTable.toList with
  | nil => rw [hL] at hex; cases hex
  | cons x rest =>
    cases rest with
    | nil => rw [hL] at hex; injection hex with _ q; cases q
    | cons y rest =>
      rw [hL, List.map_cons, List.map_cons] at hex
      injection hex with hx1 hx2
      injection hx2 with hy1 hy2
      injection hx1 with a1 hx1
      injection hx1 with a2 hx1
      injection hx1 with a3 a4
      injection hy1 with b1 hy1
      injection hy1 with b2 hy1
      injection hy1 with b3 b4
      subst a1; subst a2; subst a3; subst a4; subst b1; subst b2; subst b3; subst b4
      refine ⟨_, hW2, fun Q E d acts => ?_⟩
      rw [W.findHandler_eq (s := (T.setTop gf).pushFrame (.throwing a)) (meth := meth) (code := c) XT.method' XT.code, hL]
      refine (fh_row (s := (T.setTop gf).pushFrame (.throwing a)) (cell := cell) hcov h0 (XT.warmed.classLinks hcl) hcell (VmData.ne_statics_of hobj) ⟨k1, hk1⟩).trans ?_
      rw [if_neg (show ¬ _ from fun z => by rw [show ((T.setTop gf).pushFrame (.throwing a)).vm.assignable cell.cls cT = T.vm.assignable cell.cls cT from rfl, hfit0] at z; cases z)]
      refine (fh_row (s := ((T.setTop gf).pushFrame (.throwing a)).setVm (T.vm.noted gf.method.cls x.catchType (.cls cT))) (cell := cell) hcov' h0' (hW1.classLinks hcl') hcell (VmData.ne_statics_of hobj) ⟨k2, hk2⟩).trans ?_
      exact iff_of_eq (if_pos hfit)
/-- a callee throws: the walk goes on with the note laid -/
theorem thrown_at {y : MethodName} {ws : List Cond} {rm : Room} {P : Array Value → State → Prop} {QQ : Array Value → State → Outcome → State → Prop} {bytes : ByteArray} {maxL : Nat} {ret : Option FieldType} {U : State} (X : Stand p l e R s m args below meth c U locs cells slots) {g : JFrame} (hg : g.method = m) (hsize : g.locals.size = c.maxLocals) {ig : Instr} {len : Nat} (hdg : decode c.code g.pc = .ok (ig, len)) {mk : MethodId} {a : Array Value} (hn : U.methodNamed? y = some mk)
    (hM : MetFree l y (headSpec ws rm) P (fun _ _ _ _ _ => True) QQ) (hQ : ∀ st o t, QQ a st o t → ∃ x : Nat, o = .threw x ∧ st.WarmedH t.vm ∧ st.sameButNew ({ t with vm := st.vm } : State) [] 1 6)
    (h1 : (headSpec ws rm).pre.before a U = true) (h2 : (Cond.code y bytes maxL ret).before a U = true) (h3 : (Cond.initialized y.cls).before a U = true) (h4 : cells + rm.cells ≤ R.cells) (h5 : slots + rm.slots ≤ R.slots) (hframes : rm.frames + 1 ≤ R.frames) (hlocals : 2 * g.monitorRoom + (g.stack.map fun v => v.category).sum + (maxL + 11) + rm.locals ≤ R.locals) (hP : P a (U.calling g mk a)) :
    ∃ (x : Nat) (t T' : State), QQ a (U.calling g mk a) (.threw x) t ∧ T'.heap = t.heap ∧ T'.vm = t.vm ∧ Stand p l e R s m args below meth c T' (locs ++ []) (cells + 1) (slots + 6) ∧ ∀ acts, Steps p.tables e below (doInvoke e (U.setTop g) acts mk a).1 ((T'.setTop g).pushFrame (.throwing x)) := by
  obtain ⟨methY, cY, hmY, hcY, -, hlY, -, -, -, -⟩ := Cond.code_spec hn h2
  obtain ⟨kY, hkY, -⟩ := className_of_methodNamed hn
  have hinitY : kY.init = .initialized := Cond.initialized_spec (findClass_of_methodNamed hn) hkY h3
  have h : At U g.method c below := by rw [hg]; exact X.here
  have happ : (headSpec ws rm).appliesLoose y e.platform (U.calling g mk a) = true :=
    Spec.appliesLoose_calling (g := g) h hdg hn hkY hinitY (X.room_calling (g := g) (R' := (headSpec ws rm).room) hsize hmY hcY hframes (by rw [hlY]; exact hlocals) h4 h5) h1
  obtain ⟨mid, hmid⟩ := h.above
  have hfr : (U.setTop g).frames = (.java g :: mid) ++ below := by rw [State.frames_setTop' g h.top, hmid]; rfl
  obtain ⟨o, s₂, hsteps, -, hend, hq⟩ := Steps.callFree hM p X.admits X.cas X.clock (acts := []) hfr happ hP trivial
  have hq' : QQ a (U.calling g mk a) o s₂ := hq
  rw [State.frames_setTop' g h.top] at hend
  obtain ⟨x, rfl, hW₂, e2, q2, q3, q4, q5, q6⟩ := hQ _ _ _ hq'
  have e3 : s₂ = ({ (U.calling g mk a).setFrames s₂.frames with heap := s₂.heap, slotsUsed := s₂.slotsUsed } : State).setVm s₂.vm := by
    have e9 : s₂ = ({ s₂ with vm := (U.calling g mk a).vm } : State).setVm s₂.vm := rfl
    rw [e2] at e9
    exact e9
  have hf₂ : s₂.frames = .throwing x :: .java g :: U.frames.tail := hend
  have hW' : U.WarmedH s₂.vm := hW₂
  obtain ⟨g₀, hg0⟩ := Option.isSome_iff_exists.mp h.top
  obtain ⟨r, hr⟩ := State.topJava?_eq_some.mp hg0
  have hs₂ : s₂ = ((({ U with heap := s₂.heap, slotsUsed := s₂.slotsUsed } : State).setVm s₂.vm).setTop g).pushFrame (.throwing x) := by
    have hr' : (({ U with heap := s₂.heap, slotsUsed := s₂.slotsUsed } : State).setVm s₂.vm).frames = .java g₀ :: r := hr
    refine e3.trans ?_
    rw [hf₂, State.calling_eq h.top, State.setFrames_setFrames, State.pushFrame, State.frames_setTop _ hr', State.setTop_of_frames _ hr', State.setFrames_setFrames, hr]
    rfl
  have hsame : U.sameButNew ({ U with heap := s₂.heap, slotsUsed := s₂.slotsUsed } : State) [] 1 6 := by
    refine ⟨?_, q2, q3, q4, q5, q6⟩
    obtain ⟨t, ht, -⟩ := State.frames_cons hr
    show ({ U with heap := s₂.heap, slotsUsed := s₂.slotsUsed } : State) = { U.setFrames U.frames with heap := s₂.heap, slotsUsed := s₂.slotsUsed }
    rw [State.setFrames_self ht]
  subst hg
  refine ⟨x, s₂, ({ U with heap := s₂.heap, slotsUsed := s₂.slotsUsed } : State).setVm s₂.vm, hq', rfl, rfl, ⟨X.admits, X.cas, X.clock, X.frames, X.room, X.hears, X.method, X.code, (X.here.setHeapUsed s₂.heap s₂.slotsUsed).setVm hW'.alike, X.tail, State.WarmedH.trans X.warmed hW', X.limits, X.bytes, X.same.trans (hsame.setVm s.vm)⟩, fun acts => ?_⟩
  rw [← hs₂, doInvoke_state]
  exact hsteps
variable {cc bytes : ByteArray} {pc nL maxL index : Nat} {ls : Array Slot} {rest st0 : List Value} {own : String} {g : CG} {A : Nat → Prop} {y : MethodName} {ret : Option FieldType} {As : List Value} {b q0 ci : Nat} {fs : List Value} {q : vw_C} {w : va_W}
/-- a method of an object that throws, called where it is caught -/
theorem callTO {X : String} {hpc : Nat} (FXc : FX p m c cc nL s args own g A) (tw : TW A s s.heap) (hM : KT l g X y (Cond.code y bytes maxL ret :: ALL) rmX (.ref b :: As) w) (hC : HC g A s w H locs)
    (cn : CallW R s args own y.cls index y bytes maxL ret (Cond.code y bytes maxL ret :: ALL) rmX 1 6 As.length) (he : w[q0]? = some (b, .inr (ci, fs))) (hc : CL[ci]? = some q) (hq : q.1 = y.cls) (hsize : ls.size = nL) (hroom : (rest.map fun v => v.category).sum ≤ 8) (hst : st0 = As.reverse ++ .ref b :: rest) (hdg : decode cc pc = .ok (.invokevirtual index, 3)) (hf : cells + 1 ≤ R.cells ∧ slots + 6 ≤ R.slots)
    (hct : CT p l e R s m args below meth c X (F0 m pc ls rest) hpc)
    (kk : ∀ (x : Nat) (H1 : Heap) (locs1 : List Loc), HC g A s w H1 locs1 → W p l e R s m args below meth c H1 locs1 (cells + 1) (slots + 6) Q (F0 m hpc ls [.ref x])) : W p l e R s m args below meth c H locs cells slots Q (F0 m pc ls st0) := by
  intro T hT XT
  have hrec := va_recv FXc.2.1 hC.1 hc he
  rw [hq] at hrec
  obtain ⟨cellB, hcB, hoB, hclB⟩ := hrec
  obtain ⟨⟨hrc, hrs, hfr, hlo, hws, hcw, hcode, hini, hy, hlen, hl⟩, hin, hse⟩ := cn
  obtain ⟨⟨hx, hb, hml, hown, -⟩, hK, hE, hA⟩ := id FXc
  obtain ⟨mk, methM, hnamed, hmethM, hstM, habM⟩ := Cond.instanceMethod_spec hin
  obtain ⟨methM', cM, hmethM', -, -, -, -, -, -, hsigM⟩ := Cond.code_spec hnamed hcode
  cases hmethM.symm.trans hmethM'
  obtain ⟨c2, r2, m2, q1, q2, q3, q4, kP, hkP, hkPi⟩ := Cond.selects_spec hse
  cases hclB.symm.trans q1
  cases (State.methodFound?_of_named hnamed hy).symm.trans q2
  cases hnamed.symm.trans q3
  have hselP : selectMethod e.platform s.vm cellB.cls mk = .method mk := by rw [Launch.admits_selectMethod XT.admits]; exact q4
  obtain ⟨vm₁, X₁, hstep₁⟩ := XT.invokevirtual hx hown hl hnamed hmethM hstM hkP hkPi hy (a := b) (cell := cellB) (by rw [hT]; exact hcB) (fun z h => by rw [h] at hoB; cases hoB) hselP hmethM habM hkP hkPi (g := F0 m pc ls st0) rfl (argsL := As) (rest := rest) (hlen _ hsigM) hst (by rw [hb]; exact hdg)
  have hpre := (HC_pre (Wd := fun _ : Unit => w) (st := ()) FXc hC (.ref b :: As)).2 (T.setVm vm₁) hT X₁.warmed
  have htw : TW (va_A w H.size) (T.setVm vm₁) H := ((tw.kept hC.2.2.2.1).moved X₁.warmed.alike).narrow (ck_fr hC.2.1 hC.2.2 hA)
  obtain ⟨x, t, T', ⟨x', hx', hXC, hB, hF, -, -⟩, e1, e2, X2, hsteps⟩ := thrown_at X₁ (g := F0 m pc ls rest) (a := (.ref b :: As).toArray) rfl (hsize.trans hml.symm) (by rw [hb]; exact hdg) (X₁.named hnamed) (hM H.size) (fun st o t h => by obtain ⟨x, r1, -, -, -, r2, r3⟩ := h; exact ⟨x, r1, r2, r3⟩) (atoms_intro fun w hw => hws w hw _ _ X₁.warmed) (hws _ hcw _ _ X₁.warmed) (word_at X₁.warmed (Or.inl (by first | rfl | simp [Cond.onTables, Cond.keeps, Cond.steady])) hini) (by rw [hrc]; exact hf.1) (by rw [hrs]; exact hf.2) hfr (Nat.le_trans (Nat.add_le_add_right (Nat.add_le_add_right (lv_room hroom) _) _) hlo) (preT_blind _ _ _ _ ⟨rfl, hpre.2, by rw [show (T.setVm vm₁).heap = H from hT]; exact htw⟩)
  cases hx'
  obtain ⟨hge, ce, c1, c2, c3⟩ := hXC
  have c3' : s.vm.findClass X = some ce.cls := by rw [← X₁.warmed.alike.findClass]; exact c3
  obtain ⟨vm', hW', hFT⟩ := hct T' _ _ _ x ce X2 (by rw [e1]; exact c1) c2 c3'
  have hz := hF.1
  have hk := hF.2
  have hhs : ((T.setVm vm₁).calling (F0 m pc ls rest) mk (.ref b :: As).toArray).heap = H := hT
  rw [hhs] at hz hk
  have hS : va_S A s.heap T'.heap (locs ++ []) := ⟨Nat.le_trans hC.2.2.1 (by rw [e1]; exact hz), fun q h1 h2 => by rw [e1, hk q (Nat.lt_of_lt_of_le h1 hC.2.2.1) (fun z => h2 (ck_fr hC.2.1 hC.2.2 hA q z))]; exact hC.2.2.2.1 q h1 h2, fun q hq => by rw [List.append_nil] at hq; exact hC.2.2.2.2 q hq⟩
  obtain ⟨t2, a1, b1⟩ := kk x T'.heap (locs ++ []) (HC_behind (Wd := fun _ : Unit => w) (st := ()) FXc hC e1.symm hB hS) (T'.setVm vm') rfl (X2.noted hW')
  exact ⟨t2, hstep₁ _ (fun acts => (hsteps acts).trans (st_catch X2.here hFT a1)), b1⟩
end CX

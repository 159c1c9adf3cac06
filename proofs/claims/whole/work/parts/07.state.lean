/-! the state of the class, of the reference, and the world that holds both -/
abbrev CS : Type := (Nat → Int32) × Fin 35 × Fin 16 × (Nat → Int32) × (Nat → Int32)
abbrev MS : Type := (Nat → Int32) × (Nat → Int32)
-- ints of the class: 0 a 1 x 2 y 3 s 4 pc 5 flags 6 nmiWanted 7 operation 8 mode 9 done 10 ended 11 aim 12 target 13 held; then step, kind, memory, pins
def sV (st : CS) (k : Nat) (x : Int32) : CS := (upd st.1 k x, st.2)
def sS (st : CS) (k : Fin 35) : CS := (st.1, k, st.2.2)
def sK (st : CS) (k : Fin 16) : CS := (st.1, st.2.1, k, st.2.2.2)
def sM (st : CS) (i x : Int32) : CS := (st.1, st.2.1, st.2.2.1, upd st.2.2.2.1 (i &&& 1023).toNatClampNeg x, st.2.2.2.2)
def sP (st : CS) (i x : Int32) : CS := (st.1, st.2.1, st.2.2.1, st.2.2.2.1, upd st.2.2.2.2 i.toNatClampNeg (vp_nar .boolean x))
def rM (st : CS) (i : Int32) : Int32 := st.2.2.2.1 (i &&& 1023).toNatClampNeg
def rP (st : CS) (i : Int32) : Int32 := st.2.2.2.2 i.toNatClampNeg
-- ints of the reference: 0 a 1 x 2 y 3 s 4 pc 5 flags 6 nmi 7 irq 8 ready 9 so 10 wanted 11 going 12 done 13 jam 14 operation 15 mode 16 z 17 high 18 low 19 vector 20 change 21 taken 22 halves 23 address 24 writes 25 value 26 ends 27 thrown; then memory
def tV (rt : MS) (k : Nat) (x : Int32) : MS := (upd rt.1 k x, rt.2)
def tM (rt : MS) (i x : Int32) : MS := (rt.1, upd rt.2 (i &&& 1023).toNatClampNeg x)
def uM (rt : MS) (i : Int32) : Int32 := rt.2 (i &&& 1023).toNatClampNeg
-- addresses and class numbers
abbrev CG : Type := va_G × (Nat → Nat) × (Nat → ClassId) × (Nat → Nat) × (Nat → Nat)
abbrev CG.chip (g : CG) : Nat := g.2.1 0
abbrev CG.mem (g : CG) : Nat := g.2.1 1
abbrev CG.pins (g : CG) : Nat := g.2.1 2
abbrev CG.regs (g : CG) : Nat := g.2.1 3
abbrev CG.model (g : CG) : Nat := g.2.1 4
abbrev CG.mmem (g : CG) : Nat := g.2.1 5
abbrev CG.out (g : CG) : Nat := g.2.1 6
abbrev CG.mapS (g : CG) : Nat := g.2.1 7
abbrev CG.mapK (g : CG) : Nat := g.2.1 8
abbrev CG.cI (g : CG) : ClassId := g.2.2.1 0
abbrev CG.cZ (g : CG) : ClassId := g.2.2.1 1
abbrev CG.cL (g : CG) : ClassId := g.2.2.1 2
abbrev CG.adS (g : CG) : Nat → Nat := g.2.2.2.1
abbrev CG.adK (g : CG) : Nat → Nat := g.2.2.2.2
abbrev tysG (g : CG) : List (ClassId × FieldType) := [(g.cI, .int), (g.cZ, .boolean), (g.cL, .long)]
def fsC (g : CG) (st : CS) : List Value := [.ref g.mem, .ref g.pins, .ref g.regs, .int (st.1 6), .ref (g.adS st.2.1.val), .ref (g.adK st.2.2.1.val), .int (st.1 7), .int (st.1 8), .int (st.1 9), .int (st.1 10), .int (st.1 11), .int (st.1 12), .int (st.1 13)]
def fsR (st : CS) : List Value := [.int (st.1 0), .int (st.1 1), .int (st.1 2), .int (st.1 3), .int (st.1 4), .int (st.1 5)]
def fsM (g : CG) (rt : MS) : List Value := [.ref g.mmem, .int (rt.1 0), .int (rt.1 1), .int (rt.1 2), .int (rt.1 3), .int (rt.1 4), .int (rt.1 5), .int (rt.1 6), .int (rt.1 7), .int (rt.1 8), .int (rt.1 9), .int (rt.1 10), .int (rt.1 11), .int (rt.1 12), .int (rt.1 13), .int (rt.1 14), .int (rt.1 15), .int (rt.1 16), .int (rt.1 17), .int (rt.1 18), .int (rt.1 19), .int (rt.1 20), .int (rt.1 21), .int (rt.1 22), .int (rt.1 23), .int (rt.1 24), .int (rt.1 25), .int (rt.1 26), .int (rt.1 27)]
def wC (g : CG) (rt : MS) (o : Nat → Int64) (st : CS) : va_W := [(g.chip, .inr (iC, fsC g st)), (g.mem, .inl (g.cI, 1024, .inl st.2.2.2.1)), (g.pins, .inl (g.cZ, 4, .inl st.2.2.2.2)), (g.regs, .inr (iR, fsR st)), (g.model, .inr (iM, fsM g rt)), (g.mmem, .inl (g.cI, 1024, .inl rt.2)), (g.out, .inl (g.cL, 1, .inr (.inl o)))]
def wM (g : CG) (st : CS) (o : Nat → Int64) (rt : MS) : va_W := wC g rt o st
-- constants: the two enums, the two switch maps
def nmS : List String := ["FETCH", "IMMEDIATE", "ZERO_BYTE", "ZERO_IDLE", "POINTER_LOW", "POINTER_PAGE", "FAR_LOW", "FAR_PAGE", "HALF_IDLE", "OPERAND", "STORE", "CHANGE_READ", "CHANGE_SAME", "CHANGE_NEW", "BRANCH_DISTANCE", "BRANCH_IDLE", "BRANCH_OTHER_PAGE", "BREAK_NEXT", "PC_IDLE", "STACK_IDLE", "PUSH_REGISTER", "PUSH_PAGE", "PUSH_LOW", "PUSH_P", "PULL_BYTE", "PULL_LOW", "PULL_PAGE", "RETURN_IDLE", "INTERRUPT_IDLE", "VECTOR_LOW", "VECTOR_PAGE", "RESET_IDLE", "RESET_STACK", "RESET_LOW", "JAMMED"]
def nmK : List String := ["READ", "STORE", "CHANGE", "BRANCH", "JUMP", "CALL", "ON_REGISTERS", "PUSH", "PULL", "RETURN", "RETURN_FROM_INTERRUPT", "BREAK", "JAM", "INTERRUPT", "RESET", "NOT_READ_YET"]
def oLS : List Int32 := [0, 1, 2, 3, 4, 5, 6, 7, 8, 9, 10, 11, 12, 13, 14, 15, 16, 17, 18, 19, 20, 21, 22, 23, 24, 25, 26, 27, 28, 29, 30, 31, 32, 33, 34]
def oLK : List Int32 := [0, 1, 2, 3, 4, 5, 6, 7, 8, 9, 10, 11, 12, 13, 14, 15]
def plL : List Int32 := [0, 0, 0, 1, 1, 1, 0, 0, 1, 1, 1, 1, 1, 1, 0, 0, 1, 0, 0, 2, 2, 2, 2, 2, 3, 3, 3, 0, 0, 4, 1, 0, 2, 5, 6]
def wrL : List Int32 := [0, 0, 0, 0, 0, 0, 0, 0, 0, 0, 1, 0, 1, 1, 0, 0, 0, 0, 0, 0, 1, 1, 1, 1, 0, 0, 0, 0, 0, 0, 0, 0, 0, 0, 0]
def swLS : List Int32 := [8, 9, 10, 11, 12, 13, 14, 15, 16, 17, 1, 18, 2, 3, 19, 20, 21, 22, 23, 25, 4, 5, 6, 7, 26, 27, 28, 29, 30, 31, 32, 33, 34, 0, 24]
def swLK : List Int32 := [1, 2, 3, 4, 5, 6, 0, 0, 0, 9, 0, 7, 8, 0, 0, 0]
def oS (k : Fin 35) : Int32 := oLS.getD k.val 0
def oK (k : Fin 16) : Int32 := oLK.getD k.val 0
def plS (k : Fin 35) : Int32 := plL.getD k.val 0
def wrS (k : Fin 35) : Int32 := wrL.getD k.val 0
def swS (k : Fin 35) : Int32 := swLS.getD k.val 0
def swK (k : Fin 16) : Int32 := swLK.getD k.val 0
def FS : List (String × String × String × List Int32) := [("java/lang/Enum", "ordinal", "I", oLS), ("ClockedChip$Step", "place", "I", plL), ("ClockedChip$Step", "writes", "Z", wrL)]
def FK : List (String × String × String × List Int32) := [("java/lang/Enum", "ordinal", "I", oLK)]
def EnS (g : CG) (A : Nat → Prop) (U : State) (H : Heap) : Prop := va_En "ClockedChip$Step" "LClockedChip$Step;" nmS FS g.adS A U H
def EnK (g : CG) (A : Nat → Prop) (U : State) (H : Heap) : Prop := va_En "ClockedChip$Kind" "LClockedChip$Kind;" nmK FK g.adK A U H
def ENV (g : CG) (A : Nat → Prop) (U : State) (H : Heap) : Prop :=
  EnS g A U H ∧ EnK g A U H ∧ va_Z "ClockedChip$1" "$SwitchMap$ClockedChip$Step" "[I" (.ref g.mapS) A U H ∧ va_Z "ClockedChip$1" "$SwitchMap$ClockedChip$Kind" "[I" (.ref g.mapK) A U H ∧
  va_T .int g.mapS 35 (fun j => .int (swLS.getD j 0)) A U H ∧ va_T .int g.mapK 16 (fun j => .int (swLK.getD j 0)) A U H ∧ NW U
theorem NW_warm {s U : State} (hW : s.WarmedH U.vm) (h : NW s) : NW U := fun w hw hn => by
  cases w with
  | fieldLinkNest a i b n d hh => exact va_Nw.warmF hW (h _ hw hn)
  | methodLinkNest a i x hh => exact va_Nw.warmM hW (h _ hw hn)
  | _ => simp [isNest] at hn
theorem NW_same {s U : State} (hv : s.vm = U.vm) (h : NW s) : NW U := fun w hw hn => by
  cases w with
  | fieldLinkNest a i b n d hh => exact va_Nw.same rfl hv (h _ hw hn)
  | methodLinkNest a i x hh => exact va_Nw.same rfl hv (h _ hw hn)
  | _ => simp [isNest] at hn
theorem ENV_warm {g : CG} {A : Nat → Prop} {s U : State} {H : Heap} (hW : s.WarmedH U.vm) (h : ENV g A s H) : ENV g A U H :=
  ⟨va_En.moved hW.alike h.1, va_En.moved hW.alike h.2.1, va_Z.moved hW.alike h.2.2.1, va_Z.moved hW.alike h.2.2.2.1, va_T.moved hW.alike h.2.2.2.2.1, va_T.moved hW.alike h.2.2.2.2.2.1, NW_warm hW h.2.2.2.2.2.2⟩
theorem ENV_same {g : CG} {A : Nat → Prop} {s U : State} {H : Heap} (hv : s.vm = U.vm) (h : ENV g A s H) : ENV g A U H :=
  have hA : s.vm.Alike U.vm := hv ▸ Vm.Alike.refl s.vm
  ⟨va_En.moved hA h.1, va_En.moved hA h.2.1, va_Z.moved hA h.2.2.1, va_Z.moved hA h.2.2.2.1, va_T.moved hA h.2.2.2.2.1, va_T.moved hA h.2.2.2.2.2.1, NW_same hv h.2.2.2.2.2.2⟩
theorem ENV_kept {g : CG} {A : Nat → Prop} {U : State} {H H1 : Heap} (h : ENV g A U H) (hq : ∀ a : Nat, a < H.size → ¬ A a → H1[a]? = H[a]?) : ENV g A U H1 :=
  ⟨va_En.kept h.1 hq, va_En.kept h.2.1 hq, va_Z.kept h.2.2.1 hq, va_Z.kept h.2.2.2.1 hq, va_T.kept h.2.2.2.2.1 hq, va_T.kept h.2.2.2.2.2.1 hq, h.2.2.2.2.2.2⟩
theorem ENV_narrow {g : CG} {A B : Nat → Prop} {U : State} {H : Heap} (h : ENV g A U H) (hAB : ∀ q, B q → A q) : ENV g B U H :=
  ⟨va_En.narrow h.1 hAB, va_En.narrow h.2.1 hAB, va_Z.narrow h.2.2.1 hAB, va_Z.narrow h.2.2.2.1 hAB, va_T.narrow h.2.2.2.2.1 hAB, va_T.narrow h.2.2.2.2.2.1 hAB, h.2.2.2.2.2.2⟩

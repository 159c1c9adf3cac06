/-! names: fields, classes, methods, words (printed by my own program out of the Statement) -/
def TC : u_T := fun k => match k with
  | 0 => ("ClockedChip", "memory", "[I", true)
  | 1 => ("ClockedChip", "pins", "[Z", true)
  | 2 => ("ClockedChip", "registers", "LClockedChip$Registers;", true)
  | 3 => ("ClockedChip", "nmiWanted", "Z", false)
  | 4 => ("ClockedChip", "step", "LClockedChip$Step;", false)
  | 5 => ("ClockedChip", "kind", "LClockedChip$Kind;", false)
  | 6 => ("ClockedChip", "operation", "I", false)
  | 7 => ("ClockedChip", "mode", "I", false)
  | 8 => ("ClockedChip", "done", "I", false)
  | 9 => ("ClockedChip", "ended", "I", false)
  | 10 => ("ClockedChip", "aim", "I", false)
  | 11 => ("ClockedChip", "target", "I", false)
  | _ => ("ClockedChip", "held", "I", false)
def tyC : Nat → FieldType := fun k => match k with
  | 0 => .array .int
  | 1 => .array .boolean
  | 2 => .object "ClockedChip$Registers"
  | 3 => .boolean
  | 4 => .object "ClockedChip$Step"
  | 5 => .object "ClockedChip$Kind"
  | 6 => .int
  | 7 => .int
  | 8 => .int
  | 9 => .int
  | 10 => .int
  | 11 => .int
  | _ => .int
theorem nmC : ∀ a, a < 13 → ∀ b, b < 13 → a ≠ b → (TC a).2.1 ≠ (TC b).2.1 := by decide +kernel
theorem tyC_ok : ∀ k, k < 13 → parseFieldDescriptor (TC k).2.2.1 = some (tyC k) := by decide +kernel
def TR : u_T := fun k => match k with
  | 0 => ("ClockedChip$Registers", "a", "I", false)
  | 1 => ("ClockedChip$Registers", "x", "I", false)
  | 2 => ("ClockedChip$Registers", "y", "I", false)
  | 3 => ("ClockedChip$Registers", "s", "I", false)
  | 4 => ("ClockedChip$Registers", "pc", "I", false)
  | _ => ("ClockedChip$Registers", "flags", "I", false)
def tyR : Nat → FieldType := fun k => match k with
  | 0 => .int
  | 1 => .int
  | 2 => .int
  | 3 => .int
  | 4 => .int
  | _ => .int
theorem nmR : ∀ a, a < 6 → ∀ b, b < 6 → a ≠ b → (TR a).2.1 ≠ (TR b).2.1 := by decide +kernel
theorem tyR_ok : ∀ k, k < 6 → parseFieldDescriptor (TR k).2.2.1 = some (tyR k) := by decide +kernel
def TM : u_T := fun k => match k with
  | 0 => ("ClockedChipModel", "memory", "[I", true)
  | 1 => ("ClockedChipModel", "a", "I", false)
  | 2 => ("ClockedChipModel", "x", "I", false)
  | 3 => ("ClockedChipModel", "y", "I", false)
  | 4 => ("ClockedChipModel", "s", "I", false)
  | 5 => ("ClockedChipModel", "pc", "I", false)
  | 6 => ("ClockedChipModel", "flags", "I", false)
  | 7 => ("ClockedChipModel", "nmi", "Z", false)
  | 8 => ("ClockedChipModel", "irq", "Z", false)
  | 9 => ("ClockedChipModel", "ready", "Z", false)
  | 10 => ("ClockedChipModel", "so", "Z", false)
  | 11 => ("ClockedChipModel", "wanted", "Z", false)
  | 12 => ("ClockedChipModel", "going", "I", false)
  | 13 => ("ClockedChipModel", "done", "I", false)
  | 14 => ("ClockedChipModel", "jam", "Z", false)
  | 15 => ("ClockedChipModel", "operation", "I", false)
  | 16 => ("ClockedChipModel", "mode", "I", false)
  | 17 => ("ClockedChipModel", "z", "I", false)
  | 18 => ("ClockedChipModel", "high", "I", false)
  | 19 => ("ClockedChipModel", "low", "I", false)
  | 20 => ("ClockedChipModel", "vector", "I", false)
  | 21 => ("ClockedChipModel", "change", "I", false)
  | 22 => ("ClockedChipModel", "taken", "Z", false)
  | 23 => ("ClockedChipModel", "halves", "Z", false)
  | 24 => ("ClockedChipModel", "address", "I", false)
  | 25 => ("ClockedChipModel", "writes", "Z", false)
  | 26 => ("ClockedChipModel", "value", "I", false)
  | 27 => ("ClockedChipModel", "ends", "I", false)
  | _ => ("ClockedChipModel", "thrown", "I", false)
def tyM : Nat → FieldType := fun k => match k with
  | 0 => .array .int
  | 1 => .int
  | 2 => .int
  | 3 => .int
  | 4 => .int
  | 5 => .int
  | 6 => .int
  | 7 => .boolean
  | 8 => .boolean
  | 9 => .boolean
  | 10 => .boolean
  | 11 => .boolean
  | 12 => .int
  | 13 => .int
  | 14 => .boolean
  | 15 => .int
  | 16 => .int
  | 17 => .int
  | 18 => .int
  | 19 => .int
  | 20 => .int
  | 21 => .int
  | 22 => .boolean
  | 23 => .boolean
  | 24 => .int
  | 25 => .boolean
  | 26 => .int
  | 27 => .int
  | _ => .int
theorem nmM : ∀ a, a < 29 → ∀ b, b < 29 → a ≠ b → (TM a).2.1 ≠ (TM b).2.1 := by decide +kernel
theorem tyM_ok : ∀ k, k < 29 → parseFieldDescriptor (TM k).2.2.1 = some (tyM k) := by decide +kernel
abbrev iC : Nat := 0
abbrev iR : Nat := 1
abbrev iM : Nat := 2
abbrev CL : List vw_C := [("ClockedChip", TC, 13), ("ClockedChip$Registers", TR, 6), ("ClockedChipModel", TM, 29)]
def isNest : Cond → Bool
  | .fieldLinkNest .. => true
  | .methodLinkNest .. => true
  | _ => false
def ALL : List Cond := lw_tbl.filter goodWord
def NW (U : State) : Prop := ∀ w ∈ tables_1, isNest w = true → va_Nw w U
theorem in_ALL {w : Cond} (h : w ∈ tables_1) (hg : goodWord w = true) : w ∈ ALL := List.mem_filter.mpr ⟨List.mem_append_right _ h, hg⟩
theorem in_sel {q : MethodName × Nat} (h : q ∈ lw_privs) (hg : goodWord (Cond.selects q.1.cls q.1 q.1) = true) : Cond.selects q.1.cls q.1 q.1 ∈ ALL := List.mem_filter.mpr ⟨List.mem_append_left _ (List.mem_map.mpr ⟨q, h, rfl⟩), hg⟩
theorem good_ALL {w : Cond} (h : w ∈ ALL) : (w.onTables && w.keeps) = true ∨ ∃ ty, w = .arrayClass ty := good_of_word (List.mem_filter.mp h).2
theorem goodIn_code {y : MethodName} {b : ByteArray} {n : Nat} {r : Option FieldType} (h : Cond.code y b n r ∈ ALL) : GoodIn ALL (Cond.code y b n r :: ALL) := fun w hw => by
  rcases List.mem_cons.mp hw with rfl | hw
  · exact ⟨h, good_ALL h⟩
  · exact ⟨hw, good_ALL hw⟩
abbrev c_C_init : ByteArray := prog_1_method_1_code
abbrev y_C_init : MethodName := ⟨"ClockedChip", "<init>", "()V"⟩
theorem w_C_init : Cond.code y_C_init c_C_init 1 none ∈ ALL := in_ALL (List.mem_append_left _ (List.mem_of_getElem? (i := 18) rfl)) rfl
abbrev c_R_init : ByteArray := prog_4_method_1_code
abbrev y_R_init : MethodName := ⟨"ClockedChip$Registers", "<init>", "()V"⟩
theorem w_R_init : Cond.code y_R_init c_R_init 1 none ∈ ALL := in_ALL (List.mem_append_left _ (List.mem_of_getElem? (i := 26) rfl)) rfl
abbrev c_C_poke : ByteArray := prog_1_method_2_code
abbrev y_C_poke : MethodName := ⟨"ClockedChip", "poke", "(II)I"⟩
theorem w_C_poke : Cond.code y_C_poke c_C_poke 4 (some .int) ∈ ALL := in_ALL (List.mem_append_left _ (List.mem_of_getElem? (i := 101) rfl)) rfl
abbrev c_C_peek : ByteArray := prog_1_method_3_code
abbrev y_C_peek : MethodName := ⟨"ClockedChip", "peek", "(I)I"⟩
theorem w_C_peek : Cond.code y_C_peek c_C_peek 2 (some .int) ∈ ALL := in_ALL (List.mem_append_left _ (List.mem_of_getElem? (i := 105) rfl)) rfl
abbrev c_C_cycle : ByteArray := prog_1_method_4_code
abbrev y_C_cycle : MethodName := ⟨"ClockedChip", "cycle", "()I"⟩
theorem w_C_cycle : Cond.code y_C_cycle c_C_cycle 1 (some .int) ∈ ALL := in_ALL (List.mem_append_left _ (List.mem_of_getElem? (i := 109) rfl)) rfl
abbrev c_C_runCycle : ByteArray := prog_1_method_11_code
abbrev y_C_runCycle : MethodName := ⟨"ClockedChip", "runCycle", "()I"⟩
theorem w_C_runCycle : Cond.code y_C_runCycle c_C_runCycle 3 (some .int) ∈ ALL := in_ALL (List.mem_append_left _ (List.mem_of_getElem? (i := 113) rfl)) rfl
abbrev c_C_addressOfStep : ByteArray := prog_1_method_12_code
abbrev y_C_addressOfStep : MethodName := ⟨"ClockedChip", "addressOfStep", "()I"⟩
theorem w_C_addressOfStep : Cond.code y_C_addressOfStep c_C_addressOfStep 1 (some .int) ∈ ALL := in_ALL (List.mem_append_left _ (List.mem_of_getElem? (i := 117) rfl)) rfl
abbrev c_C_byteToWrite : ByteArray := prog_1_method_13_code
abbrev y_C_byteToWrite : MethodName := ⟨"ClockedChip", "byteToWrite", "()I"⟩
theorem w_C_byteToWrite : Cond.code y_C_byteToWrite c_C_byteToWrite 1 (some .int) ∈ ALL := in_ALL (List.mem_append_left _ (List.mem_of_getElem? (i := 125) rfl)) rfl
abbrev c_R_changed : ByteArray := prog_4_method_16_code
abbrev y_R_changed : MethodName := ⟨"ClockedChip$Registers", "changed", "(II)I"⟩
theorem w_R_changed : Cond.code y_R_changed c_R_changed 3 (some .int) ∈ ALL := in_ALL (List.mem_append_left _ (List.mem_of_getElem? (i := 137) rfl)) rfl
abbrev c_R_p : ByteArray := prog_4_method_2_code
abbrev y_R_p : MethodName := ⟨"ClockedChip$Registers", "p", "()I"⟩
theorem w_R_p : Cond.code y_R_p c_R_p 1 (some .int) ∈ ALL := in_ALL (List.mem_append_left _ (List.mem_of_getElem? (i := 141) rfl)) rfl
abbrev c_C_afterWrite : ByteArray := prog_1_method_14_code
abbrev y_C_afterWrite : MethodName := ⟨"ClockedChip", "afterWrite", "()V"⟩
theorem w_C_afterWrite : Cond.code y_C_afterWrite c_C_afterWrite 1 none ∈ ALL := in_ALL (List.mem_append_left _ (List.mem_of_getElem? (i := 147) rfl)) rfl
abbrev c_R_flagsOfChange : ByteArray := prog_4_method_17_code
abbrev y_R_flagsOfChange : MethodName := ⟨"ClockedChip$Registers", "flagsOfChange", "(II)V"⟩
theorem w_R_flagsOfChange : Cond.code y_R_flagsOfChange c_R_flagsOfChange 3 none ∈ ALL := in_ALL (List.mem_append_left _ (List.mem_of_getElem? (i := 153) rfl)) rfl
abbrev c_R_put : ByteArray := prog_4_method_5_code
abbrev y_R_put : MethodName := ⟨"ClockedChip$Registers", "put", "(IZ)V"⟩
theorem w_R_put : Cond.code y_R_put c_R_put 3 none ∈ ALL := in_ALL (List.mem_append_left _ (List.mem_of_getElem? (i := 157) rfl)) rfl
abbrev c_R_putNz : ByteArray := prog_4_method_6_code
abbrev y_R_putNz : MethodName := ⟨"ClockedChip$Registers", "putNz", "(I)V"⟩
theorem w_R_putNz : Cond.code y_R_putNz c_R_putNz 3 none ∈ ALL := in_ALL (List.mem_append_left _ (List.mem_of_getElem? (i := 162) rfl)) rfl
abbrev c_C_end : ByteArray := prog_1_method_18_code
abbrev y_C_end : MethodName := ⟨"ClockedChip", "end", "()V"⟩
theorem w_C_end : Cond.code y_C_end c_C_end 2 none ∈ ALL := in_ALL (List.mem_append_left _ (List.mem_of_getElem? (i := 166) rfl)) rfl
abbrev c_R_has : ByteArray := prog_4_method_4_code
abbrev y_R_has : MethodName := ⟨"ClockedChip$Registers", "has", "(I)Z"⟩
theorem w_R_has : Cond.code y_R_has c_R_has 2 (some .boolean) ∈ ALL := in_ALL (List.mem_append_left _ (List.mem_of_getElem? (i := 170) rfl)) rfl
abbrev c_C_begin : ByteArray := prog_1_method_17_code
abbrev y_C_begin : MethodName := ⟨"ClockedChip", "begin", "(LClockedChip$Kind;LClockedChip$Step;)V"⟩
theorem w_C_begin : Cond.code y_C_begin c_C_begin 3 none ∈ ALL := in_ALL (List.mem_append_left _ (List.mem_of_getElem? (i := 178) rfl)) rfl
abbrev c_R_moveStack : ByteArray := prog_4_method_9_code
abbrev y_R_moveStack : MethodName := ⟨"ClockedChip$Registers", "moveStack", "(I)V"⟩
theorem w_R_moveStack : Cond.code y_R_moveStack c_R_moveStack 2 none ∈ ALL := in_ALL (List.mem_append_left _ (List.mem_of_getElem? (i := 182) rfl)) rfl
abbrev c_C_afterRead : ByteArray := prog_1_method_15_code
abbrev y_C_afterRead : MethodName := ⟨"ClockedChip", "afterRead", "(I)V"⟩
theorem w_C_afterRead : Cond.code y_C_afterRead c_C_afterRead 2 none ∈ ALL := in_ALL (List.mem_append_left _ (List.mem_of_getElem? (i := 197) rfl)) rfl
abbrev c_C_afterFetch : ByteArray := prog_1_method_20_code
abbrev y_C_afterFetch : MethodName := ⟨"ClockedChip", "afterFetch", "(I)V"⟩
theorem w_C_afterFetch : Cond.code y_C_afterFetch c_C_afterFetch 2 none ∈ ALL := in_ALL (List.mem_append_left _ (List.mem_of_getElem? (i := 201) rfl)) rfl
abbrev c_R_nextPc : ByteArray := prog_4_method_8_code
abbrev y_R_nextPc : MethodName := ⟨"ClockedChip$Registers", "nextPc", "()V"⟩
theorem w_R_nextPc : Cond.code y_R_nextPc c_R_nextPc 1 none ∈ ALL := in_ALL (List.mem_append_left _ (List.mem_of_getElem? (i := 205) rfl)) rfl
abbrev c_C_kindWithoutOperand : ByteArray := prog_1_method_22_code
abbrev y_C_kindWithoutOperand : MethodName := ⟨"ClockedChip", "kindWithoutOperand", "()LClockedChip$Kind;"⟩
theorem w_C_kindWithoutOperand : Cond.code y_C_kindWithoutOperand c_C_kindWithoutOperand 1 (some (.object "ClockedChip$Kind")) ∈ ALL := in_ALL (List.mem_append_left _ (List.mem_of_getElem? (i := 210) rfl)) rfl
abbrev c_C_kindWithOperand : ByteArray := prog_1_method_21_code
abbrev y_C_kindWithOperand : MethodName := ⟨"ClockedChip", "kindWithOperand", "()LClockedChip$Kind;"⟩
theorem w_C_kindWithOperand : Cond.code y_C_kindWithOperand c_C_kindWithOperand 1 (some (.object "ClockedChip$Kind")) ∈ ALL := in_ALL (List.mem_append_left _ (List.mem_of_getElem? (i := 226) rfl)) rfl
abbrev c_C_secondStep : ByteArray := prog_1_method_23_code
abbrev y_C_secondStep : MethodName := ⟨"ClockedChip", "secondStep", "()LClockedChip$Step;"⟩
theorem w_C_secondStep : Cond.code y_C_secondStep c_C_secondStep 1 (some (.object "ClockedChip$Step")) ∈ ALL := in_ALL (List.mem_append_right _ (List.mem_append_left _ (List.mem_of_getElem? (i := 0) rfl))) rfl
abbrev c_C_secondStepByMode : ByteArray := prog_1_method_24_code
abbrev y_C_secondStepByMode : MethodName := ⟨"ClockedChip", "secondStepByMode", "()LClockedChip$Step;"⟩
theorem w_C_secondStepByMode : Cond.code y_C_secondStepByMode c_C_secondStepByMode 1 (some (.object "ClockedChip$Step")) ∈ ALL := in_ALL (List.mem_append_right _ (List.mem_append_left _ (List.mem_of_getElem? (i := 9) rfl))) rfl
abbrev c_R_operate : ByteArray := prog_4_method_14_code
abbrev y_R_operate : MethodName := ⟨"ClockedChip$Registers", "operate", "(II)V"⟩
theorem w_R_operate : Cond.code y_R_operate c_R_operate 3 none ∈ ALL := in_ALL (List.mem_append_right _ (List.mem_append_left _ (List.mem_of_getElem? (i := 27) rfl))) rfl
abbrev c_R_loadA : ByteArray := prog_4_method_10_code
abbrev y_R_loadA : MethodName := ⟨"ClockedChip$Registers", "loadA", "(I)V"⟩
theorem w_R_loadA : Cond.code y_R_loadA c_R_loadA 2 none ∈ ALL := in_ALL (List.mem_append_right _ (List.mem_append_left _ (List.mem_of_getElem? (i := 31) rfl))) rfl
abbrev c_R_add : ByteArray := prog_4_method_19_code
abbrev y_R_add : MethodName := ⟨"ClockedChip$Registers", "add", "(I)V"⟩
theorem w_R_add : Cond.code y_R_add c_R_add 3 none ∈ ALL := in_ALL (List.mem_append_right _ (List.mem_append_left _ (List.mem_of_getElem? (i := 35) rfl))) rfl
abbrev c_R_addDecimal : ByteArray := prog_4_method_22_code
abbrev y_R_addDecimal : MethodName := ⟨"ClockedChip$Registers", "addDecimal", "(I)V"⟩
theorem w_R_addDecimal : Cond.code y_R_addDecimal c_R_addDecimal 5 none ∈ ALL := in_ALL (List.mem_append_right _ (List.mem_append_left _ (List.mem_of_getElem? (i := 40) rfl))) rfl
abbrev c_R_carry : ByteArray := prog_4_method_7_code
abbrev y_R_carry : MethodName := ⟨"ClockedChip$Registers", "carry", "()I"⟩
theorem w_R_carry : Cond.code y_R_carry c_R_carry 1 (some .int) ∈ ALL := in_ALL (List.mem_append_right _ (List.mem_append_left _ (List.mem_of_getElem? (i := 44) rfl))) rfl
abbrev c_R_differsInSign : ByteArray := prog_4_method_21_code
abbrev y_R_differsInSign : MethodName := ⟨"ClockedChip$Registers", "differsInSign", "(IZ)Z"⟩
theorem w_R_differsInSign : Cond.code y_R_differsInSign c_R_differsInSign 4 (some .boolean) ∈ ALL := in_ALL (List.mem_append_right _ (List.mem_append_left _ (List.mem_of_getElem? (i := 48) rfl))) rfl
abbrev c_R_flagsOfSum : ByteArray := prog_4_method_20_code
abbrev y_R_flagsOfSum : MethodName := ⟨"ClockedChip$Registers", "flagsOfSum", "(II)V"⟩
theorem w_R_flagsOfSum : Cond.code y_R_flagsOfSum c_R_flagsOfSum 3 none ∈ ALL := in_ALL (List.mem_append_right _ (List.mem_append_left _ (List.mem_of_getElem? (i := 52) rfl))) rfl
abbrev c_R_subtract : ByteArray := prog_4_method_23_code
abbrev y_R_subtract : MethodName := ⟨"ClockedChip$Registers", "subtract", "(I)V"⟩
theorem w_R_subtract : Cond.code y_R_subtract c_R_subtract 4 none ∈ ALL := in_ALL (List.mem_append_right _ (List.mem_append_left _ (List.mem_of_getElem? (i := 56) rfl))) rfl
abbrev c_R_decimalDifference : ByteArray := prog_4_method_24_code
abbrev y_R_decimalDifference : MethodName := ⟨"ClockedChip$Registers", "decimalDifference", "(I)I"⟩
theorem w_R_decimalDifference : Cond.code y_R_decimalDifference c_R_decimalDifference 4 (some .int) ∈ ALL := in_ALL (List.mem_append_right _ (List.mem_append_left _ (List.mem_of_getElem? (i := 60) rfl))) rfl
abbrev c_R_compare : ByteArray := prog_4_method_18_code
abbrev y_R_compare : MethodName := ⟨"ClockedChip$Registers", "compare", "(I)V"⟩
theorem w_R_compare : Cond.code y_R_compare c_R_compare 2 none ∈ ALL := in_ALL (List.mem_append_right _ (List.mem_append_left _ (List.mem_of_getElem? (i := 64) rfl))) rfl
abbrev c_R_loadX : ByteArray := prog_4_method_11_code
abbrev y_R_loadX : MethodName := ⟨"ClockedChip$Registers", "loadX", "(I)V"⟩
theorem w_R_loadX : Cond.code y_R_loadX c_R_loadX 2 none ∈ ALL := in_ALL (List.mem_append_right _ (List.mem_append_left _ (List.mem_of_getElem? (i := 68) rfl))) rfl
abbrev c_R_loadY : ByteArray := prog_4_method_12_code
abbrev y_R_loadY : MethodName := ⟨"ClockedChip$Registers", "loadY", "(I)V"⟩
theorem w_R_loadY : Cond.code y_R_loadY c_R_loadY 2 none ∈ ALL := in_ALL (List.mem_append_right _ (List.mem_append_left _ (List.mem_of_getElem? (i := 72) rfl))) rfl
abbrev c_C_afterZeroByte : ByteArray := prog_1_method_25_code
abbrev y_C_afterZeroByte : MethodName := ⟨"ClockedChip", "afterZeroByte", "(I)V"⟩
theorem w_C_afterZeroByte : Cond.code y_C_afterZeroByte c_C_afterZeroByte 2 none ∈ ALL := in_ALL (List.mem_append_right _ (List.mem_append_left _ (List.mem_of_getElem? (i := 76) rfl))) rfl
abbrev c_C_accessOperandAt : ByteArray := prog_1_method_32_code
abbrev y_C_accessOperandAt : MethodName := ⟨"ClockedChip", "accessOperandAt", "(I)V"⟩
theorem w_C_accessOperandAt : Cond.code y_C_accessOperandAt c_C_accessOperandAt 2 none ∈ ALL := in_ALL (List.mem_append_right _ (List.mem_append_left _ (List.mem_of_getElem? (i := 80) rfl))) rfl
abbrev c_C_afterZeroIdle : ByteArray := prog_1_method_26_code
abbrev y_C_afterZeroIdle : MethodName := ⟨"ClockedChip", "afterZeroIdle", "()V"⟩
theorem w_C_afterZeroIdle : Cond.code y_C_afterZeroIdle c_C_afterZeroIdle 2 none ∈ ALL := in_ALL (List.mem_append_right _ (List.mem_append_left _ (List.mem_of_getElem? (i := 94) rfl))) rfl
abbrev c_C_afterPointerLow : ByteArray := prog_1_method_27_code
abbrev y_C_afterPointerLow : MethodName := ⟨"ClockedChip", "afterPointerLow", "(I)V"⟩
theorem w_C_afterPointerLow : Cond.code y_C_afterPointerLow c_C_afterPointerLow 2 none ∈ ALL := in_ALL (List.mem_append_right _ (List.mem_append_left _ (List.mem_of_getElem? (i := 98) rfl))) rfl
abbrev c_C_afterPointerPage : ByteArray := prog_1_method_28_code
abbrev y_C_afterPointerPage : MethodName := ⟨"ClockedChip", "afterPointerPage", "(I)V"⟩
theorem w_C_afterPointerPage : Cond.code y_C_afterPointerPage c_C_afterPointerPage 2 none ∈ ALL := in_ALL (List.mem_append_right _ (List.mem_append_left _ (List.mem_of_getElem? (i := 104) rfl))) rfl
abbrev c_C_accessIndexed : ByteArray := prog_1_method_31_code
abbrev y_C_accessIndexed : MethodName := ⟨"ClockedChip", "accessIndexed", "(II)V"⟩
theorem w_C_accessIndexed : Cond.code y_C_accessIndexed c_C_accessIndexed 5 none ∈ ALL := in_ALL (List.mem_append_right _ (List.mem_append_left _ (List.mem_of_getElem? (i := 108) rfl))) rfl
abbrev c_C_afterFarLow : ByteArray := prog_1_method_29_code
abbrev y_C_afterFarLow : MethodName := ⟨"ClockedChip", "afterFarLow", "(I)V"⟩
theorem w_C_afterFarLow : Cond.code y_C_afterFarLow c_C_afterFarLow 2 none ∈ ALL := in_ALL (List.mem_append_right _ (List.mem_append_left _ (List.mem_of_getElem? (i := 114) rfl))) rfl
abbrev c_C_afterFarPage : ByteArray := prog_1_method_30_code
abbrev y_C_afterFarPage : MethodName := ⟨"ClockedChip", "afterFarPage", "(I)V"⟩
theorem w_C_afterFarPage : Cond.code y_C_afterFarPage c_C_afterFarPage 2 none ∈ ALL := in_ALL (List.mem_append_right _ (List.mem_append_left _ (List.mem_of_getElem? (i := 120) rfl))) rfl
abbrev c_C_goTo : ByteArray := prog_1_method_19_code
abbrev y_C_goTo : MethodName := ⟨"ClockedChip", "goTo", "(I)V"⟩
theorem w_C_goTo : Cond.code y_C_goTo c_C_goTo 2 none ∈ ALL := in_ALL (List.mem_append_right _ (List.mem_append_left _ (List.mem_of_getElem? (i := 124) rfl))) rfl
abbrev c_C_afterChangeRead : ByteArray := prog_1_method_33_code
abbrev y_C_afterChangeRead : MethodName := ⟨"ClockedChip", "afterChangeRead", "(I)V"⟩
theorem w_C_afterChangeRead : Cond.code y_C_afterChangeRead c_C_afterChangeRead 2 none ∈ ALL := in_ALL (List.mem_append_right _ (List.mem_append_left _ (List.mem_of_getElem? (i := 128) rfl))) rfl
abbrev c_C_afterBranchDistance : ByteArray := prog_1_method_34_code
abbrev y_C_afterBranchDistance : MethodName := ⟨"ClockedChip", "afterBranchDistance", "(I)V"⟩
theorem w_C_afterBranchDistance : Cond.code y_C_afterBranchDistance c_C_afterBranchDistance 3 none ∈ ALL := in_ALL (List.mem_append_right _ (List.mem_append_left _ (List.mem_of_getElem? (i := 134) rfl))) rfl
abbrev c_R_takesBranch : ByteArray := prog_4_method_13_code
abbrev y_R_takesBranch : MethodName := ⟨"ClockedChip$Registers", "takesBranch", "(I)Z"⟩
theorem w_R_takesBranch : Cond.code y_R_takesBranch c_R_takesBranch 3 (some .boolean) ∈ ALL := in_ALL (List.mem_append_right _ (List.mem_append_left _ (List.mem_of_getElem? (i := 138) rfl))) rfl
abbrev c_C_afterBranchIdle : ByteArray := prog_1_method_35_code
abbrev y_C_afterBranchIdle : MethodName := ⟨"ClockedChip", "afterBranchIdle", "()V"⟩
theorem w_C_afterBranchIdle : Cond.code y_C_afterBranchIdle c_C_afterBranchIdle 2 none ∈ ALL := in_ALL (List.mem_append_right _ (List.mem_append_left _ (List.mem_of_getElem? (i := 144) rfl))) rfl
abbrev c_C_afterBreakNext : ByteArray := prog_1_method_36_code
abbrev y_C_afterBreakNext : MethodName := ⟨"ClockedChip", "afterBreakNext", "()V"⟩
theorem w_C_afterBreakNext : Cond.code y_C_afterBreakNext c_C_afterBreakNext 1 none ∈ ALL := in_ALL (List.mem_append_right _ (List.mem_append_left _ (List.mem_of_getElem? (i := 151) rfl))) rfl
abbrev c_C_afterPcIdle : ByteArray := prog_1_method_37_code
abbrev y_C_afterPcIdle : MethodName := ⟨"ClockedChip", "afterPcIdle", "()V"⟩
theorem w_C_afterPcIdle : Cond.code y_C_afterPcIdle c_C_afterPcIdle 1 none ∈ ALL := in_ALL (List.mem_append_right _ (List.mem_append_left _ (List.mem_of_getElem? (i := 157) rfl))) rfl
abbrev c_R_operateAlone : ByteArray := prog_4_method_15_code
abbrev y_R_operateAlone : MethodName := ⟨"ClockedChip$Registers", "operateAlone", "(I)V"⟩
theorem w_R_operateAlone : Cond.code y_R_operateAlone c_R_operateAlone 2 none ∈ ALL := in_ALL (List.mem_append_right _ (List.mem_append_left _ (List.mem_of_getElem? (i := 161) rfl))) rfl
abbrev c_C_afterStackOrVectorRead : ByteArray := prog_1_method_16_code
abbrev y_C_afterStackOrVectorRead : MethodName := ⟨"ClockedChip", "afterStackOrVectorRead", "(I)V"⟩
theorem w_C_afterStackOrVectorRead : Cond.code y_C_afterStackOrVectorRead c_C_afterStackOrVectorRead 2 none ∈ ALL := in_ALL (List.mem_append_right _ (List.mem_append_left _ (List.mem_of_getElem? (i := 167) rfl))) rfl
abbrev c_C_stepAfterStackIdle : ByteArray := prog_1_method_38_code
abbrev y_C_stepAfterStackIdle : MethodName := ⟨"ClockedChip", "stepAfterStackIdle", "()LClockedChip$Step;"⟩
theorem w_C_stepAfterStackIdle : Cond.code y_C_stepAfterStackIdle c_C_stepAfterStackIdle 1 (some (.object "ClockedChip$Step")) ∈ ALL := in_ALL (List.mem_append_right _ (List.mem_append_left _ (List.mem_of_getElem? (i := 171) rfl))) rfl
abbrev c_C_afterPullByte : ByteArray := prog_1_method_39_code
abbrev y_C_afterPullByte : MethodName := ⟨"ClockedChip", "afterPullByte", "(I)V"⟩
theorem w_C_afterPullByte : Cond.code y_C_afterPullByte c_C_afterPullByte 2 none ∈ ALL := in_ALL (List.mem_append_right _ (List.mem_append_left _ (List.mem_of_getElem? (i := 179) rfl))) rfl
abbrev c_R_takeFlags : ByteArray := prog_4_method_3_code
abbrev y_R_takeFlags : MethodName := ⟨"ClockedChip$Registers", "takeFlags", "(I)V"⟩
theorem w_R_takeFlags : Cond.code y_R_takeFlags c_R_takeFlags 2 none ∈ ALL := in_ALL (List.mem_append_right _ (List.mem_append_left _ (List.mem_of_getElem? (i := 183) rfl))) rfl
abbrev c_C_afterPullLow : ByteArray := prog_1_method_40_code
abbrev y_C_afterPullLow : MethodName := ⟨"ClockedChip", "afterPullLow", "(I)V"⟩
theorem w_C_afterPullLow : Cond.code y_C_afterPullLow c_C_afterPullLow 2 none ∈ ALL := in_ALL (List.mem_append_right _ (List.mem_append_left _ (List.mem_of_getElem? (i := 188) rfl))) rfl
abbrev c_C_afterPullPage : ByteArray := prog_1_method_41_code
abbrev y_C_afterPullPage : MethodName := ⟨"ClockedChip", "afterPullPage", "(I)V"⟩
theorem w_C_afterPullPage : Cond.code y_C_afterPullPage c_C_afterPullPage 2 none ∈ ALL := in_ALL (List.mem_append_right _ (List.mem_append_left _ (List.mem_of_getElem? (i := 194) rfl))) rfl
abbrev c_C_afterVectorLow : ByteArray := prog_1_method_42_code
abbrev y_C_afterVectorLow : MethodName := ⟨"ClockedChip", "afterVectorLow", "(I)V"⟩
theorem w_C_afterVectorLow : Cond.code y_C_afterVectorLow c_C_afterVectorLow 2 none ∈ ALL := in_ALL (List.mem_append_right _ (List.mem_append_left _ (List.mem_of_getElem? (i := 200) rfl))) rfl
abbrev c_C_afterResetStack : ByteArray := prog_1_method_43_code
abbrev y_C_afterResetStack : MethodName := ⟨"ClockedChip", "afterResetStack", "()V"⟩
theorem w_C_afterResetStack : Cond.code y_C_afterResetStack c_C_afterResetStack 1 none ∈ ALL := in_ALL (List.mem_append_right _ (List.mem_append_left _ (List.mem_of_getElem? (i := 210) rfl))) rfl
abbrev c_C_afterResetLow : ByteArray := prog_1_method_44_code
abbrev y_C_afterResetLow : MethodName := ⟨"ClockedChip", "afterResetLow", "(I)V"⟩
theorem w_C_afterResetLow : Cond.code y_C_afterResetLow c_C_afterResetLow 2 none ∈ ALL := in_ALL (List.mem_append_right _ (List.mem_append_left _ (List.mem_of_getElem? (i := 216) rfl))) rfl
abbrev c_C_reset : ByteArray := prog_1_method_7_code
abbrev y_C_reset : MethodName := ⟨"ClockedChip", "reset", "()V"⟩
theorem w_C_reset : Cond.code y_C_reset c_C_reset 1 none ∈ ALL := in_ALL (List.mem_append_right _ (List.mem_append_left _ (List.mem_of_getElem? (i := 221) rfl))) rfl
abbrev c_L_cycles : ByteArray := method_3_code
abbrev y_L_cycles : MethodName := ⟨"ClockedChipLaw", "cycles", "(LClockedChip;I[J)I"⟩
abbrev c_C_cycles : ByteArray := prog_1_method_5_code
abbrev y_C_cycles : MethodName := ⟨"ClockedChip", "cycles", "(I)I"⟩
theorem w_C_cycles : Cond.code y_C_cycles c_C_cycles 4 (some .int) ∈ ALL := in_ALL (List.mem_append_right _ (List.mem_append_left _ (List.mem_of_getElem? (i := 231) rfl))) rfl
abbrev c_L_pin : ByteArray := method_4_code
abbrev y_L_pin : MethodName := ⟨"ClockedChipLaw", "pin", "(LClockedChip;IZ[J)I"⟩
abbrev c_C_pin : ByteArray := prog_1_method_6_code
abbrev y_C_pin : MethodName := ⟨"ClockedChip", "pin", "(IZ)Z"⟩
theorem w_C_pin : Cond.code y_C_pin c_C_pin 4 (some .boolean) ∈ ALL := in_ALL (List.mem_append_right _ (List.mem_append_right _ (List.mem_append_left _ (List.mem_of_getElem? (i := 62) rfl)))) rfl
abbrev c_C_pinWentOn : ByteArray := prog_1_method_10_code
abbrev y_C_pinWentOn : MethodName := ⟨"ClockedChip", "pinWentOn", "(I)V"⟩
theorem w_C_pinWentOn : Cond.code y_C_pinWentOn c_C_pinWentOn 2 none ∈ ALL := in_ALL (List.mem_append_right _ (List.mem_append_right _ (List.mem_append_left _ (List.mem_of_getElem? (i := 81) rfl)))) rfl
abbrev c_L_register : ByteArray := method_5_code
abbrev y_L_register : MethodName := ⟨"ClockedChipLaw", "register", "(LClockedChip;I[J)I"⟩
abbrev c_C_register : ByteArray := prog_1_method_8_code
abbrev y_C_register : MethodName := ⟨"ClockedChip", "register", "(I)I"⟩
theorem w_C_register : Cond.code y_C_register c_C_register 2 (some .int) ∈ ALL := in_ALL (List.mem_append_right _ (List.mem_append_right _ (List.mem_append_left _ (List.mem_of_getElem? (i := 88) rfl)))) rfl
abbrev c_L_set : ByteArray := method_6_code
abbrev y_L_set : MethodName := ⟨"ClockedChipLaw", "set", "(LClockedChip;II)I"⟩
abbrev c_C_set : ByteArray := prog_1_method_9_code
abbrev y_C_set : MethodName := ⟨"ClockedChip", "set", "(II)V"⟩
theorem w_C_set : Cond.code y_C_set c_C_set 3 none ∈ ALL := in_ALL (List.mem_append_right _ (List.mem_append_right _ (List.mem_append_left _ (List.mem_of_getElem? (i := 96) rfl)))) rfl
abbrev c_M_init : ByteArray := prog_7_method_1_code
abbrev y_M_init : MethodName := ⟨"ClockedChipModel", "<init>", "()V"⟩
theorem w_M_init : Cond.code y_M_init c_M_init 1 none ∈ ALL := in_ALL (List.mem_append_right _ (List.mem_append_right _ (List.mem_append_left _ (List.mem_of_getElem? (i := 116) rfl)))) rfl
abbrev c_M_thrown : ByteArray := prog_7_method_2_code
abbrev y_M_thrown : MethodName := ⟨"ClockedChipModel", "thrown", "()I"⟩
theorem w_M_thrown : Cond.code y_M_thrown c_M_thrown 1 (some .int) ∈ ALL := in_ALL (List.mem_append_right _ (List.mem_append_right _ (List.mem_append_left _ (List.mem_of_getElem? (i := 209) rfl)))) rfl
abbrev c_M_poke : ByteArray := prog_7_method_3_code
abbrev y_M_poke : MethodName := ⟨"ClockedChipModel", "poke", "(II)I"⟩
theorem w_M_poke : Cond.code y_M_poke c_M_poke 4 (some .int) ∈ ALL := in_ALL (List.mem_append_right _ (List.mem_append_right _ (List.mem_append_left _ (List.mem_of_getElem? (i := 213) rfl)))) rfl
abbrev c_M_peek : ByteArray := prog_7_method_4_code
abbrev y_M_peek : MethodName := ⟨"ClockedChipModel", "peek", "(I)I"⟩
theorem w_M_peek : Cond.code y_M_peek c_M_peek 2 (some .int) ∈ ALL := in_ALL (List.mem_append_right _ (List.mem_append_right _ (List.mem_append_left _ (List.mem_of_getElem? (i := 217) rfl)))) rfl
abbrev c_M_pin : ByteArray := prog_7_method_8_code
abbrev y_M_pin : MethodName := ⟨"ClockedChipModel", "pin", "(IZ)Z"⟩
theorem w_M_pin : Cond.code y_M_pin c_M_pin 5 (some .boolean) ∈ ALL := in_ALL (List.mem_append_right _ (List.mem_append_right _ (List.mem_append_left _ (List.mem_of_getElem? (i := 221) rfl)))) rfl
abbrev c_M_reset : ByteArray := prog_7_method_9_code
abbrev y_M_reset : MethodName := ⟨"ClockedChipModel", "reset", "()V"⟩
theorem w_M_reset : Cond.code y_M_reset c_M_reset 1 none ∈ ALL := in_ALL (List.mem_append_right _ (List.mem_append_right _ (List.mem_append_left _ (List.mem_of_getElem? (i := 225) rfl)))) rfl
abbrev c_M_cycle : ByteArray := prog_7_method_38_code
abbrev y_M_cycle : MethodName := ⟨"ClockedChipModel", "cycle", "()I"⟩
theorem w_M_cycle : Cond.code y_M_cycle c_M_cycle 1 (some .int) ∈ ALL := in_ALL (List.mem_append_right _ (List.mem_append_right _ (List.mem_append_left _ (List.mem_of_getElem? (i := 229) rfl)))) rfl
abbrev c_M_clock : ByteArray := prog_7_method_37_code
abbrev y_M_clock : MethodName := ⟨"ClockedChipModel", "clock", "()I"⟩
theorem w_M_clock : Cond.code y_M_clock c_M_clock 4 (some .int) ∈ ALL := in_ALL (List.mem_append_right _ (List.mem_append_right _ (List.mem_append_left _ (List.mem_of_getElem? (i := 233) rfl)))) rfl
abbrev c_M_action : ByteArray := prog_7_method_22_code
abbrev y_M_action : MethodName := ⟨"ClockedChipModel", "action", "()I"⟩
theorem w_M_action : Cond.code y_M_action c_M_action 5 (some .int) ∈ ALL := in_ALL (List.mem_append_right _ (List.mem_append_right _ (List.mem_append_left _ (List.mem_of_getElem? (i := 237) rfl)))) rfl
abbrev c_M_digit : ByteArray := prog_7_method_17_code
abbrev y_M_digit : MethodName := ⟨"ClockedChipModel", "digit", "(JI)I"⟩
theorem w_M_digit : Cond.code y_M_digit c_M_digit 6 (some .int) ∈ ALL := in_ALL (List.mem_append_right _ (List.mem_append_right _ (List.mem_append_right _ (List.mem_of_getElem? (i := 1) rfl)))) rfl
abbrev c_M_plainRow : ByteArray := prog_7_method_18_code
abbrev y_M_plainRow : MethodName := ⟨"ClockedChipModel", "plainRow", "()J"⟩
theorem w_M_plainRow : Cond.code y_M_plainRow c_M_plainRow 1 (some .long) ∈ ALL := in_ALL (List.mem_append_right _ (List.mem_append_right _ (List.mem_append_right _ (List.mem_of_getElem? (i := 7) rfl)))) rfl
abbrev c_M_target : ByteArray := prog_7_method_16_code
abbrev y_M_target : MethodName := ⟨"ClockedChipModel", "target", "()I"⟩
theorem w_M_target : Cond.code y_M_target c_M_target 2 (some .int) ∈ ALL := in_ALL (List.mem_append_right _ (List.mem_append_right _ (List.mem_append_right _ (List.mem_of_getElem? (i := 23) rfl)))) rfl
abbrev c_M_addressRow : ByteArray := prog_7_method_19_code
abbrev y_M_addressRow : MethodName := ⟨"ClockedChipModel", "addressRow", "()J"⟩
theorem w_M_addressRow : Cond.code y_M_addressRow c_M_addressRow 1 (some .long) ∈ ALL := in_ALL (List.mem_append_right _ (List.mem_append_right _ (List.mem_append_right _ (List.mem_of_getElem? (i := 29) rfl)))) rfl
abbrev c_M_lengthOf : ByteArray := prog_7_method_20_code
abbrev y_M_lengthOf : MethodName := ⟨"ClockedChipModel", "lengthOf", "(J)I"⟩
theorem w_M_lengthOf : Cond.code y_M_lengthOf c_M_lengthOf 5 (some .int) ∈ ALL := in_ALL (List.mem_append_right _ (List.mem_append_right _ (List.mem_append_right _ (List.mem_of_getElem? (i := 36) rfl)))) rfl
abbrev c_M_access : ByteArray := prog_7_method_21_code
abbrev y_M_access : MethodName := ⟨"ClockedChipModel", "access", "(I)I"⟩
theorem w_M_access : Cond.code y_M_access c_M_access 2 (some .int) ∈ ALL := in_ALL (List.mem_append_right _ (List.mem_append_right _ (List.mem_append_right _ (List.mem_of_getElem? (i := 40) rfl)))) rfl
abbrev c_M_isChange : ByteArray := prog_7_method_10_code
abbrev y_M_isChange : MethodName := ⟨"ClockedChipModel", "isChange", "()Z"⟩
theorem w_M_isChange : Cond.code y_M_isChange c_M_isChange 1 (some .boolean) ∈ ALL := in_ALL (List.mem_append_right _ (List.mem_append_right _ (List.mem_append_right _ (List.mem_of_getElem? (i := 44) rfl)))) rfl
abbrev c_M_plan : ByteArray := prog_7_method_25_code
abbrev y_M_plan : MethodName := ⟨"ClockedChipModel", "plan", "(I)V"⟩
theorem w_M_plan : Cond.code y_M_plan c_M_plan 2 none ∈ ALL := in_ALL (List.mem_append_right _ (List.mem_append_right _ (List.mem_append_right _ (List.mem_of_getElem? (i := 48) rfl)))) rfl
abbrev c_M_reads : ByteArray := prog_7_method_23_code
abbrev y_M_reads : MethodName := ⟨"ClockedChipModel", "reads", "(I)V"⟩
theorem w_M_reads : Cond.code y_M_reads c_M_reads 2 none ∈ ALL := in_ALL (List.mem_append_right _ (List.mem_append_right _ (List.mem_append_right _ (List.mem_of_getElem? (i := 52) rfl)))) rfl
abbrev c_M_half : ByteArray := prog_7_method_14_code
abbrev y_M_half : MethodName := ⟨"ClockedChipModel", "half", "()I"⟩
theorem w_M_half : Cond.code y_M_half c_M_half 1 (some .int) ∈ ALL := in_ALL (List.mem_append_right _ (List.mem_append_right _ (List.mem_append_right _ (List.mem_of_getElem? (i := 56) rfl)))) rfl
abbrev c_M_operand : ByteArray := prog_7_method_12_code
abbrev y_M_operand : MethodName := ⟨"ClockedChipModel", "operand", "()I"⟩
theorem w_M_operand : Cond.code y_M_operand c_M_operand 1 (some .int) ∈ ALL := in_ALL (List.mem_append_right _ (List.mem_append_right _ (List.mem_append_right _ (List.mem_of_getElem? (i := 60) rfl)))) rfl
abbrev c_M_planWrite : ByteArray := prog_7_method_26_code
abbrev y_M_planWrite : MethodName := ⟨"ClockedChipModel", "planWrite", "(I)V"⟩
theorem w_M_planWrite : Cond.code y_M_planWrite c_M_planWrite 2 none ∈ ALL := in_ALL (List.mem_append_right _ (List.mem_append_right _ (List.mem_append_right _ (List.mem_of_getElem? (i := 68) rfl)))) rfl
abbrev c_M_push : ByteArray := prog_7_method_24_code
abbrev y_M_push : MethodName := ⟨"ClockedChipModel", "push", "(I)V"⟩
theorem w_M_push : Cond.code y_M_push c_M_push 2 none ∈ ALL := in_ALL (List.mem_append_right _ (List.mem_append_right _ (List.mem_append_right _ (List.mem_of_getElem? (i := 72) rfl)))) rfl
abbrev c_M_happen : ByteArray := prog_7_method_28_code
abbrev y_M_happen : MethodName := ⟨"ClockedChipModel", "happen", "(II)V"⟩
theorem w_M_happen : Cond.code y_M_happen c_M_happen 3 none ∈ ALL := in_ALL (List.mem_append_right _ (List.mem_append_right _ (List.mem_append_right _ (List.mem_of_getElem? (i := 76) rfl)))) rfl
abbrev c_M_next : ByteArray := prog_7_method_27_code
abbrev y_M_next : MethodName := ⟨"ClockedChipModel", "next", "()V"⟩
theorem w_M_next : Cond.code y_M_next c_M_next 1 none ∈ ALL := in_ALL (List.mem_append_right _ (List.mem_append_right _ (List.mem_append_right _ (List.mem_of_getElem? (i := 80) rfl)))) rfl
abbrev c_M_isJam : ByteArray := prog_7_method_11_code
abbrev y_M_isJam : MethodName := ⟨"ClockedChipModel", "isJam", "()Z"⟩
theorem w_M_isJam : Cond.code y_M_isJam c_M_isJam 2 (some .boolean) ∈ ALL := in_ALL (List.mem_append_right _ (List.mem_append_right _ (List.mem_append_right _ (List.mem_of_getElem? (i := 84) rfl)))) rfl
abbrev c_M_isTaken : ByteArray := prog_7_method_15_code
abbrev y_M_isTaken : MethodName := ⟨"ClockedChipModel", "isTaken", "()Z"⟩
theorem w_M_isTaken : Cond.code y_M_isTaken c_M_isTaken 3 (some .boolean) ∈ ALL := in_ALL (List.mem_append_right _ (List.mem_append_right _ (List.mem_append_right _ (List.mem_of_getElem? (i := 88) rfl)))) rfl
abbrev c_M_is : ByteArray := prog_7_method_5_code
abbrev y_M_is : MethodName := ⟨"ClockedChipModel", "is", "(I)Z"⟩
theorem w_M_is : Cond.code y_M_is c_M_is 2 (some .boolean) ∈ ALL := in_ALL (List.mem_append_right _ (List.mem_append_right _ (List.mem_append_right _ (List.mem_of_getElem? (i := 92) rfl)))) rfl
abbrev c_M_isHalf : ByteArray := prog_7_method_13_code
abbrev y_M_isHalf : MethodName := ⟨"ClockedChipModel", "isHalf", "()Z"⟩
theorem w_M_isHalf : Cond.code y_M_isHalf c_M_isHalf 1 (some .boolean) ∈ ALL := in_ALL (List.mem_append_right _ (List.mem_append_right _ (List.mem_append_right _ (List.mem_of_getElem? (i := 96) rfl)))) rfl
abbrev c_M_use : ByteArray := prog_7_method_33_code
abbrev y_M_use : MethodName := ⟨"ClockedChipModel", "use", "(I)V"⟩
theorem w_M_use : Cond.code y_M_use c_M_use 3 none ∈ ALL := in_ALL (List.mem_append_right _ (List.mem_append_right _ (List.mem_append_right _ (List.mem_of_getElem? (i := 100) rfl)))) rfl
abbrev c_M_mark : ByteArray := prog_7_method_7_code
abbrev y_M_mark : MethodName := ⟨"ClockedChipModel", "mark", "(I)I"⟩
theorem w_M_mark : Cond.code y_M_mark c_M_mark 2 (some .int) ∈ ALL := in_ALL (List.mem_append_right _ (List.mem_append_right _ (List.mem_append_right _ (List.mem_of_getElem? (i := 104) rfl)))) rfl
abbrev c_M_put : ByteArray := prog_7_method_6_code
abbrev y_M_put : MethodName := ⟨"ClockedChipModel", "put", "(IZ)V"⟩
theorem w_M_put : Cond.code y_M_put c_M_put 3 none ∈ ALL := in_ALL (List.mem_append_right _ (List.mem_append_right _ (List.mem_append_right _ (List.mem_of_getElem? (i := 108) rfl)))) rfl
abbrev c_M_addDecimal : ByteArray := prog_7_method_35_code
abbrev y_M_addDecimal : MethodName := ⟨"ClockedChipModel", "addDecimal", "(I)I"⟩
theorem w_M_addDecimal : Cond.code y_M_addDecimal c_M_addDecimal 5 (some .int) ∈ ALL := in_ALL (List.mem_append_right _ (List.mem_append_right _ (List.mem_append_right _ (List.mem_of_getElem? (i := 112) rfl)))) rfl
abbrev c_M_add : ByteArray := prog_7_method_34_code
abbrev y_M_add : MethodName := ⟨"ClockedChipModel", "add", "(I)I"⟩
theorem w_M_add : Cond.code y_M_add c_M_add 3 (some .int) ∈ ALL := in_ALL (List.mem_append_right _ (List.mem_append_right _ (List.mem_append_right _ (List.mem_of_getElem? (i := 116) rfl)))) rfl
abbrev c_M_subtract : ByteArray := prog_7_method_36_code
abbrev y_M_subtract : MethodName := ⟨"ClockedChipModel", "subtract", "(I)I"⟩
theorem w_M_subtract : Cond.code y_M_subtract c_M_subtract 6 (some .int) ∈ ALL := in_ALL (List.mem_append_right _ (List.mem_append_right _ (List.mem_append_right _ (List.mem_of_getElem? (i := 120) rfl)))) rfl
abbrev c_M_changed : ByteArray := prog_7_method_32_code
abbrev y_M_changed : MethodName := ⟨"ClockedChipModel", "changed", "(I)I"⟩
theorem w_M_changed : Cond.code y_M_changed c_M_changed 2 (some .int) ∈ ALL := in_ALL (List.mem_append_right _ (List.mem_append_right _ (List.mem_append_right _ (List.mem_of_getElem? (i := 124) rfl)))) rfl
abbrev c_M_happenStack : ByteArray := prog_7_method_29_code
abbrev y_M_happenStack : MethodName := ⟨"ClockedChipModel", "happenStack", "(II)V"⟩
theorem w_M_happenStack : Cond.code y_M_happenStack c_M_happenStack 5 none ∈ ALL := in_ALL (List.mem_append_right _ (List.mem_append_right _ (List.mem_append_right _ (List.mem_of_getElem? (i := 128) rfl)))) rfl
abbrev c_M_idle : ByteArray := prog_7_method_30_code
abbrev y_M_idle : MethodName := ⟨"ClockedChipModel", "idle", "()V"⟩
theorem w_M_idle : Cond.code y_M_idle c_M_idle 1 none ∈ ALL := in_ALL (List.mem_append_right _ (List.mem_append_right _ (List.mem_append_right _ (List.mem_of_getElem? (i := 132) rfl)))) rfl
abbrev c_M_plain : ByteArray := prog_7_method_31_code
abbrev y_M_plain : MethodName := ⟨"ClockedChipModel", "plain", "()V"⟩
theorem w_M_plain : Cond.code y_M_plain c_M_plain 1 none ∈ ALL := in_ALL (List.mem_append_right _ (List.mem_append_right _ (List.mem_append_right _ (List.mem_of_getElem? (i := 136) rfl)))) rfl
abbrev c_M_cycles : ByteArray := prog_7_method_39_code
abbrev y_M_cycles : MethodName := ⟨"ClockedChipModel", "cycles", "(I)I"⟩
theorem w_M_cycles : Cond.code y_M_cycles c_M_cycles 4 (some .int) ∈ ALL := in_ALL (List.mem_append_right _ (List.mem_append_right _ (List.mem_append_right _ (List.mem_of_getElem? (i := 140) rfl)))) rfl
abbrev c_M_register : ByteArray := prog_7_method_40_code
abbrev y_M_register : MethodName := ⟨"ClockedChipModel", "register", "(I)I"⟩
theorem w_M_register : Cond.code y_M_register c_M_register 2 (some .int) ∈ ALL := in_ALL (List.mem_append_right _ (List.mem_append_right _ (List.mem_append_right _ (List.mem_of_getElem? (i := 144) rfl)))) rfl
abbrev c_M_set : ByteArray := prog_7_method_41_code
abbrev y_M_set : MethodName := ⟨"ClockedChipModel", "set", "(II)V"⟩
theorem w_M_set : Cond.code y_M_set c_M_set 3 none ∈ ALL := in_ALL (List.mem_append_right _ (List.mem_append_right _ (List.mem_append_right _ (List.mem_of_getElem? (i := 148) rfl)))) rfl

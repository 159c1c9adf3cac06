section
-- ===== PART A: goes FIRST, ahead of the names: the tables' words, and 'selects' of the private methods out of them =====
/-- a private method of a class that the tables say can be made, by its rows of tables_1 -/
def lw_okq (q : MethodName × Nat) : Prop := (q.1.cls ≠ "java/lang/invoke/MethodHandle" ∧ q.1.cls ≠ "java/lang/invoke/VarHandle") ∧ Cond.instantiable q.1.cls q.2 ∈ tables_1 ∧ Cond.privateMethod q.1 ∈ tables_1 ∧ Cond.instanceMethod q.1 ∈ tables_1
theorem lw_p0 : lw_okq (⟨"ClockedChip", "runCycle", "()I"⟩, 13) := ⟨⟨by decide +kernel, by decide +kernel⟩, List.mem_of_getElem? (i := 15) (by decide +kernel), List.mem_of_getElem? (i := 111) (by decide +kernel), List.mem_of_getElem? (i := 112) (by decide +kernel)⟩
theorem lw_p1 : lw_okq (⟨"ClockedChip", "addressOfStep", "()I"⟩, 13) := ⟨⟨by decide +kernel, by decide +kernel⟩, List.mem_of_getElem? (i := 15) (by decide +kernel), List.mem_of_getElem? (i := 115) (by decide +kernel), List.mem_of_getElem? (i := 116) (by decide +kernel)⟩
theorem lw_p2 : lw_okq (⟨"ClockedChip", "byteToWrite", "()I"⟩, 13) := ⟨⟨by decide +kernel, by decide +kernel⟩, List.mem_of_getElem? (i := 15) (by decide +kernel), List.mem_of_getElem? (i := 123) (by decide +kernel), List.mem_of_getElem? (i := 124) (by decide +kernel)⟩
theorem lw_p3 : lw_okq (⟨"ClockedChip$Registers", "changed", "(II)I"⟩, 6) := ⟨⟨by decide +kernel, by decide +kernel⟩, List.mem_of_getElem? (i := 23) (by decide +kernel), List.mem_of_getElem? (i := 135) (by decide +kernel), List.mem_of_getElem? (i := 136) (by decide +kernel)⟩
theorem lw_p4 : lw_okq (⟨"ClockedChip$Registers", "p", "()I"⟩, 6) := ⟨⟨by decide +kernel, by decide +kernel⟩, List.mem_of_getElem? (i := 23) (by decide +kernel), List.mem_of_getElem? (i := 139) (by decide +kernel), List.mem_of_getElem? (i := 140) (by decide +kernel)⟩
theorem lw_p5 : lw_okq (⟨"ClockedChip", "afterWrite", "()V"⟩, 13) := ⟨⟨by decide +kernel, by decide +kernel⟩, List.mem_of_getElem? (i := 15) (by decide +kernel), List.mem_of_getElem? (i := 145) (by decide +kernel), List.mem_of_getElem? (i := 146) (by decide +kernel)⟩
theorem lw_p6 : lw_okq (⟨"ClockedChip$Registers", "flagsOfChange", "(II)V"⟩, 6) := ⟨⟨by decide +kernel, by decide +kernel⟩, List.mem_of_getElem? (i := 23) (by decide +kernel), List.mem_of_getElem? (i := 151) (by decide +kernel), List.mem_of_getElem? (i := 152) (by decide +kernel)⟩
theorem lw_p7 : lw_okq (⟨"ClockedChip$Registers", "put", "(IZ)V"⟩, 6) := ⟨⟨by decide +kernel, by decide +kernel⟩, List.mem_of_getElem? (i := 23) (by decide +kernel), List.mem_of_getElem? (i := 155) (by decide +kernel), List.mem_of_getElem? (i := 156) (by decide +kernel)⟩
theorem lw_p8 : lw_okq (⟨"ClockedChip$Registers", "putNz", "(I)V"⟩, 6) := ⟨⟨by decide +kernel, by decide +kernel⟩, List.mem_of_getElem? (i := 23) (by decide +kernel), List.mem_of_getElem? (i := 160) (by decide +kernel), List.mem_of_getElem? (i := 161) (by decide +kernel)⟩
theorem lw_p9 : lw_okq (⟨"ClockedChip", "end", "()V"⟩, 13) := ⟨⟨by decide +kernel, by decide +kernel⟩, List.mem_of_getElem? (i := 15) (by decide +kernel), List.mem_of_getElem? (i := 164) (by decide +kernel), List.mem_of_getElem? (i := 165) (by decide +kernel)⟩
theorem lw_p10 : lw_okq (⟨"ClockedChip$Registers", "has", "(I)Z"⟩, 6) := ⟨⟨by decide +kernel, by decide +kernel⟩, List.mem_of_getElem? (i := 23) (by decide +kernel), List.mem_of_getElem? (i := 168) (by decide +kernel), List.mem_of_getElem? (i := 169) (by decide +kernel)⟩
theorem lw_p11 : lw_okq (⟨"ClockedChip", "begin", "(LClockedChip$Kind;LClockedChip$Step;)V"⟩, 13) := ⟨⟨by decide +kernel, by decide +kernel⟩, List.mem_of_getElem? (i := 15) (by decide +kernel), List.mem_of_getElem? (i := 176) (by decide +kernel), List.mem_of_getElem? (i := 177) (by decide +kernel)⟩
theorem lw_p12 : lw_okq (⟨"ClockedChip$Registers", "moveStack", "(I)V"⟩, 6) := ⟨⟨by decide +kernel, by decide +kernel⟩, List.mem_of_getElem? (i := 23) (by decide +kernel), List.mem_of_getElem? (i := 180) (by decide +kernel), List.mem_of_getElem? (i := 181) (by decide +kernel)⟩
theorem lw_p13 : lw_okq (⟨"ClockedChip", "afterRead", "(I)V"⟩, 13) := ⟨⟨by decide +kernel, by decide +kernel⟩, List.mem_of_getElem? (i := 15) (by decide +kernel), List.mem_of_getElem? (i := 195) (by decide +kernel), List.mem_of_getElem? (i := 196) (by decide +kernel)⟩
theorem lw_p14 : lw_okq (⟨"ClockedChip", "afterFetch", "(I)V"⟩, 13) := ⟨⟨by decide +kernel, by decide +kernel⟩, List.mem_of_getElem? (i := 15) (by decide +kernel), List.mem_of_getElem? (i := 199) (by decide +kernel), List.mem_of_getElem? (i := 200) (by decide +kernel)⟩
theorem lw_p15 : lw_okq (⟨"ClockedChip$Registers", "nextPc", "()V"⟩, 6) := ⟨⟨by decide +kernel, by decide +kernel⟩, List.mem_of_getElem? (i := 23) (by decide +kernel), List.mem_of_getElem? (i := 203) (by decide +kernel), List.mem_of_getElem? (i := 204) (by decide +kernel)⟩
def lw_privs_1 : List (MethodName × Nat) := [(⟨"ClockedChip", "runCycle", "()I"⟩, 13), (⟨"ClockedChip", "addressOfStep", "()I"⟩, 13), (⟨"ClockedChip", "byteToWrite", "()I"⟩, 13), (⟨"ClockedChip$Registers", "changed", "(II)I"⟩, 6), (⟨"ClockedChip$Registers", "p", "()I"⟩, 6), (⟨"ClockedChip", "afterWrite", "()V"⟩, 13), (⟨"ClockedChip$Registers", "flagsOfChange", "(II)V"⟩, 6), (⟨"ClockedChip$Registers", "put", "(IZ)V"⟩, 6), (⟨"ClockedChip$Registers", "putNz", "(I)V"⟩, 6), (⟨"ClockedChip", "end", "()V"⟩, 13), (⟨"ClockedChip$Registers", "has", "(I)Z"⟩, 6), (⟨"ClockedChip", "begin", "(LClockedChip$Kind;LClockedChip$Step;)V"⟩, 13), (⟨"ClockedChip$Registers", "moveStack", "(I)V"⟩, 6), (⟨"ClockedChip", "afterRead", "(I)V"⟩, 13), (⟨"ClockedChip", "afterFetch", "(I)V"⟩, 13), (⟨"ClockedChip$Registers", "nextPc", "()V"⟩, 6)]
theorem lw_r1 : ∀ q ∈ lw_privs_1, lw_okq q := List.forall_mem_cons.mpr ⟨lw_p0, List.forall_mem_cons.mpr ⟨lw_p1, List.forall_mem_cons.mpr ⟨lw_p2, List.forall_mem_cons.mpr ⟨lw_p3, List.forall_mem_cons.mpr ⟨lw_p4, List.forall_mem_cons.mpr ⟨lw_p5, List.forall_mem_cons.mpr ⟨lw_p6, List.forall_mem_cons.mpr ⟨lw_p7, List.forall_mem_cons.mpr ⟨lw_p8, List.forall_mem_cons.mpr ⟨lw_p9, List.forall_mem_cons.mpr ⟨lw_p10, List.forall_mem_cons.mpr ⟨lw_p11, List.forall_mem_cons.mpr ⟨lw_p12, List.forall_mem_cons.mpr ⟨lw_p13, List.forall_mem_cons.mpr ⟨lw_p14, List.forall_mem_cons.mpr ⟨lw_p15, fun _ h => absurd h List.not_mem_nil⟩⟩⟩⟩⟩⟩⟩⟩⟩⟩⟩⟩⟩⟩⟩⟩
theorem lw_p16 : lw_okq (⟨"ClockedChip", "kindWithoutOperand", "()LClockedChip$Kind;"⟩, 13) := ⟨⟨by decide +kernel, by decide +kernel⟩, List.mem_of_getElem? (i := 15) (by decide +kernel), List.mem_of_getElem? (i := 208) (by decide +kernel), List.mem_of_getElem? (i := 209) (by decide +kernel)⟩
theorem lw_p17 : lw_okq (⟨"ClockedChip", "kindWithOperand", "()LClockedChip$Kind;"⟩, 13) := ⟨⟨by decide +kernel, by decide +kernel⟩, List.mem_of_getElem? (i := 15) (by decide +kernel), List.mem_of_getElem? (i := 224) (by decide +kernel), List.mem_of_getElem? (i := 225) (by decide +kernel)⟩
theorem lw_p18 : lw_okq (⟨"ClockedChip", "secondStep", "()LClockedChip$Step;"⟩, 13) := ⟨⟨by decide +kernel, by decide +kernel⟩, List.mem_of_getElem? (i := 15) (by decide +kernel), List.mem_of_getElem? (i := 238) (by decide +kernel), List.mem_of_getElem? (i := 239) (by decide +kernel)⟩
theorem lw_p19 : lw_okq (⟨"ClockedChip", "secondStepByMode", "()LClockedChip$Step;"⟩, 13) := ⟨⟨by decide +kernel, by decide +kernel⟩, List.mem_of_getElem? (i := 15) (by decide +kernel), List.mem_of_getElem? (i := 247) (by decide +kernel), List.mem_of_getElem? (i := 248) (by decide +kernel)⟩
theorem lw_p20 : lw_okq (⟨"ClockedChip$Registers", "operate", "(II)V"⟩, 6) := ⟨⟨by decide +kernel, by decide +kernel⟩, List.mem_of_getElem? (i := 23) (by decide +kernel), List.mem_of_getElem? (i := 265) (by decide +kernel), List.mem_of_getElem? (i := 266) (by decide +kernel)⟩
theorem lw_p21 : lw_okq (⟨"ClockedChip$Registers", "loadA", "(I)V"⟩, 6) := ⟨⟨by decide +kernel, by decide +kernel⟩, List.mem_of_getElem? (i := 23) (by decide +kernel), List.mem_of_getElem? (i := 269) (by decide +kernel), List.mem_of_getElem? (i := 270) (by decide +kernel)⟩
theorem lw_p22 : lw_okq (⟨"ClockedChip$Registers", "add", "(I)V"⟩, 6) := ⟨⟨by decide +kernel, by decide +kernel⟩, List.mem_of_getElem? (i := 23) (by decide +kernel), List.mem_of_getElem? (i := 273) (by decide +kernel), List.mem_of_getElem? (i := 274) (by decide +kernel)⟩
theorem lw_p23 : lw_okq (⟨"ClockedChip$Registers", "addDecimal", "(I)V"⟩, 6) := ⟨⟨by decide +kernel, by decide +kernel⟩, List.mem_of_getElem? (i := 23) (by decide +kernel), List.mem_of_getElem? (i := 278) (by decide +kernel), List.mem_of_getElem? (i := 279) (by decide +kernel)⟩
theorem lw_p24 : lw_okq (⟨"ClockedChip$Registers", "carry", "()I"⟩, 6) := ⟨⟨by decide +kernel, by decide +kernel⟩, List.mem_of_getElem? (i := 23) (by decide +kernel), List.mem_of_getElem? (i := 282) (by decide +kernel), List.mem_of_getElem? (i := 283) (by decide +kernel)⟩
theorem lw_p25 : lw_okq (⟨"ClockedChip$Registers", "differsInSign", "(IZ)Z"⟩, 6) := ⟨⟨by decide +kernel, by decide +kernel⟩, List.mem_of_getElem? (i := 23) (by decide +kernel), List.mem_of_getElem? (i := 286) (by decide +kernel), List.mem_of_getElem? (i := 287) (by decide +kernel)⟩
theorem lw_p26 : lw_okq (⟨"ClockedChip$Registers", "flagsOfSum", "(II)V"⟩, 6) := ⟨⟨by decide +kernel, by decide +kernel⟩, List.mem_of_getElem? (i := 23) (by decide +kernel), List.mem_of_getElem? (i := 290) (by decide +kernel), List.mem_of_getElem? (i := 291) (by decide +kernel)⟩
theorem lw_p27 : lw_okq (⟨"ClockedChip$Registers", "subtract", "(I)V"⟩, 6) := ⟨⟨by decide +kernel, by decide +kernel⟩, List.mem_of_getElem? (i := 23) (by decide +kernel), List.mem_of_getElem? (i := 294) (by decide +kernel), List.mem_of_getElem? (i := 295) (by decide +kernel)⟩
theorem lw_p28 : lw_okq (⟨"ClockedChip$Registers", "decimalDifference", "(I)I"⟩, 6) := ⟨⟨by decide +kernel, by decide +kernel⟩, List.mem_of_getElem? (i := 23) (by decide +kernel), List.mem_of_getElem? (i := 298) (by decide +kernel), List.mem_of_getElem? (i := 299) (by decide +kernel)⟩
theorem lw_p29 : lw_okq (⟨"ClockedChip$Registers", "compare", "(I)V"⟩, 6) := ⟨⟨by decide +kernel, by decide +kernel⟩, List.mem_of_getElem? (i := 23) (by decide +kernel), List.mem_of_getElem? (i := 302) (by decide +kernel), List.mem_of_getElem? (i := 303) (by decide +kernel)⟩
theorem lw_p30 : lw_okq (⟨"ClockedChip$Registers", "loadX", "(I)V"⟩, 6) := ⟨⟨by decide +kernel, by decide +kernel⟩, List.mem_of_getElem? (i := 23) (by decide +kernel), List.mem_of_getElem? (i := 306) (by decide +kernel), List.mem_of_getElem? (i := 307) (by decide +kernel)⟩
theorem lw_p31 : lw_okq (⟨"ClockedChip$Registers", "loadY", "(I)V"⟩, 6) := ⟨⟨by decide +kernel, by decide +kernel⟩, List.mem_of_getElem? (i := 23) (by decide +kernel), List.mem_of_getElem? (i := 310) (by decide +kernel), List.mem_of_getElem? (i := 311) (by decide +kernel)⟩
def lw_privs_2 : List (MethodName × Nat) := [(⟨"ClockedChip", "kindWithoutOperand", "()LClockedChip$Kind;"⟩, 13), (⟨"ClockedChip", "kindWithOperand", "()LClockedChip$Kind;"⟩, 13), (⟨"ClockedChip", "secondStep", "()LClockedChip$Step;"⟩, 13), (⟨"ClockedChip", "secondStepByMode", "()LClockedChip$Step;"⟩, 13), (⟨"ClockedChip$Registers", "operate", "(II)V"⟩, 6), (⟨"ClockedChip$Registers", "loadA", "(I)V"⟩, 6), (⟨"ClockedChip$Registers", "add", "(I)V"⟩, 6), (⟨"ClockedChip$Registers", "addDecimal", "(I)V"⟩, 6), (⟨"ClockedChip$Registers", "carry", "()I"⟩, 6), (⟨"ClockedChip$Registers", "differsInSign", "(IZ)Z"⟩, 6), (⟨"ClockedChip$Registers", "flagsOfSum", "(II)V"⟩, 6), (⟨"ClockedChip$Registers", "subtract", "(I)V"⟩, 6), (⟨"ClockedChip$Registers", "decimalDifference", "(I)I"⟩, 6), (⟨"ClockedChip$Registers", "compare", "(I)V"⟩, 6), (⟨"ClockedChip$Registers", "loadX", "(I)V"⟩, 6), (⟨"ClockedChip$Registers", "loadY", "(I)V"⟩, 6)]
theorem lw_r2 : ∀ q ∈ lw_privs_2, lw_okq q := List.forall_mem_cons.mpr ⟨lw_p16, List.forall_mem_cons.mpr ⟨lw_p17, List.forall_mem_cons.mpr ⟨lw_p18, List.forall_mem_cons.mpr ⟨lw_p19, List.forall_mem_cons.mpr ⟨lw_p20, List.forall_mem_cons.mpr ⟨lw_p21, List.forall_mem_cons.mpr ⟨lw_p22, List.forall_mem_cons.mpr ⟨lw_p23, List.forall_mem_cons.mpr ⟨lw_p24, List.forall_mem_cons.mpr ⟨lw_p25, List.forall_mem_cons.mpr ⟨lw_p26, List.forall_mem_cons.mpr ⟨lw_p27, List.forall_mem_cons.mpr ⟨lw_p28, List.forall_mem_cons.mpr ⟨lw_p29, List.forall_mem_cons.mpr ⟨lw_p30, List.forall_mem_cons.mpr ⟨lw_p31, fun _ h => absurd h List.not_mem_nil⟩⟩⟩⟩⟩⟩⟩⟩⟩⟩⟩⟩⟩⟩⟩⟩
theorem lw_p32 : lw_okq (⟨"ClockedChip", "afterZeroByte", "(I)V"⟩, 13) := ⟨⟨by decide +kernel, by decide +kernel⟩, List.mem_of_getElem? (i := 15) (by decide +kernel), List.mem_of_getElem? (i := 314) (by decide +kernel), List.mem_of_getElem? (i := 315) (by decide +kernel)⟩
theorem lw_p33 : lw_okq (⟨"ClockedChip", "accessOperandAt", "(I)V"⟩, 13) := ⟨⟨by decide +kernel, by decide +kernel⟩, List.mem_of_getElem? (i := 15) (by decide +kernel), List.mem_of_getElem? (i := 318) (by decide +kernel), List.mem_of_getElem? (i := 319) (by decide +kernel)⟩
theorem lw_p34 : lw_okq (⟨"ClockedChip", "afterZeroIdle", "()V"⟩, 13) := ⟨⟨by decide +kernel, by decide +kernel⟩, List.mem_of_getElem? (i := 15) (by decide +kernel), List.mem_of_getElem? (i := 332) (by decide +kernel), List.mem_of_getElem? (i := 333) (by decide +kernel)⟩
theorem lw_p35 : lw_okq (⟨"ClockedChip", "afterPointerLow", "(I)V"⟩, 13) := ⟨⟨by decide +kernel, by decide +kernel⟩, List.mem_of_getElem? (i := 15) (by decide +kernel), List.mem_of_getElem? (i := 336) (by decide +kernel), List.mem_of_getElem? (i := 337) (by decide +kernel)⟩
theorem lw_p36 : lw_okq (⟨"ClockedChip", "afterPointerPage", "(I)V"⟩, 13) := ⟨⟨by decide +kernel, by decide +kernel⟩, List.mem_of_getElem? (i := 15) (by decide +kernel), List.mem_of_getElem? (i := 342) (by decide +kernel), List.mem_of_getElem? (i := 343) (by decide +kernel)⟩
theorem lw_p37 : lw_okq (⟨"ClockedChip", "accessIndexed", "(II)V"⟩, 13) := ⟨⟨by decide +kernel, by decide +kernel⟩, List.mem_of_getElem? (i := 15) (by decide +kernel), List.mem_of_getElem? (i := 346) (by decide +kernel), List.mem_of_getElem? (i := 347) (by decide +kernel)⟩
theorem lw_p38 : lw_okq (⟨"ClockedChip", "afterFarLow", "(I)V"⟩, 13) := ⟨⟨by decide +kernel, by decide +kernel⟩, List.mem_of_getElem? (i := 15) (by decide +kernel), List.mem_of_getElem? (i := 352) (by decide +kernel), List.mem_of_getElem? (i := 353) (by decide +kernel)⟩
theorem lw_p39 : lw_okq (⟨"ClockedChip", "afterFarPage", "(I)V"⟩, 13) := ⟨⟨by decide +kernel, by decide +kernel⟩, List.mem_of_getElem? (i := 15) (by decide +kernel), List.mem_of_getElem? (i := 358) (by decide +kernel), List.mem_of_getElem? (i := 359) (by decide +kernel)⟩
theorem lw_p40 : lw_okq (⟨"ClockedChip", "goTo", "(I)V"⟩, 13) := ⟨⟨by decide +kernel, by decide +kernel⟩, List.mem_of_getElem? (i := 15) (by decide +kernel), List.mem_of_getElem? (i := 362) (by decide +kernel), List.mem_of_getElem? (i := 363) (by decide +kernel)⟩
theorem lw_p41 : lw_okq (⟨"ClockedChip", "afterChangeRead", "(I)V"⟩, 13) := ⟨⟨by decide +kernel, by decide +kernel⟩, List.mem_of_getElem? (i := 15) (by decide +kernel), List.mem_of_getElem? (i := 366) (by decide +kernel), List.mem_of_getElem? (i := 367) (by decide +kernel)⟩
theorem lw_p42 : lw_okq (⟨"ClockedChip", "afterBranchDistance", "(I)V"⟩, 13) := ⟨⟨by decide +kernel, by decide +kernel⟩, List.mem_of_getElem? (i := 15) (by decide +kernel), List.mem_of_getElem? (i := 372) (by decide +kernel), List.mem_of_getElem? (i := 373) (by decide +kernel)⟩
theorem lw_p43 : lw_okq (⟨"ClockedChip$Registers", "takesBranch", "(I)Z"⟩, 6) := ⟨⟨by decide +kernel, by decide +kernel⟩, List.mem_of_getElem? (i := 23) (by decide +kernel), List.mem_of_getElem? (i := 376) (by decide +kernel), List.mem_of_getElem? (i := 377) (by decide +kernel)⟩
theorem lw_p44 : lw_okq (⟨"ClockedChip", "afterBranchIdle", "()V"⟩, 13) := ⟨⟨by decide +kernel, by decide +kernel⟩, List.mem_of_getElem? (i := 15) (by decide +kernel), List.mem_of_getElem? (i := 382) (by decide +kernel), List.mem_of_getElem? (i := 383) (by decide +kernel)⟩
theorem lw_p45 : lw_okq (⟨"ClockedChip", "afterBreakNext", "()V"⟩, 13) := ⟨⟨by decide +kernel, by decide +kernel⟩, List.mem_of_getElem? (i := 15) (by decide +kernel), List.mem_of_getElem? (i := 389) (by decide +kernel), List.mem_of_getElem? (i := 390) (by decide +kernel)⟩
theorem lw_p46 : lw_okq (⟨"ClockedChip", "afterPcIdle", "()V"⟩, 13) := ⟨⟨by decide +kernel, by decide +kernel⟩, List.mem_of_getElem? (i := 15) (by decide +kernel), List.mem_of_getElem? (i := 395) (by decide +kernel), List.mem_of_getElem? (i := 396) (by decide +kernel)⟩
theorem lw_p47 : lw_okq (⟨"ClockedChip$Registers", "operateAlone", "(I)V"⟩, 6) := ⟨⟨by decide +kernel, by decide +kernel⟩, List.mem_of_getElem? (i := 23) (by decide +kernel), List.mem_of_getElem? (i := 399) (by decide +kernel), List.mem_of_getElem? (i := 400) (by decide +kernel)⟩
def lw_privs_3 : List (MethodName × Nat) := [(⟨"ClockedChip", "afterZeroByte", "(I)V"⟩, 13), (⟨"ClockedChip", "accessOperandAt", "(I)V"⟩, 13), (⟨"ClockedChip", "afterZeroIdle", "()V"⟩, 13), (⟨"ClockedChip", "afterPointerLow", "(I)V"⟩, 13), (⟨"ClockedChip", "afterPointerPage", "(I)V"⟩, 13), (⟨"ClockedChip", "accessIndexed", "(II)V"⟩, 13), (⟨"ClockedChip", "afterFarLow", "(I)V"⟩, 13), (⟨"ClockedChip", "afterFarPage", "(I)V"⟩, 13), (⟨"ClockedChip", "goTo", "(I)V"⟩, 13), (⟨"ClockedChip", "afterChangeRead", "(I)V"⟩, 13), (⟨"ClockedChip", "afterBranchDistance", "(I)V"⟩, 13), (⟨"ClockedChip$Registers", "takesBranch", "(I)Z"⟩, 6), (⟨"ClockedChip", "afterBranchIdle", "()V"⟩, 13), (⟨"ClockedChip", "afterBreakNext", "()V"⟩, 13), (⟨"ClockedChip", "afterPcIdle", "()V"⟩, 13), (⟨"ClockedChip$Registers", "operateAlone", "(I)V"⟩, 6)]
theorem lw_r3 : ∀ q ∈ lw_privs_3, lw_okq q := List.forall_mem_cons.mpr ⟨lw_p32, List.forall_mem_cons.mpr ⟨lw_p33, List.forall_mem_cons.mpr ⟨lw_p34, List.forall_mem_cons.mpr ⟨lw_p35, List.forall_mem_cons.mpr ⟨lw_p36, List.forall_mem_cons.mpr ⟨lw_p37, List.forall_mem_cons.mpr ⟨lw_p38, List.forall_mem_cons.mpr ⟨lw_p39, List.forall_mem_cons.mpr ⟨lw_p40, List.forall_mem_cons.mpr ⟨lw_p41, List.forall_mem_cons.mpr ⟨lw_p42, List.forall_mem_cons.mpr ⟨lw_p43, List.forall_mem_cons.mpr ⟨lw_p44, List.forall_mem_cons.mpr ⟨lw_p45, List.forall_mem_cons.mpr ⟨lw_p46, List.forall_mem_cons.mpr ⟨lw_p47, fun _ h => absurd h List.not_mem_nil⟩⟩⟩⟩⟩⟩⟩⟩⟩⟩⟩⟩⟩⟩⟩⟩
theorem lw_p48 : lw_okq (⟨"ClockedChip", "afterStackOrVectorRead", "(I)V"⟩, 13) := ⟨⟨by decide +kernel, by decide +kernel⟩, List.mem_of_getElem? (i := 15) (by decide +kernel), List.mem_of_getElem? (i := 405) (by decide +kernel), List.mem_of_getElem? (i := 406) (by decide +kernel)⟩
theorem lw_p49 : lw_okq (⟨"ClockedChip", "stepAfterStackIdle", "()LClockedChip$Step;"⟩, 13) := ⟨⟨by decide +kernel, by decide +kernel⟩, List.mem_of_getElem? (i := 15) (by decide +kernel), List.mem_of_getElem? (i := 409) (by decide +kernel), List.mem_of_getElem? (i := 410) (by decide +kernel)⟩
theorem lw_p50 : lw_okq (⟨"ClockedChip", "afterPullByte", "(I)V"⟩, 13) := ⟨⟨by decide +kernel, by decide +kernel⟩, List.mem_of_getElem? (i := 15) (by decide +kernel), List.mem_of_getElem? (i := 417) (by decide +kernel), List.mem_of_getElem? (i := 418) (by decide +kernel)⟩
theorem lw_p51 : lw_okq (⟨"ClockedChip$Registers", "takeFlags", "(I)V"⟩, 6) := ⟨⟨by decide +kernel, by decide +kernel⟩, List.mem_of_getElem? (i := 23) (by decide +kernel), List.mem_of_getElem? (i := 421) (by decide +kernel), List.mem_of_getElem? (i := 422) (by decide +kernel)⟩
theorem lw_p52 : lw_okq (⟨"ClockedChip", "afterPullLow", "(I)V"⟩, 13) := ⟨⟨by decide +kernel, by decide +kernel⟩, List.mem_of_getElem? (i := 15) (by decide +kernel), List.mem_of_getElem? (i := 426) (by decide +kernel), List.mem_of_getElem? (i := 427) (by decide +kernel)⟩
theorem lw_p53 : lw_okq (⟨"ClockedChip", "afterPullPage", "(I)V"⟩, 13) := ⟨⟨by decide +kernel, by decide +kernel⟩, List.mem_of_getElem? (i := 15) (by decide +kernel), List.mem_of_getElem? (i := 432) (by decide +kernel), List.mem_of_getElem? (i := 433) (by decide +kernel)⟩
theorem lw_p54 : lw_okq (⟨"ClockedChip", "afterVectorLow", "(I)V"⟩, 13) := ⟨⟨by decide +kernel, by decide +kernel⟩, List.mem_of_getElem? (i := 15) (by decide +kernel), List.mem_of_getElem? (i := 438) (by decide +kernel), List.mem_of_getElem? (i := 439) (by decide +kernel)⟩
theorem lw_p55 : lw_okq (⟨"ClockedChip", "afterResetStack", "()V"⟩, 13) := ⟨⟨by decide +kernel, by decide +kernel⟩, List.mem_of_getElem? (i := 15) (by decide +kernel), List.mem_of_getElem? (i := 448) (by decide +kernel), List.mem_of_getElem? (i := 449) (by decide +kernel)⟩
theorem lw_p56 : lw_okq (⟨"ClockedChip", "afterResetLow", "(I)V"⟩, 13) := ⟨⟨by decide +kernel, by decide +kernel⟩, List.mem_of_getElem? (i := 15) (by decide +kernel), List.mem_of_getElem? (i := 454) (by decide +kernel), List.mem_of_getElem? (i := 455) (by decide +kernel)⟩
theorem lw_p57 : lw_okq (⟨"java/lang/Throwable", "fillInStackTrace", "(I)Ljava/lang/Throwable;"⟩, 6) := ⟨⟨by decide +kernel, by decide +kernel⟩, List.mem_of_getElem? (i := 511) (by decide +kernel), List.mem_of_getElem? (i := 509) (by decide +kernel), List.mem_of_getElem? (i := 510) (by decide +kernel)⟩
theorem lw_p58 : lw_okq (⟨"ClockedChip", "pinWentOn", "(I)V"⟩, 13) := ⟨⟨by decide +kernel, by decide +kernel⟩, List.mem_of_getElem? (i := 15) (by decide +kernel), List.mem_of_getElem? (i := 559) (by decide +kernel), List.mem_of_getElem? (i := 560) (by decide +kernel)⟩
theorem lw_p59 : lw_okq (⟨"ClockedChipModel", "clock", "()I"⟩, 29) := ⟨⟨by decide +kernel, by decide +kernel⟩, List.mem_of_getElem? (i := 593) (by decide +kernel), List.mem_of_getElem? (i := 711) (by decide +kernel), List.mem_of_getElem? (i := 712) (by decide +kernel)⟩
theorem lw_p60 : lw_okq (⟨"ClockedChipModel", "action", "()I"⟩, 29) := ⟨⟨by decide +kernel, by decide +kernel⟩, List.mem_of_getElem? (i := 593) (by decide +kernel), List.mem_of_getElem? (i := 715) (by decide +kernel), List.mem_of_getElem? (i := 716) (by decide +kernel)⟩
theorem lw_p61 : lw_okq (⟨"ClockedChipModel", "plainRow", "()J"⟩, 29) := ⟨⟨by decide +kernel, by decide +kernel⟩, List.mem_of_getElem? (i := 593) (by decide +kernel), List.mem_of_getElem? (i := 725) (by decide +kernel), List.mem_of_getElem? (i := 726) (by decide +kernel)⟩
theorem lw_p62 : lw_okq (⟨"ClockedChipModel", "target", "()I"⟩, 29) := ⟨⟨by decide +kernel, by decide +kernel⟩, List.mem_of_getElem? (i := 593) (by decide +kernel), List.mem_of_getElem? (i := 741) (by decide +kernel), List.mem_of_getElem? (i := 742) (by decide +kernel)⟩
theorem lw_p63 : lw_okq (⟨"ClockedChipModel", "addressRow", "()J"⟩, 29) := ⟨⟨by decide +kernel, by decide +kernel⟩, List.mem_of_getElem? (i := 593) (by decide +kernel), List.mem_of_getElem? (i := 747) (by decide +kernel), List.mem_of_getElem? (i := 748) (by decide +kernel)⟩
def lw_privs_4 : List (MethodName × Nat) := [(⟨"ClockedChip", "afterStackOrVectorRead", "(I)V"⟩, 13), (⟨"ClockedChip", "stepAfterStackIdle", "()LClockedChip$Step;"⟩, 13), (⟨"ClockedChip", "afterPullByte", "(I)V"⟩, 13), (⟨"ClockedChip$Registers", "takeFlags", "(I)V"⟩, 6), (⟨"ClockedChip", "afterPullLow", "(I)V"⟩, 13), (⟨"ClockedChip", "afterPullPage", "(I)V"⟩, 13), (⟨"ClockedChip", "afterVectorLow", "(I)V"⟩, 13), (⟨"ClockedChip", "afterResetStack", "()V"⟩, 13), (⟨"ClockedChip", "afterResetLow", "(I)V"⟩, 13), (⟨"java/lang/Throwable", "fillInStackTrace", "(I)Ljava/lang/Throwable;"⟩, 6), (⟨"ClockedChip", "pinWentOn", "(I)V"⟩, 13), (⟨"ClockedChipModel", "clock", "()I"⟩, 29), (⟨"ClockedChipModel", "action", "()I"⟩, 29), (⟨"ClockedChipModel", "plainRow", "()J"⟩, 29), (⟨"ClockedChipModel", "target", "()I"⟩, 29), (⟨"ClockedChipModel", "addressRow", "()J"⟩, 29)]
theorem lw_r4 : ∀ q ∈ lw_privs_4, lw_okq q := List.forall_mem_cons.mpr ⟨lw_p48, List.forall_mem_cons.mpr ⟨lw_p49, List.forall_mem_cons.mpr ⟨lw_p50, List.forall_mem_cons.mpr ⟨lw_p51, List.forall_mem_cons.mpr ⟨lw_p52, List.forall_mem_cons.mpr ⟨lw_p53, List.forall_mem_cons.mpr ⟨lw_p54, List.forall_mem_cons.mpr ⟨lw_p55, List.forall_mem_cons.mpr ⟨lw_p56, List.forall_mem_cons.mpr ⟨lw_p57, List.forall_mem_cons.mpr ⟨lw_p58, List.forall_mem_cons.mpr ⟨lw_p59, List.forall_mem_cons.mpr ⟨lw_p60, List.forall_mem_cons.mpr ⟨lw_p61, List.forall_mem_cons.mpr ⟨lw_p62, List.forall_mem_cons.mpr ⟨lw_p63, fun _ h => absurd h List.not_mem_nil⟩⟩⟩⟩⟩⟩⟩⟩⟩⟩⟩⟩⟩⟩⟩⟩
theorem lw_p64 : lw_okq (⟨"ClockedChipModel", "access", "(I)I"⟩, 29) := ⟨⟨by decide +kernel, by decide +kernel⟩, List.mem_of_getElem? (i := 593) (by decide +kernel), List.mem_of_getElem? (i := 758) (by decide +kernel), List.mem_of_getElem? (i := 759) (by decide +kernel)⟩
theorem lw_p65 : lw_okq (⟨"ClockedChipModel", "isChange", "()Z"⟩, 29) := ⟨⟨by decide +kernel, by decide +kernel⟩, List.mem_of_getElem? (i := 593) (by decide +kernel), List.mem_of_getElem? (i := 762) (by decide +kernel), List.mem_of_getElem? (i := 763) (by decide +kernel)⟩
theorem lw_p66 : lw_okq (⟨"ClockedChipModel", "plan", "(I)V"⟩, 29) := ⟨⟨by decide +kernel, by decide +kernel⟩, List.mem_of_getElem? (i := 593) (by decide +kernel), List.mem_of_getElem? (i := 766) (by decide +kernel), List.mem_of_getElem? (i := 767) (by decide +kernel)⟩
theorem lw_p67 : lw_okq (⟨"ClockedChipModel", "reads", "(I)V"⟩, 29) := ⟨⟨by decide +kernel, by decide +kernel⟩, List.mem_of_getElem? (i := 593) (by decide +kernel), List.mem_of_getElem? (i := 770) (by decide +kernel), List.mem_of_getElem? (i := 771) (by decide +kernel)⟩
theorem lw_p68 : lw_okq (⟨"ClockedChipModel", "half", "()I"⟩, 29) := ⟨⟨by decide +kernel, by decide +kernel⟩, List.mem_of_getElem? (i := 593) (by decide +kernel), List.mem_of_getElem? (i := 774) (by decide +kernel), List.mem_of_getElem? (i := 775) (by decide +kernel)⟩
theorem lw_p69 : lw_okq (⟨"ClockedChipModel", "operand", "()I"⟩, 29) := ⟨⟨by decide +kernel, by decide +kernel⟩, List.mem_of_getElem? (i := 593) (by decide +kernel), List.mem_of_getElem? (i := 778) (by decide +kernel), List.mem_of_getElem? (i := 779) (by decide +kernel)⟩
theorem lw_p70 : lw_okq (⟨"ClockedChipModel", "planWrite", "(I)V"⟩, 29) := ⟨⟨by decide +kernel, by decide +kernel⟩, List.mem_of_getElem? (i := 593) (by decide +kernel), List.mem_of_getElem? (i := 786) (by decide +kernel), List.mem_of_getElem? (i := 787) (by decide +kernel)⟩
theorem lw_p71 : lw_okq (⟨"ClockedChipModel", "push", "(I)V"⟩, 29) := ⟨⟨by decide +kernel, by decide +kernel⟩, List.mem_of_getElem? (i := 593) (by decide +kernel), List.mem_of_getElem? (i := 790) (by decide +kernel), List.mem_of_getElem? (i := 791) (by decide +kernel)⟩
theorem lw_p72 : lw_okq (⟨"ClockedChipModel", "happen", "(II)V"⟩, 29) := ⟨⟨by decide +kernel, by decide +kernel⟩, List.mem_of_getElem? (i := 593) (by decide +kernel), List.mem_of_getElem? (i := 794) (by decide +kernel), List.mem_of_getElem? (i := 795) (by decide +kernel)⟩
theorem lw_p73 : lw_okq (⟨"ClockedChipModel", "next", "()V"⟩, 29) := ⟨⟨by decide +kernel, by decide +kernel⟩, List.mem_of_getElem? (i := 593) (by decide +kernel), List.mem_of_getElem? (i := 798) (by decide +kernel), List.mem_of_getElem? (i := 799) (by decide +kernel)⟩
theorem lw_p74 : lw_okq (⟨"ClockedChipModel", "isJam", "()Z"⟩, 29) := ⟨⟨by decide +kernel, by decide +kernel⟩, List.mem_of_getElem? (i := 593) (by decide +kernel), List.mem_of_getElem? (i := 802) (by decide +kernel), List.mem_of_getElem? (i := 803) (by decide +kernel)⟩
theorem lw_p75 : lw_okq (⟨"ClockedChipModel", "isTaken", "()Z"⟩, 29) := ⟨⟨by decide +kernel, by decide +kernel⟩, List.mem_of_getElem? (i := 593) (by decide +kernel), List.mem_of_getElem? (i := 806) (by decide +kernel), List.mem_of_getElem? (i := 807) (by decide +kernel)⟩
theorem lw_p76 : lw_okq (⟨"ClockedChipModel", "is", "(I)Z"⟩, 29) := ⟨⟨by decide +kernel, by decide +kernel⟩, List.mem_of_getElem? (i := 593) (by decide +kernel), List.mem_of_getElem? (i := 810) (by decide +kernel), List.mem_of_getElem? (i := 811) (by decide +kernel)⟩
theorem lw_p77 : lw_okq (⟨"ClockedChipModel", "isHalf", "()Z"⟩, 29) := ⟨⟨by decide +kernel, by decide +kernel⟩, List.mem_of_getElem? (i := 593) (by decide +kernel), List.mem_of_getElem? (i := 814) (by decide +kernel), List.mem_of_getElem? (i := 815) (by decide +kernel)⟩
theorem lw_p78 : lw_okq (⟨"ClockedChipModel", "use", "(I)V"⟩, 29) := ⟨⟨by decide +kernel, by decide +kernel⟩, List.mem_of_getElem? (i := 593) (by decide +kernel), List.mem_of_getElem? (i := 818) (by decide +kernel), List.mem_of_getElem? (i := 819) (by decide +kernel)⟩
theorem lw_p79 : lw_okq (⟨"ClockedChipModel", "mark", "(I)I"⟩, 29) := ⟨⟨by decide +kernel, by decide +kernel⟩, List.mem_of_getElem? (i := 593) (by decide +kernel), List.mem_of_getElem? (i := 822) (by decide +kernel), List.mem_of_getElem? (i := 823) (by decide +kernel)⟩
def lw_privs_5 : List (MethodName × Nat) := [(⟨"ClockedChipModel", "access", "(I)I"⟩, 29), (⟨"ClockedChipModel", "isChange", "()Z"⟩, 29), (⟨"ClockedChipModel", "plan", "(I)V"⟩, 29), (⟨"ClockedChipModel", "reads", "(I)V"⟩, 29), (⟨"ClockedChipModel", "half", "()I"⟩, 29), (⟨"ClockedChipModel", "operand", "()I"⟩, 29), (⟨"ClockedChipModel", "planWrite", "(I)V"⟩, 29), (⟨"ClockedChipModel", "push", "(I)V"⟩, 29), (⟨"ClockedChipModel", "happen", "(II)V"⟩, 29), (⟨"ClockedChipModel", "next", "()V"⟩, 29), (⟨"ClockedChipModel", "isJam", "()Z"⟩, 29), (⟨"ClockedChipModel", "isTaken", "()Z"⟩, 29), (⟨"ClockedChipModel", "is", "(I)Z"⟩, 29), (⟨"ClockedChipModel", "isHalf", "()Z"⟩, 29), (⟨"ClockedChipModel", "use", "(I)V"⟩, 29), (⟨"ClockedChipModel", "mark", "(I)I"⟩, 29)]
theorem lw_r5 : ∀ q ∈ lw_privs_5, lw_okq q := List.forall_mem_cons.mpr ⟨lw_p64, List.forall_mem_cons.mpr ⟨lw_p65, List.forall_mem_cons.mpr ⟨lw_p66, List.forall_mem_cons.mpr ⟨lw_p67, List.forall_mem_cons.mpr ⟨lw_p68, List.forall_mem_cons.mpr ⟨lw_p69, List.forall_mem_cons.mpr ⟨lw_p70, List.forall_mem_cons.mpr ⟨lw_p71, List.forall_mem_cons.mpr ⟨lw_p72, List.forall_mem_cons.mpr ⟨lw_p73, List.forall_mem_cons.mpr ⟨lw_p74, List.forall_mem_cons.mpr ⟨lw_p75, List.forall_mem_cons.mpr ⟨lw_p76, List.forall_mem_cons.mpr ⟨lw_p77, List.forall_mem_cons.mpr ⟨lw_p78, List.forall_mem_cons.mpr ⟨lw_p79, fun _ h => absurd h List.not_mem_nil⟩⟩⟩⟩⟩⟩⟩⟩⟩⟩⟩⟩⟩⟩⟩⟩
theorem lw_p80 : lw_okq (⟨"ClockedChipModel", "put", "(IZ)V"⟩, 29) := ⟨⟨by decide +kernel, by decide +kernel⟩, List.mem_of_getElem? (i := 593) (by decide +kernel), List.mem_of_getElem? (i := 826) (by decide +kernel), List.mem_of_getElem? (i := 827) (by decide +kernel)⟩
theorem lw_p81 : lw_okq (⟨"ClockedChipModel", "addDecimal", "(I)I"⟩, 29) := ⟨⟨by decide +kernel, by decide +kernel⟩, List.mem_of_getElem? (i := 593) (by decide +kernel), List.mem_of_getElem? (i := 830) (by decide +kernel), List.mem_of_getElem? (i := 831) (by decide +kernel)⟩
theorem lw_p82 : lw_okq (⟨"ClockedChipModel", "add", "(I)I"⟩, 29) := ⟨⟨by decide +kernel, by decide +kernel⟩, List.mem_of_getElem? (i := 593) (by decide +kernel), List.mem_of_getElem? (i := 834) (by decide +kernel), List.mem_of_getElem? (i := 835) (by decide +kernel)⟩
theorem lw_p83 : lw_okq (⟨"ClockedChipModel", "subtract", "(I)I"⟩, 29) := ⟨⟨by decide +kernel, by decide +kernel⟩, List.mem_of_getElem? (i := 593) (by decide +kernel), List.mem_of_getElem? (i := 838) (by decide +kernel), List.mem_of_getElem? (i := 839) (by decide +kernel)⟩
theorem lw_p84 : lw_okq (⟨"ClockedChipModel", "changed", "(I)I"⟩, 29) := ⟨⟨by decide +kernel, by decide +kernel⟩, List.mem_of_getElem? (i := 593) (by decide +kernel), List.mem_of_getElem? (i := 842) (by decide +kernel), List.mem_of_getElem? (i := 843) (by decide +kernel)⟩
theorem lw_p85 : lw_okq (⟨"ClockedChipModel", "happenStack", "(II)V"⟩, 29) := ⟨⟨by decide +kernel, by decide +kernel⟩, List.mem_of_getElem? (i := 593) (by decide +kernel), List.mem_of_getElem? (i := 846) (by decide +kernel), List.mem_of_getElem? (i := 847) (by decide +kernel)⟩
theorem lw_p86 : lw_okq (⟨"ClockedChipModel", "idle", "()V"⟩, 29) := ⟨⟨by decide +kernel, by decide +kernel⟩, List.mem_of_getElem? (i := 593) (by decide +kernel), List.mem_of_getElem? (i := 850) (by decide +kernel), List.mem_of_getElem? (i := 851) (by decide +kernel)⟩
theorem lw_p87 : lw_okq (⟨"ClockedChipModel", "plain", "()V"⟩, 29) := ⟨⟨by decide +kernel, by decide +kernel⟩, List.mem_of_getElem? (i := 593) (by decide +kernel), List.mem_of_getElem? (i := 854) (by decide +kernel), List.mem_of_getElem? (i := 855) (by decide +kernel)⟩
def lw_privs_6 : List (MethodName × Nat) := [(⟨"ClockedChipModel", "put", "(IZ)V"⟩, 29), (⟨"ClockedChipModel", "addDecimal", "(I)I"⟩, 29), (⟨"ClockedChipModel", "add", "(I)I"⟩, 29), (⟨"ClockedChipModel", "subtract", "(I)I"⟩, 29), (⟨"ClockedChipModel", "changed", "(I)I"⟩, 29), (⟨"ClockedChipModel", "happenStack", "(II)V"⟩, 29), (⟨"ClockedChipModel", "idle", "()V"⟩, 29), (⟨"ClockedChipModel", "plain", "()V"⟩, 29)]
theorem lw_r6 : ∀ q ∈ lw_privs_6, lw_okq q := List.forall_mem_cons.mpr ⟨lw_p80, List.forall_mem_cons.mpr ⟨lw_p81, List.forall_mem_cons.mpr ⟨lw_p82, List.forall_mem_cons.mpr ⟨lw_p83, List.forall_mem_cons.mpr ⟨lw_p84, List.forall_mem_cons.mpr ⟨lw_p85, List.forall_mem_cons.mpr ⟨lw_p86, List.forall_mem_cons.mpr ⟨lw_p87, fun _ h => absurd h List.not_mem_nil⟩⟩⟩⟩⟩⟩⟩⟩
def lw_privs : List (MethodName × Nat) := lw_privs_1 ++ (lw_privs_2 ++ (lw_privs_3 ++ (lw_privs_4 ++ (lw_privs_5 ++ (lw_privs_6)))))
def lw_tbl : List Cond := k2_sels lw_privs ++ tables_1
theorem lw_privs_ok : ∀ q ∈ lw_privs, lw_okq q := by
  show ∀ q ∈ lw_privs_1 ++ (lw_privs_2 ++ (lw_privs_3 ++ (lw_privs_4 ++ (lw_privs_5 ++ (lw_privs_6))))), lw_okq q
  exact List.forall_mem_append.mpr ⟨lw_r1, List.forall_mem_append.mpr ⟨lw_r2, List.forall_mem_append.mpr ⟨lw_r3, List.forall_mem_append.mpr ⟨lw_r4, List.forall_mem_append.mpr ⟨lw_r5, lw_r6⟩⟩⟩⟩⟩
end
section
/-! names: fields, classes, methods, words (printed by my own program out of the Statement) -/
def TC : u_T := fun k => match k with
  | 0 => ("ClockedChip", "memory", "[I", true)
  | 1 => ("ClockedChip", "pins", "[Z", true)
  | 2 => ("ClockedChip", "registers", "LClockedChip$Registers;", true)
  | 3 => ("ClockedChip", "nmiWanted", "Z", false)
  | 4 => ("ClockedChip", "step", "LClockedChip$Step;", false)
  | 5 => ("ClockedChip", "kind", "LClockedChip$Kind;", false)
  | 6 => ("ClockedChip", "operation", "I", false)
  | 7 => ("ClockedChip", "mode", "I", false)
  | 8 => ("ClockedChip", "done", "I", false)
  | 9 => ("ClockedChip", "ended", "I", false)
  | 10 => ("ClockedChip", "aim", "I", false)
  | 11 => ("ClockedChip", "target", "I", false)
  | _ => ("ClockedChip", "held", "I", false)
def tyC : Nat → FieldType := fun k => match k with
  | 0 => .array .int
  | 1 => .array .boolean
  | 2 => .object "ClockedChip$Registers"
  | 3 => .boolean
  | 4 => .object "ClockedChip$Step"
  | 5 => .object "ClockedChip$Kind"
  | 6 => .int
  | 7 => .int
  | 8 => .int
  | 9 => .int
  | 10 => .int
  | 11 => .int
  | _ => .int
theorem nmC : ∀ a, a < 13 → ∀ b, b < 13 → a ≠ b → (TC a).2.1 ≠ (TC b).2.1 := by decide +kernel
theorem tyC_ok : ∀ k, k < 13 → parseFieldDescriptor (TC k).2.2.1 = some (tyC k) := by decide +kernel
def TR : u_T := fun k => match k with
  | 0 => ("ClockedChip$Registers", "a", "I", false)
  | 1 => ("ClockedChip$Registers", "x", "I", false)
  | 2 => ("ClockedChip$Registers", "y", "I", false)
  | 3 => ("ClockedChip$Registers", "s", "I", false)
  | 4 => ("ClockedChip$Registers", "pc", "I", false)
  | _ => ("ClockedChip$Registers", "flags", "I", false)
def tyR : Nat → FieldType := fun k => match k with
  | 0 => .int
  | 1 => .int
  | 2 => .int
  | 3 => .int
  | 4 => .int
  | _ => .int
theorem nmR : ∀ a, a < 6 → ∀ b, b < 6 → a ≠ b → (TR a).2.1 ≠ (TR b).2.1 := by decide +kernel
theorem tyR_ok : ∀ k, k < 6 → parseFieldDescriptor (TR k).2.2.1 = some (tyR k) := by decide +kernel
def TM : u_T := fun k => match k with
  | 0 => ("ClockedChipModel", "memory", "[I", true)
  | 1 => ("ClockedChipModel", "a", "I", false)
  | 2 => ("ClockedChipModel", "x", "I", false)
  | 3 => ("ClockedChipModel", "y", "I", false)
  | 4 => ("ClockedChipModel", "s", "I", false)
  | 5 => ("ClockedChipModel", "pc", "I", false)
  | 6 => ("ClockedChipModel", "flags", "I", false)
  | 7 => ("ClockedChipModel", "nmi", "Z", false)
  | 8 => ("ClockedChipModel", "irq", "Z", false)
  | 9 => ("ClockedChipModel", "ready", "Z", false)
  | 10 => ("ClockedChipModel", "so", "Z", false)
  | 11 => ("ClockedChipModel", "wanted", "Z", false)
  | 12 => ("ClockedChipModel", "going", "I", false)
  | 13 => ("ClockedChipModel", "done", "I", false)
  | 14 => ("ClockedChipModel", "jam", "Z", false)
  | 15 => ("ClockedChipModel", "operation", "I", false)
  | 16 => ("ClockedChipModel", "mode", "I", false)
  | 17 => ("ClockedChipModel", "z", "I", false)
  | 18 => ("ClockedChipModel", "high", "I", false)
  | 19 => ("ClockedChipModel", "low", "I", false)
  | 20 => ("ClockedChipModel", "vector", "I", false)
  | 21 => ("ClockedChipModel", "change", "I", false)
  | 22 => ("ClockedChipModel", "taken", "Z", false)
  | 23 => ("ClockedChipModel", "halves", "Z", false)
  | 24 => ("ClockedChipModel", "address", "I", false)
  | 25 => ("ClockedChipModel", "writes", "Z", false)
  | 26 => ("ClockedChipModel", "value", "I", false)
  | 27 => ("ClockedChipModel", "ends", "I", false)
  | _ => ("ClockedChipModel", "thrown", "I", false)
def tyM : Nat → FieldType := fun k => match k with
  | 0 => .array .int
  | 1 => .int
  | 2 => .int
  | 3 => .int
  | 4 => .int
  | 5 => .int
  | 6 => .int
  | 7 => .boolean
  | 8 => .boolean
  | 9 => .boolean
  | 10 => .boolean
  | 11 => .boolean
  | 12 => .int
  | 13 => .int
  | 14 => .boolean
  | 15 => .int
  | 16 => .int
  | 17 => .int
  | 18 => .int
  | 19 => .int
  | 20 => .int
  | 21 => .int
  | 22 => .boolean
  | 23 => .boolean
  | 24 => .int
  | 25 => .boolean
  | 26 => .int
  | 27 => .int
  | _ => .int
theorem nmM : ∀ a, a < 29 → ∀ b, b < 29 → a ≠ b → (TM a).2.1 ≠ (TM b).2.1 := by decide +kernel
theorem tyM_ok : ∀ k, k < 29 → parseFieldDescriptor (TM k).2.2.1 = some (tyM k) := by decide +kernel
abbrev iC : Nat := 0
abbrev iR : Nat := 1
abbrev iM : Nat := 2
abbrev CL : List vw_C := [("ClockedChip", TC, 13), ("ClockedChip$Registers", TR, 6), ("ClockedChipModel", TM, 29)]
def isNest : Cond → Bool
  | .fieldLinkNest .. => true
  | .methodLinkNest .. => true
  | _ => false
def ALL : List Cond := lw_tbl.filter goodWord
def NW (U : State) : Prop := ∀ w ∈ tables_1, isNest w = true → va_Nw w U
theorem in_ALL {w : Cond} (h : w ∈ tables_1) (hg : goodWord w = true) : w ∈ ALL := List.mem_filter.mpr ⟨List.mem_append_right _ h, hg⟩
theorem in_sel {q : MethodName × Nat} (h : q ∈ lw_privs) (hg : goodWord (Cond.selects q.1.cls q.1 q.1) = true) : Cond.selects q.1.cls q.1 q.1 ∈ ALL := List.mem_filter.mpr ⟨List.mem_append_left _ (List.mem_map.mpr ⟨q, h, rfl⟩), hg⟩
theorem good_ALL {w : Cond} (h : w ∈ ALL) : (w.onTables && w.keeps) = true ∨ ∃ ty, w = .arrayClass ty := good_of_word (List.mem_filter.mp h).2
theorem goodIn_code {y : MethodName} {b : ByteArray} {n : Nat} {r : Option FieldType} (h : Cond.code y b n r ∈ ALL) : GoodIn ALL (Cond.code y b n r :: ALL) := fun w hw => by
  rcases List.mem_cons.mp hw with rfl | hw
  · exact ⟨h, good_ALL h⟩
  · exact ⟨hw, good_ALL hw⟩
abbrev c_C_init : ByteArray := prog_1_method_1_code
abbrev y_C_init : MethodName := ⟨"ClockedChip", "<init>", "()V"⟩
theorem w_C_init : Cond.code y_C_init c_C_init 1 none ∈ ALL := in_ALL (List.mem_append_left _ (List.mem_of_getElem? (i := 18) rfl)) rfl
abbrev c_R_init : ByteArray := prog_4_method_1_code
abbrev y_R_init : MethodName := ⟨"ClockedChip$Registers", "<init>", "()V"⟩
theorem w_R_init : Cond.code y_R_init c_R_init 1 none ∈ ALL := in_ALL (List.mem_append_left _ (List.mem_of_getElem? (i := 26) rfl)) rfl
abbrev c_C_poke : ByteArray := prog_1_method_2_code
abbrev y_C_poke : MethodName := ⟨"ClockedChip", "poke", "(II)I"⟩
theorem w_C_poke : Cond.code y_C_poke c_C_poke 4 (some .int) ∈ ALL := in_ALL (List.mem_append_left _ (List.mem_of_getElem? (i := 101) rfl)) rfl
abbrev c_C_peek : ByteArray := prog_1_method_3_code
abbrev y_C_peek : MethodName := ⟨"ClockedChip", "peek", "(I)I"⟩
theorem w_C_peek : Cond.code y_C_peek c_C_peek 2 (some .int) ∈ ALL := in_ALL (List.mem_append_left _ (List.mem_of_getElem? (i := 105) rfl)) rfl
abbrev c_C_cycle : ByteArray := prog_1_method_4_code
abbrev y_C_cycle : MethodName := ⟨"ClockedChip", "cycle", "()I"⟩
theorem w_C_cycle : Cond.code y_C_cycle c_C_cycle 1 (some .int) ∈ ALL := in_ALL (List.mem_append_left _ (List.mem_of_getElem? (i := 109) rfl)) rfl
abbrev c_C_runCycle : ByteArray := prog_1_method_11_code
abbrev y_C_runCycle : MethodName := ⟨"ClockedChip", "runCycle", "()I"⟩
theorem w_C_runCycle : Cond.code y_C_runCycle c_C_runCycle 3 (some .int) ∈ ALL := in_ALL (List.mem_append_left _ (List.mem_of_getElem? (i := 113) rfl)) rfl
abbrev c_C_addressOfStep : ByteArray := prog_1_method_12_code
abbrev y_C_addressOfStep : MethodName := ⟨"ClockedChip", "addressOfStep", "()I"⟩
theorem w_C_addressOfStep : Cond.code y_C_addressOfStep c_C_addressOfStep 1 (some .int) ∈ ALL := in_ALL (List.mem_append_left _ (List.mem_of_getElem? (i := 117) rfl)) rfl
abbrev c_C_byteToWrite : ByteArray := prog_1_method_13_code
abbrev y_C_byteToWrite : MethodName := ⟨"ClockedChip", "byteToWrite", "()I"⟩
theorem w_C_byteToWrite : Cond.code y_C_byteToWrite c_C_byteToWrite 1 (some .int) ∈ ALL := in_ALL (List.mem_append_left _ (List.mem_of_getElem? (i := 125) rfl)) rfl
abbrev c_R_changed : ByteArray := prog_4_method_16_code
abbrev y_R_changed : MethodName := ⟨"ClockedChip$Registers", "changed", "(II)I"⟩
theorem w_R_changed : Cond.code y_R_changed c_R_changed 3 (some .int) ∈ ALL := in_ALL (List.mem_append_left _ (List.mem_of_getElem? (i := 137) rfl)) rfl
abbrev c_R_p : ByteArray := prog_4_method_2_code
abbrev y_R_p : MethodName := ⟨"ClockedChip$Registers", "p", "()I"⟩
theorem w_R_p : Cond.code y_R_p c_R_p 1 (some .int) ∈ ALL := in_ALL (List.mem_append_left _ (List.mem_of_getElem? (i := 141) rfl)) rfl
abbrev c_C_afterWrite : ByteArray := prog_1_method_14_code
abbrev y_C_afterWrite : MethodName := ⟨"ClockedChip", "afterWrite", "()V"⟩
theorem w_C_afterWrite : Cond.code y_C_afterWrite c_C_afterWrite 1 none ∈ ALL := in_ALL (List.mem_append_left _ (List.mem_of_getElem? (i := 147) rfl)) rfl
abbrev c_R_flagsOfChange : ByteArray := prog_4_method_17_code
abbrev y_R_flagsOfChange : MethodName := ⟨"ClockedChip$Registers", "flagsOfChange", "(II)V"⟩
theorem w_R_flagsOfChange : Cond.code y_R_flagsOfChange c_R_flagsOfChange 3 none ∈ ALL := in_ALL (List.mem_append_left _ (List.mem_of_getElem? (i := 153) rfl)) rfl
abbrev c_R_put : ByteArray := prog_4_method_5_code
abbrev y_R_put : MethodName := ⟨"ClockedChip$Registers", "put", "(IZ)V"⟩
theorem w_R_put : Cond.code y_R_put c_R_put 3 none ∈ ALL := in_ALL (List.mem_append_left _ (List.mem_of_getElem? (i := 157) rfl)) rfl
abbrev c_R_putNz : ByteArray := prog_4_method_6_code
abbrev y_R_putNz : MethodName := ⟨"ClockedChip$Registers", "putNz", "(I)V"⟩
theorem w_R_putNz : Cond.code y_R_putNz c_R_putNz 3 none ∈ ALL := in_ALL (List.mem_append_left _ (List.mem_of_getElem? (i := 162) rfl)) rfl
abbrev c_C_end : ByteArray := prog_1_method_18_code
abbrev y_C_end : MethodName := ⟨"ClockedChip", "end", "()V"⟩
theorem w_C_end : Cond.code y_C_end c_C_end 2 none ∈ ALL := in_ALL (List.mem_append_left _ (List.mem_of_getElem? (i := 166) rfl)) rfl
abbrev c_R_has : ByteArray := prog_4_method_4_code
abbrev y_R_has : MethodName := ⟨"ClockedChip$Registers", "has", "(I)Z"⟩
theorem w_R_has : Cond.code y_R_has c_R_has 2 (some .boolean) ∈ ALL := in_ALL (List.mem_append_left _ (List.mem_of_getElem? (i := 170) rfl)) rfl
abbrev c_C_begin : ByteArray := prog_1_method_17_code
abbrev y_C_begin : MethodName := ⟨"ClockedChip", "begin", "(LClockedChip$Kind;LClockedChip$Step;)V"⟩
theorem w_C_begin : Cond.code y_C_begin c_C_begin 3 none ∈ ALL := in_ALL (List.mem_append_left _ (List.mem_of_getElem? (i := 178) rfl)) rfl
abbrev c_R_moveStack : ByteArray := prog_4_method_9_code
abbrev y_R_moveStack : MethodName := ⟨"ClockedChip$Registers", "moveStack", "(I)V"⟩
theorem w_R_moveStack : Cond.code y_R_moveStack c_R_moveStack 2 none ∈ ALL := in_ALL (List.mem_append_left _ (List.mem_of_getElem? (i := 182) rfl)) rfl
abbrev c_C_afterRead : ByteArray := prog_1_method_15_code
abbrev y_C_afterRead : MethodName := ⟨"ClockedChip", "afterRead", "(I)V"⟩
theorem w_C_afterRead : Cond.code y_C_afterRead c_C_afterRead 2 none ∈ ALL := in_ALL (List.mem_append_left _ (List.mem_of_getElem? (i := 197) rfl)) rfl
abbrev c_C_afterFetch : ByteArray := prog_1_method_20_code
abbrev y_C_afterFetch : MethodName := ⟨"ClockedChip", "afterFetch", "(I)V"⟩
theorem w_C_afterFetch : Cond.code y_C_afterFetch c_C_afterFetch 2 none ∈ ALL := in_ALL (List.mem_append_left _ (List.mem_of_getElem? (i := 201) rfl)) rfl
abbrev c_R_nextPc : ByteArray := prog_4_method_8_code
abbrev y_R_nextPc : MethodName := ⟨"ClockedChip$Registers", "nextPc", "()V"⟩
theorem w_R_nextPc : Cond.code y_R_nextPc c_R_nextPc 1 none ∈ ALL := in_ALL (List.mem_append_left _ (List.mem_of_getElem? (i := 205) rfl)) rfl
abbrev c_C_kindWithoutOperand : ByteArray := prog_1_method_22_code
abbrev y_C_kindWithoutOperand : MethodName := ⟨"ClockedChip", "kindWithoutOperand", "()LClockedChip$Kind;"⟩
theorem w_C_kindWithoutOperand : Cond.code y_C_kindWithoutOperand c_C_kindWithoutOperand 1 (some (.object "ClockedChip$Kind")) ∈ ALL := in_ALL (List.mem_append_left _ (List.mem_of_getElem? (i := 210) rfl)) rfl
abbrev c_C_kindWithOperand : ByteArray := prog_1_method_21_code
abbrev y_C_kindWithOperand : MethodName := ⟨"ClockedChip", "kindWithOperand", "()LClockedChip$Kind;"⟩
theorem w_C_kindWithOperand : Cond.code y_C_kindWithOperand c_C_kindWithOperand 1 (some (.object "ClockedChip$Kind")) ∈ ALL := in_ALL (List.mem_append_left _ (List.mem_of_getElem? (i := 226) rfl)) rfl
abbrev c_C_secondStep : ByteArray := prog_1_method_23_code
abbrev y_C_secondStep : MethodName := ⟨"ClockedChip", "secondStep", "()LClockedChip$Step;"⟩
theorem w_C_secondStep : Cond.code y_C_secondStep c_C_secondStep 1 (some (.object "ClockedChip$Step")) ∈ ALL := in_ALL (List.mem_append_right _ (List.mem_append_left _ (List.mem_of_getElem? (i := 0) rfl))) rfl
abbrev c_C_secondStepByMode : ByteArray := prog_1_method_24_code
abbrev y_C_secondStepByMode : MethodName := ⟨"ClockedChip", "secondStepByMode", "()LClockedChip$Step;"⟩
theorem w_C_secondStepByMode : Cond.code y_C_secondStepByMode c_C_secondStepByMode 1 (some (.object "ClockedChip$Step")) ∈ ALL := in_ALL (List.mem_append_right _ (List.mem_append_left _ (List.mem_of_getElem? (i := 9) rfl))) rfl
abbrev c_R_operate : ByteArray := prog_4_method_14_code
abbrev y_R_operate : MethodName := ⟨"ClockedChip$Registers", "operate", "(II)V"⟩
theorem w_R_operate : Cond.code y_R_operate c_R_operate 3 none ∈ ALL := in_ALL (List.mem_append_right _ (List.mem_append_left _ (List.mem_of_getElem? (i := 27) rfl))) rfl
abbrev c_R_loadA : ByteArray := prog_4_method_10_code
abbrev y_R_loadA : MethodName := ⟨"ClockedChip$Registers", "loadA", "(I)V"⟩
theorem w_R_loadA : Cond.code y_R_loadA c_R_loadA 2 none ∈ ALL := in_ALL (List.mem_append_right _ (List.mem_append_left _ (List.mem_of_getElem? (i := 31) rfl))) rfl
abbrev c_R_add : ByteArray := prog_4_method_19_code
abbrev y_R_add : MethodName := ⟨"ClockedChip$Registers", "add", "(I)V"⟩
theorem w_R_add : Cond.code y_R_add c_R_add 3 none ∈ ALL := in_ALL (List.mem_append_right _ (List.mem_append_left _ (List.mem_of_getElem? (i := 35) rfl))) rfl
abbrev c_R_addDecimal : ByteArray := prog_4_method_22_code
abbrev y_R_addDecimal : MethodName := ⟨"ClockedChip$Registers", "addDecimal", "(I)V"⟩
theorem w_R_addDecimal : Cond.code y_R_addDecimal c_R_addDecimal 5 none ∈ ALL := in_ALL (List.mem_append_right _ (List.mem_append_left _ (List.mem_of_getElem? (i := 40) rfl))) rfl
abbrev c_R_carry : ByteArray := prog_4_method_7_code
abbrev y_R_carry : MethodName := ⟨"ClockedChip$Registers", "carry", "()I"⟩
theorem w_R_carry : Cond.code y_R_carry c_R_carry 1 (some .int) ∈ ALL := in_ALL (List.mem_append_right _ (List.mem_append_left _ (List.mem_of_getElem? (i := 44) rfl))) rfl
abbrev c_R_differsInSign : ByteArray := prog_4_method_21_code
abbrev y_R_differsInSign : MethodName := ⟨"ClockedChip$Registers", "differsInSign", "(IZ)Z"⟩
theorem w_R_differsInSign : Cond.code y_R_differsInSign c_R_differsInSign 4 (some .boolean) ∈ ALL := in_ALL (List.mem_append_right _ (List.mem_append_left _ (List.mem_of_getElem? (i := 48) rfl))) rfl
abbrev c_R_flagsOfSum : ByteArray := prog_4_method_20_code
abbrev y_R_flagsOfSum : MethodName := ⟨"ClockedChip$Registers", "flagsOfSum", "(II)V"⟩
theorem w_R_flagsOfSum : Cond.code y_R_flagsOfSum c_R_flagsOfSum 3 none ∈ ALL := in_ALL (List.mem_append_right _ (List.mem_append_left _ (List.mem_of_getElem? (i := 52) rfl))) rfl
abbrev c_R_subtract : ByteArray := prog_4_method_23_code
abbrev y_R_subtract : MethodName := ⟨"ClockedChip$Registers", "subtract", "(I)V"⟩
theorem w_R_subtract : Cond.code y_R_subtract c_R_subtract 4 none ∈ ALL := in_ALL (List.mem_append_right _ (List.mem_append_left _ (List.mem_of_getElem? (i := 56) rfl))) rfl
abbrev c_R_decimalDifference : ByteArray := prog_4_method_24_code
abbrev y_R_decimalDifference : MethodName := ⟨"ClockedChip$Registers", "decimalDifference", "(I)I"⟩
theorem w_R_decimalDifference : Cond.code y_R_decimalDifference c_R_decimalDifference 4 (some .int) ∈ ALL := in_ALL (List.mem_append_right _ (List.mem_append_left _ (List.mem_of_getElem? (i := 60) rfl))) rfl
abbrev c_R_compare : ByteArray := prog_4_method_18_code
abbrev y_R_compare : MethodName := ⟨"ClockedChip$Registers", "compare", "(I)V"⟩
theorem w_R_compare : Cond.code y_R_compare c_R_compare 2 none ∈ ALL := in_ALL (List.mem_append_right _ (List.mem_append_left _ (List.mem_of_getElem? (i := 64) rfl))) rfl
abbrev c_R_loadX : ByteArray := prog_4_method_11_code
abbrev y_R_loadX : MethodName := ⟨"ClockedChip$Registers", "loadX", "(I)V"⟩
theorem w_R_loadX : Cond.code y_R_loadX c_R_loadX 2 none ∈ ALL := in_ALL (List.mem_append_right _ (List.mem_append_left _ (List.mem_of_getElem? (i := 68) rfl))) rfl
abbrev c_R_loadY : ByteArray := prog_4_method_12_code
abbrev y_R_loadY : MethodName := ⟨"ClockedChip$Registers", "loadY", "(I)V"⟩
theorem w_R_loadY : Cond.code y_R_loadY c_R_loadY 2 none ∈ ALL := in_ALL (List.mem_append_right _ (List.mem_append_left _ (List.mem_of_getElem? (i := 72) rfl))) rfl
abbrev c_C_afterZeroByte : ByteArray := prog_1_method_25_code
abbrev y_C_afterZeroByte : MethodName := ⟨"ClockedChip", "afterZeroByte", "(I)V"⟩
theorem w_C_afterZeroByte : Cond.code y_C_afterZeroByte c_C_afterZeroByte 2 none ∈ ALL := in_ALL (List.mem_append_right _ (List.mem_append_left _ (List.mem_of_getElem? (i := 76) rfl))) rfl
abbrev c_C_accessOperandAt : ByteArray := prog_1_method_32_code
abbrev y_C_accessOperandAt : MethodName := ⟨"ClockedChip", "accessOperandAt", "(I)V"⟩
theorem w_C_accessOperandAt : Cond.code y_C_accessOperandAt c_C_accessOperandAt 2 none ∈ ALL := in_ALL (List.mem_append_right _ (List.mem_append_left _ (List.mem_of_getElem? (i := 80) rfl))) rfl
abbrev c_C_afterZeroIdle : ByteArray := prog_1_method_26_code
abbrev y_C_afterZeroIdle : MethodName := ⟨"ClockedChip", "afterZeroIdle", "()V"⟩
theorem w_C_afterZeroIdle : Cond.code y_C_afterZeroIdle c_C_afterZeroIdle 2 none ∈ ALL := in_ALL (List.mem_append_right _ (List.mem_append_left _ (List.mem_of_getElem? (i := 94) rfl))) rfl
abbrev c_C_afterPointerLow : ByteArray := prog_1_method_27_code
abbrev y_C_afterPointerLow : MethodName := ⟨"ClockedChip", "afterPointerLow", "(I)V"⟩
theorem w_C_afterPointerLow : Cond.code y_C_afterPointerLow c_C_afterPointerLow 2 none ∈ ALL := in_ALL (List.mem_append_right _ (List.mem_append_left _ (List.mem_of_getElem? (i := 98) rfl))) rfl
abbrev c_C_afterPointerPage : ByteArray := prog_1_method_28_code
abbrev y_C_afterPointerPage : MethodName := ⟨"ClockedChip", "afterPointerPage", "(I)V"⟩
theorem w_C_afterPointerPage : Cond.code y_C_afterPointerPage c_C_afterPointerPage 2 none ∈ ALL := in_ALL (List.mem_append_right _ (List.mem_append_left _ (List.mem_of_getElem? (i := 104) rfl))) rfl
abbrev c_C_accessIndexed : ByteArray := prog_1_method_31_code
abbrev y_C_accessIndexed : MethodName := ⟨"ClockedChip", "accessIndexed", "(II)V"⟩
theorem w_C_accessIndexed : Cond.code y_C_accessIndexed c_C_accessIndexed 5 none ∈ ALL := in_ALL (List.mem_append_right _ (List.mem_append_left _ (List.mem_of_getElem? (i := 108) rfl))) rfl
abbrev c_C_afterFarLow : ByteArray := prog_1_method_29_code
abbrev y_C_afterFarLow : MethodName := ⟨"ClockedChip", "afterFarLow", "(I)V"⟩
theorem w_C_afterFarLow : Cond.code y_C_afterFarLow c_C_afterFarLow 2 none ∈ ALL := in_ALL (List.mem_append_right _ (List.mem_append_left _ (List.mem_of_getElem? (i := 114) rfl))) rfl
abbrev c_C_afterFarPage : ByteArray := prog_1_method_30_code
abbrev y_C_afterFarPage : MethodName := ⟨"ClockedChip", "afterFarPage", "(I)V"⟩
theorem w_C_afterFarPage : Cond.code y_C_afterFarPage c_C_afterFarPage 2 none ∈ ALL := in_ALL (List.mem_append_right _ (List.mem_append_left _ (List.mem_of_getElem? (i := 120) rfl))) rfl
abbrev c_C_goTo : ByteArray := prog_1_method_19_code
abbrev y_C_goTo : MethodName := ⟨"ClockedChip", "goTo", "(I)V"⟩
theorem w_C_goTo : Cond.code y_C_goTo c_C_goTo 2 none ∈ ALL := in_ALL (List.mem_append_right _ (List.mem_append_left _ (List.mem_of_getElem? (i := 124) rfl))) rfl
abbrev c_C_afterChangeRead : ByteArray := prog_1_method_33_code
abbrev y_C_afterChangeRead : MethodName := ⟨"ClockedChip", "afterChangeRead", "(I)V"⟩
theorem w_C_afterChangeRead : Cond.code y_C_afterChangeRead c_C_afterChangeRead 2 none ∈ ALL := in_ALL (List.mem_append_right _ (List.mem_append_left _ (List.mem_of_getElem? (i := 128) rfl))) rfl
abbrev c_C_afterBranchDistance : ByteArray := prog_1_method_34_code
abbrev y_C_afterBranchDistance : MethodName := ⟨"ClockedChip", "afterBranchDistance", "(I)V"⟩
theorem w_C_afterBranchDistance : Cond.code y_C_afterBranchDistance c_C_afterBranchDistance 3 none ∈ ALL := in_ALL (List.mem_append_right _ (List.mem_append_left _ (List.mem_of_getElem? (i := 134) rfl))) rfl
abbrev c_R_takesBranch : ByteArray := prog_4_method_13_code
abbrev y_R_takesBranch : MethodName := ⟨"ClockedChip$Registers", "takesBranch", "(I)Z"⟩
theorem w_R_takesBranch : Cond.code y_R_takesBranch c_R_takesBranch 3 (some .boolean) ∈ ALL := in_ALL (List.mem_append_right _ (List.mem_append_left _ (List.mem_of_getElem? (i := 138) rfl))) rfl
abbrev c_C_afterBranchIdle : ByteArray := prog_1_method_35_code
abbrev y_C_afterBranchIdle : MethodName := ⟨"ClockedChip", "afterBranchIdle", "()V"⟩
theorem w_C_afterBranchIdle : Cond.code y_C_afterBranchIdle c_C_afterBranchIdle 2 none ∈ ALL := in_ALL (List.mem_append_right _ (List.mem_append_left _ (List.mem_of_getElem? (i := 144) rfl))) rfl
abbrev c_C_afterBreakNext : ByteArray := prog_1_method_36_code
abbrev y_C_afterBreakNext : MethodName := ⟨"ClockedChip", "afterBreakNext", "()V"⟩
theorem w_C_afterBreakNext : Cond.code y_C_afterBreakNext c_C_afterBreakNext 1 none ∈ ALL := in_ALL (List.mem_append_right _ (List.mem_append_left _ (List.mem_of_getElem? (i := 151) rfl))) rfl
abbrev c_C_afterPcIdle : ByteArray := prog_1_method_37_code
abbrev y_C_afterPcIdle : MethodName := ⟨"ClockedChip", "afterPcIdle", "()V"⟩
theorem w_C_afterPcIdle : Cond.code y_C_afterPcIdle c_C_afterPcIdle 1 none ∈ ALL := in_ALL (List.mem_append_right _ (List.mem_append_left _ (List.mem_of_getElem? (i := 157) rfl))) rfl
abbrev c_R_operateAlone : ByteArray := prog_4_method_15_code
abbrev y_R_operateAlone : MethodName := ⟨"ClockedChip$Registers", "operateAlone", "(I)V"⟩
theorem w_R_operateAlone : Cond.code y_R_operateAlone c_R_operateAlone 2 none ∈ ALL := in_ALL (List.mem_append_right _ (List.mem_append_left _ (List.mem_of_getElem? (i := 161) rfl))) rfl
abbrev c_C_afterStackOrVectorRead : ByteArray := prog_1_method_16_code
abbrev y_C_afterStackOrVectorRead : MethodName := ⟨"ClockedChip", "afterStackOrVectorRead", "(I)V"⟩
theorem w_C_afterStackOrVectorRead : Cond.code y_C_afterStackOrVectorRead c_C_afterStackOrVectorRead 2 none ∈ ALL := in_ALL (List.mem_append_right _ (List.mem_append_left _ (List.mem_of_getElem? (i := 167) rfl))) rfl
abbrev c_C_stepAfterStackIdle : ByteArray := prog_1_method_38_code
abbrev y_C_stepAfterStackIdle : MethodName := ⟨"ClockedChip", "stepAfterStackIdle", "()LClockedChip$Step;"⟩
theorem w_C_stepAfterStackIdle : Cond.code y_C_stepAfterStackIdle c_C_stepAfterStackIdle 1 (some (.object "ClockedChip$Step")) ∈ ALL := in_ALL (List.mem_append_right _ (List.mem_append_left _ (List.mem_of_getElem? (i := 171) rfl))) rfl
abbrev c_C_afterPullByte : ByteArray := prog_1_method_39_code
abbrev y_C_afterPullByte : MethodName := ⟨"ClockedChip", "afterPullByte", "(I)V"⟩
theorem w_C_afterPullByte : Cond.code y_C_afterPullByte c_C_afterPullByte 2 none ∈ ALL := in_ALL (List.mem_append_right _ (List.mem_append_left _ (List.mem_of_getElem? (i := 179) rfl))) rfl
abbrev c_R_takeFlags : ByteArray := prog_4_method_3_code
abbrev y_R_takeFlags : MethodName := ⟨"ClockedChip$Registers", "takeFlags", "(I)V"⟩
theorem w_R_takeFlags : Cond.code y_R_takeFlags c_R_takeFlags 2 none ∈ ALL := in_ALL (List.mem_append_right _ (List.mem_append_left _ (List.mem_of_getElem? (i := 183) rfl))) rfl
abbrev c_C_afterPullLow : ByteArray := prog_1_method_40_code
abbrev y_C_afterPullLow : MethodName := ⟨"ClockedChip", "afterPullLow", "(I)V"⟩
theorem w_C_afterPullLow : Cond.code y_C_afterPullLow c_C_afterPullLow 2 none ∈ ALL := in_ALL (List.mem_append_right _ (List.mem_append_left _ (List.mem_of_getElem? (i := 188) rfl))) rfl
abbrev c_C_afterPullPage : ByteArray := prog_1_method_41_code
abbrev y_C_afterPullPage : MethodName := ⟨"ClockedChip", "afterPullPage", "(I)V"⟩
theorem w_C_afterPullPage : Cond.code y_C_afterPullPage c_C_afterPullPage 2 none ∈ ALL := in_ALL (List.mem_append_right _ (List.mem_append_left _ (List.mem_of_getElem? (i := 194) rfl))) rfl
abbrev c_C_afterVectorLow : ByteArray := prog_1_method_42_code
abbrev y_C_afterVectorLow : MethodName := ⟨"ClockedChip", "afterVectorLow", "(I)V"⟩
theorem w_C_afterVectorLow : Cond.code y_C_afterVectorLow c_C_afterVectorLow 2 none ∈ ALL := in_ALL (List.mem_append_right _ (List.mem_append_left _ (List.mem_of_getElem? (i := 200) rfl))) rfl
abbrev c_C_afterResetStack : ByteArray := prog_1_method_43_code
abbrev y_C_afterResetStack : MethodName := ⟨"ClockedChip", "afterResetStack", "()V"⟩
theorem w_C_afterResetStack : Cond.code y_C_afterResetStack c_C_afterResetStack 1 none ∈ ALL := in_ALL (List.mem_append_right _ (List.mem_append_left _ (List.mem_of_getElem? (i := 210) rfl))) rfl
abbrev c_C_afterResetLow : ByteArray := prog_1_method_44_code
abbrev y_C_afterResetLow : MethodName := ⟨"ClockedChip", "afterResetLow", "(I)V"⟩
theorem w_C_afterResetLow : Cond.code y_C_afterResetLow c_C_afterResetLow 2 none ∈ ALL := in_ALL (List.mem_append_right _ (List.mem_append_left _ (List.mem_of_getElem? (i := 216) rfl))) rfl
abbrev c_C_reset : ByteArray := prog_1_method_7_code
abbrev y_C_reset : MethodName := ⟨"ClockedChip", "reset", "()V"⟩
theorem w_C_reset : Cond.code y_C_reset c_C_reset 1 none ∈ ALL := in_ALL (List.mem_append_right _ (List.mem_append_left _ (List.mem_of_getElem? (i := 221) rfl))) rfl
abbrev c_L_cycles : ByteArray := method_3_code
abbrev y_L_cycles : MethodName := ⟨"ClockedChipLaw", "cycles", "(LClockedChip;I[J)I"⟩
abbrev c_C_cycles : ByteArray := prog_1_method_5_code
abbrev y_C_cycles : MethodName := ⟨"ClockedChip", "cycles", "(I)I"⟩
theorem w_C_cycles : Cond.code y_C_cycles c_C_cycles 4 (some .int) ∈ ALL := in_ALL (List.mem_append_right _ (List.mem_append_left _ (List.mem_of_getElem? (i := 231) rfl))) rfl
abbrev c_L_pin : ByteArray := method_4_code
abbrev y_L_pin : MethodName := ⟨"ClockedChipLaw", "pin", "(LClockedChip;IZ[J)I"⟩
abbrev c_C_pin : ByteArray := prog_1_method_6_code
abbrev y_C_pin : MethodName := ⟨"ClockedChip", "pin", "(IZ)Z"⟩
theorem w_C_pin : Cond.code y_C_pin c_C_pin 4 (some .boolean) ∈ ALL := in_ALL (List.mem_append_right _ (List.mem_append_right _ (List.mem_append_left _ (List.mem_of_getElem? (i := 62) rfl)))) rfl
abbrev c_C_pinWentOn : ByteArray := prog_1_method_10_code
abbrev y_C_pinWentOn : MethodName := ⟨"ClockedChip", "pinWentOn", "(I)V"⟩
theorem w_C_pinWentOn : Cond.code y_C_pinWentOn c_C_pinWentOn 2 none ∈ ALL := in_ALL (List.mem_append_right _ (List.mem_append_right _ (List.mem_append_left _ (List.mem_of_getElem? (i := 81) rfl)))) rfl
abbrev c_L_register : ByteArray := method_5_code
abbrev y_L_register : MethodName := ⟨"ClockedChipLaw", "register", "(LClockedChip;I[J)I"⟩
abbrev c_C_register : ByteArray := prog_1_method_8_code
abbrev y_C_register : MethodName := ⟨"ClockedChip", "register", "(I)I"⟩
theorem w_C_register : Cond.code y_C_register c_C_register 2 (some .int) ∈ ALL := in_ALL (List.mem_append_right _ (List.mem_append_right _ (List.mem_append_left _ (List.mem_of_getElem? (i := 88) rfl)))) rfl
abbrev c_L_set : ByteArray := method_6_code
abbrev y_L_set : MethodName := ⟨"ClockedChipLaw", "set", "(LClockedChip;II)I"⟩
abbrev c_C_set : ByteArray := prog_1_method_9_code
abbrev y_C_set : MethodName := ⟨"ClockedChip", "set", "(II)V"⟩
theorem w_C_set : Cond.code y_C_set c_C_set 3 none ∈ ALL := in_ALL (List.mem_append_right _ (List.mem_append_right _ (List.mem_append_left _ (List.mem_of_getElem? (i := 96) rfl)))) rfl
abbrev c_M_init : ByteArray := prog_7_method_1_code
abbrev y_M_init : MethodName := ⟨"ClockedChipModel", "<init>", "()V"⟩
theorem w_M_init : Cond.code y_M_init c_M_init 1 none ∈ ALL := in_ALL (List.mem_append_right _ (List.mem_append_right _ (List.mem_append_left _ (List.mem_of_getElem? (i := 116) rfl)))) rfl
abbrev c_M_thrown : ByteArray := prog_7_method_2_code
abbrev y_M_thrown : MethodName := ⟨"ClockedChipModel", "thrown", "()I"⟩
theorem w_M_thrown : Cond.code y_M_thrown c_M_thrown 1 (some .int) ∈ ALL := in_ALL (List.mem_append_right _ (List.mem_append_right _ (List.mem_append_left _ (List.mem_of_getElem? (i := 209) rfl)))) rfl
abbrev c_M_poke : ByteArray := prog_7_method_3_code
abbrev y_M_poke : MethodName := ⟨"ClockedChipModel", "poke", "(II)I"⟩
theorem w_M_poke : Cond.code y_M_poke c_M_poke 4 (some .int) ∈ ALL := in_ALL (List.mem_append_right _ (List.mem_append_right _ (List.mem_append_left _ (List.mem_of_getElem? (i := 213) rfl)))) rfl
abbrev c_M_peek : ByteArray := prog_7_method_4_code
abbrev y_M_peek : MethodName := ⟨"ClockedChipModel", "peek", "(I)I"⟩
theorem w_M_peek : Cond.code y_M_peek c_M_peek 2 (some .int) ∈ ALL := in_ALL (List.mem_append_right _ (List.mem_append_right _ (List.mem_append_left _ (List.mem_of_getElem? (i := 217) rfl)))) rfl
abbrev c_M_pin : ByteArray := prog_7_method_8_code
abbrev y_M_pin : MethodName := ⟨"ClockedChipModel", "pin", "(IZ)Z"⟩
theorem w_M_pin : Cond.code y_M_pin c_M_pin 5 (some .boolean) ∈ ALL := in_ALL (List.mem_append_right _ (List.mem_append_right _ (List.mem_append_left _ (List.mem_of_getElem? (i := 221) rfl)))) rfl
abbrev c_M_reset : ByteArray := prog_7_method_9_code
abbrev y_M_reset : MethodName := ⟨"ClockedChipModel", "reset", "()V"⟩
theorem w_M_reset : Cond.code y_M_reset c_M_reset 1 none ∈ ALL := in_ALL (List.mem_append_right _ (List.mem_append_right _ (List.mem_append_left _ (List.mem_of_getElem? (i := 225) rfl)))) rfl
abbrev c_M_cycle : ByteArray := prog_7_method_38_code
abbrev y_M_cycle : MethodName := ⟨"ClockedChipModel", "cycle", "()I"⟩
theorem w_M_cycle : Cond.code y_M_cycle c_M_cycle 1 (some .int) ∈ ALL := in_ALL (List.mem_append_right _ (List.mem_append_right _ (List.mem_append_left _ (List.mem_of_getElem? (i := 229) rfl)))) rfl
abbrev c_M_clock : ByteArray := prog_7_method_37_code
abbrev y_M_clock : MethodName := ⟨"ClockedChipModel", "clock", "()I"⟩
theorem w_M_clock : Cond.code y_M_clock c_M_clock 4 (some .int) ∈ ALL := in_ALL (List.mem_append_right _ (List.mem_append_right _ (List.mem_append_left _ (List.mem_of_getElem? (i := 233) rfl)))) rfl
abbrev c_M_action : ByteArray := prog_7_method_22_code
abbrev y_M_action : MethodName := ⟨"ClockedChipModel", "action", "()I"⟩
theorem w_M_action : Cond.code y_M_action c_M_action 5 (some .int) ∈ ALL := in_ALL (List.mem_append_right _ (List.mem_append_right _ (List.mem_append_left _ (List.mem_of_getElem? (i := 237) rfl)))) rfl
abbrev c_M_digit : ByteArray := prog_7_method_17_code
abbrev y_M_digit : MethodName := ⟨"ClockedChipModel", "digit", "(JI)I"⟩
theorem w_M_digit : Cond.code y_M_digit c_M_digit 6 (some .int) ∈ ALL := in_ALL (List.mem_append_right _ (List.mem_append_right _ (List.mem_append_right _ (List.mem_of_getElem? (i := 1) rfl)))) rfl
abbrev c_M_plainRow : ByteArray := prog_7_method_18_code
abbrev y_M_plainRow : MethodName := ⟨"ClockedChipModel", "plainRow", "()J"⟩
theorem w_M_plainRow : Cond.code y_M_plainRow c_M_plainRow 1 (some .long) ∈ ALL := in_ALL (List.mem_append_right _ (List.mem_append_right _ (List.mem_append_right _ (List.mem_of_getElem? (i := 7) rfl)))) rfl
abbrev c_M_target : ByteArray := prog_7_method_16_code
abbrev y_M_target : MethodName := ⟨"ClockedChipModel", "target", "()I"⟩
theorem w_M_target : Cond.code y_M_target c_M_target 2 (some .int) ∈ ALL := in_ALL (List.mem_append_right _ (List.mem_append_right _ (List.mem_append_right _ (List.mem_of_getElem? (i := 23) rfl)))) rfl
abbrev c_M_addressRow : ByteArray := prog_7_method_19_code
abbrev y_M_addressRow : MethodName := ⟨"ClockedChipModel", "addressRow", "()J"⟩
theorem w_M_addressRow : Cond.code y_M_addressRow c_M_addressRow 1 (some .long) ∈ ALL := in_ALL (List.mem_append_right _ (List.mem_append_right _ (List.mem_append_right _ (List.mem_of_getElem? (i := 29) rfl)))) rfl
abbrev c_M_lengthOf : ByteArray := prog_7_method_20_code
abbrev y_M_lengthOf : MethodName := ⟨"ClockedChipModel", "lengthOf", "(J)I"⟩
theorem w_M_lengthOf : Cond.code y_M_lengthOf c_M_lengthOf 5 (some .int) ∈ ALL := in_ALL (List.mem_append_right _ (List.mem_append_right _ (List.mem_append_right _ (List.mem_of_getElem? (i := 36) rfl)))) rfl
abbrev c_M_access : ByteArray := prog_7_method_21_code
abbrev y_M_access : MethodName := ⟨"ClockedChipModel", "access", "(I)I"⟩
theorem w_M_access : Cond.code y_M_access c_M_access 2 (some .int) ∈ ALL := in_ALL (List.mem_append_right _ (List.mem_append_right _ (List.mem_append_right _ (List.mem_of_getElem? (i := 40) rfl)))) rfl
abbrev c_M_isChange : ByteArray := prog_7_method_10_code
abbrev y_M_isChange : MethodName := ⟨"ClockedChipModel", "isChange", "()Z"⟩
theorem w_M_isChange : Cond.code y_M_isChange c_M_isChange 1 (some .boolean) ∈ ALL := in_ALL (List.mem_append_right _ (List.mem_append_right _ (List.mem_append_right _ (List.mem_of_getElem? (i := 44) rfl)))) rfl
abbrev c_M_plan : ByteArray := prog_7_method_25_code
abbrev y_M_plan : MethodName := ⟨"ClockedChipModel", "plan", "(I)V"⟩
theorem w_M_plan : Cond.code y_M_plan c_M_plan 2 none ∈ ALL := in_ALL (List.mem_append_right _ (List.mem_append_right _ (List.mem_append_right _ (List.mem_of_getElem? (i := 48) rfl)))) rfl
abbrev c_M_reads : ByteArray := prog_7_method_23_code
abbrev y_M_reads : MethodName := ⟨"ClockedChipModel", "reads", "(I)V"⟩
theorem w_M_reads : Cond.code y_M_reads c_M_reads 2 none ∈ ALL := in_ALL (List.mem_append_right _ (List.mem_append_right _ (List.mem_append_right _ (List.mem_of_getElem? (i := 52) rfl)))) rfl
abbrev c_M_half : ByteArray := prog_7_method_14_code
abbrev y_M_half : MethodName := ⟨"ClockedChipModel", "half", "()I"⟩
theorem w_M_half : Cond.code y_M_half c_M_half 1 (some .int) ∈ ALL := in_ALL (List.mem_append_right _ (List.mem_append_right _ (List.mem_append_right _ (List.mem_of_getElem? (i := 56) rfl)))) rfl
abbrev c_M_operand : ByteArray := prog_7_method_12_code
abbrev y_M_operand : MethodName := ⟨"ClockedChipModel", "operand", "()I"⟩
theorem w_M_operand : Cond.code y_M_operand c_M_operand 1 (some .int) ∈ ALL := in_ALL (List.mem_append_right _ (List.mem_append_right _ (List.mem_append_right _ (List.mem_of_getElem? (i := 60) rfl)))) rfl
abbrev c_M_planWrite : ByteArray := prog_7_method_26_code
abbrev y_M_planWrite : MethodName := ⟨"ClockedChipModel", "planWrite", "(I)V"⟩
theorem w_M_planWrite : Cond.code y_M_planWrite c_M_planWrite 2 none ∈ ALL := in_ALL (List.mem_append_right _ (List.mem_append_right _ (List.mem_append_right _ (List.mem_of_getElem? (i := 68) rfl)))) rfl
abbrev c_M_push : ByteArray := prog_7_method_24_code
abbrev y_M_push : MethodName := ⟨"ClockedChipModel", "push", "(I)V"⟩
theorem w_M_push : Cond.code y_M_push c_M_push 2 none ∈ ALL := in_ALL (List.mem_append_right _ (List.mem_append_right _ (List.mem_append_right _ (List.mem_of_getElem? (i := 72) rfl)))) rfl
abbrev c_M_happen : ByteArray := prog_7_method_28_code
abbrev y_M_happen : MethodName := ⟨"ClockedChipModel", "happen", "(II)V"⟩
theorem w_M_happen : Cond.code y_M_happen c_M_happen 3 none ∈ ALL := in_ALL (List.mem_append_right _ (List.mem_append_right _ (List.mem_append_right _ (List.mem_of_getElem? (i := 76) rfl)))) rfl
abbrev c_M_next : ByteArray := prog_7_method_27_code
abbrev y_M_next : MethodName := ⟨"ClockedChipModel", "next", "()V"⟩
theorem w_M_next : Cond.code y_M_next c_M_next 1 none ∈ ALL := in_ALL (List.mem_append_right _ (List.mem_append_right _ (List.mem_append_right _ (List.mem_of_getElem? (i := 80) rfl)))) rfl
abbrev c_M_isJam : ByteArray := prog_7_method_11_code
abbrev y_M_isJam : MethodName := ⟨"ClockedChipModel", "isJam", "()Z"⟩
theorem w_M_isJam : Cond.code y_M_isJam c_M_isJam 2 (some .boolean) ∈ ALL := in_ALL (List.mem_append_right _ (List.mem_append_right _ (List.mem_append_right _ (List.mem_of_getElem? (i := 84) rfl)))) rfl
abbrev c_M_isTaken : ByteArray := prog_7_method_15_code
abbrev y_M_isTaken : MethodName := ⟨"ClockedChipModel", "isTaken", "()Z"⟩
theorem w_M_isTaken : Cond.code y_M_isTaken c_M_isTaken 3 (some .boolean) ∈ ALL := in_ALL (List.mem_append_right _ (List.mem_append_right _ (List.mem_append_right _ (List.mem_of_getElem? (i := 88) rfl)))) rfl
abbrev c_M_is : ByteArray := prog_7_method_5_code
abbrev y_M_is : MethodName := ⟨"ClockedChipModel", "is", "(I)Z"⟩
theorem w_M_is : Cond.code y_M_is c_M_is 2 (some .boolean) ∈ ALL := in_ALL (List.mem_append_right _ (List.mem_append_right _ (List.mem_append_right _ (List.mem_of_getElem? (i := 92) rfl)))) rfl
abbrev c_M_isHalf : ByteArray := prog_7_method_13_code
abbrev y_M_isHalf : MethodName := ⟨"ClockedChipModel", "isHalf", "()Z"⟩
theorem w_M_isHalf : Cond.code y_M_isHalf c_M_isHalf 1 (some .boolean) ∈ ALL := in_ALL (List.mem_append_right _ (List.mem_append_right _ (List.mem_append_right _ (List.mem_of_getElem? (i := 96) rfl)))) rfl
abbrev c_M_use : ByteArray := prog_7_method_33_code
abbrev y_M_use : MethodName := ⟨"ClockedChipModel", "use", "(I)V"⟩
theorem w_M_use : Cond.code y_M_use c_M_use 3 none ∈ ALL := in_ALL (List.mem_append_right _ (List.mem_append_right _ (List.mem_append_right _ (List.mem_of_getElem? (i := 100) rfl)))) rfl
abbrev c_M_mark : ByteArray := prog_7_method_7_code
abbrev y_M_mark : MethodName := ⟨"ClockedChipModel", "mark", "(I)I"⟩
theorem w_M_mark : Cond.code y_M_mark c_M_mark 2 (some .int) ∈ ALL := in_ALL (List.mem_append_right _ (List.mem_append_right _ (List.mem_append_right _ (List.mem_of_getElem? (i := 104) rfl)))) rfl
abbrev c_M_put : ByteArray := prog_7_method_6_code
abbrev y_M_put : MethodName := ⟨"ClockedChipModel", "put", "(IZ)V"⟩
theorem w_M_put : Cond.code y_M_put c_M_put 3 none ∈ ALL := in_ALL (List.mem_append_right _ (List.mem_append_right _ (List.mem_append_right _ (List.mem_of_getElem? (i := 108) rfl)))) rfl
abbrev c_M_addDecimal : ByteArray := prog_7_method_35_code
abbrev y_M_addDecimal : MethodName := ⟨"ClockedChipModel", "addDecimal", "(I)I"⟩
theorem w_M_addDecimal : Cond.code y_M_addDecimal c_M_addDecimal 5 (some .int) ∈ ALL := in_ALL (List.mem_append_right _ (List.mem_append_right _ (List.mem_append_right _ (List.mem_of_getElem? (i := 112) rfl)))) rfl
abbrev c_M_add : ByteArray := prog_7_method_34_code
abbrev y_M_add : MethodName := ⟨"ClockedChipModel", "add", "(I)I"⟩
theorem w_M_add : Cond.code y_M_add c_M_add 3 (some .int) ∈ ALL := in_ALL (List.mem_append_right _ (List.mem_append_right _ (List.mem_append_right _ (List.mem_of_getElem? (i := 116) rfl)))) rfl
abbrev c_M_subtract : ByteArray := prog_7_method_36_code
abbrev y_M_subtract : MethodName := ⟨"ClockedChipModel", "subtract", "(I)I"⟩
theorem w_M_subtract : Cond.code y_M_subtract c_M_subtract 6 (some .int) ∈ ALL := in_ALL (List.mem_append_right _ (List.mem_append_right _ (List.mem_append_right _ (List.mem_of_getElem? (i := 120) rfl)))) rfl
abbrev c_M_changed : ByteArray := prog_7_method_32_code
abbrev y_M_changed : MethodName := ⟨"ClockedChipModel", "changed", "(I)I"⟩
theorem w_M_changed : Cond.code y_M_changed c_M_changed 2 (some .int) ∈ ALL := in_ALL (List.mem_append_right _ (List.mem_append_right _ (List.mem_append_right _ (List.mem_of_getElem? (i := 124) rfl)))) rfl
abbrev c_M_happenStack : ByteArray := prog_7_method_29_code
abbrev y_M_happenStack : MethodName := ⟨"ClockedChipModel", "happenStack", "(II)V"⟩
theorem w_M_happenStack : Cond.code y_M_happenStack c_M_happenStack 5 none ∈ ALL := in_ALL (List.mem_append_right _ (List.mem_append_right _ (List.mem_append_right _ (List.mem_of_getElem? (i := 128) rfl)))) rfl
abbrev c_M_idle : ByteArray := prog_7_method_30_code
abbrev y_M_idle : MethodName := ⟨"ClockedChipModel", "idle", "()V"⟩
theorem w_M_idle : Cond.code y_M_idle c_M_idle 1 none ∈ ALL := in_ALL (List.mem_append_right _ (List.mem_append_right _ (List.mem_append_right _ (List.mem_of_getElem? (i := 132) rfl)))) rfl
abbrev c_M_plain : ByteArray := prog_7_method_31_code
abbrev y_M_plain : MethodName := ⟨"ClockedChipModel", "plain", "()V"⟩
theorem w_M_plain : Cond.code y_M_plain c_M_plain 1 none ∈ ALL := in_ALL (List.mem_append_right _ (List.mem_append_right _ (List.mem_append_right _ (List.mem_of_getElem? (i := 136) rfl)))) rfl
abbrev c_M_cycles : ByteArray := prog_7_method_39_code
abbrev y_M_cycles : MethodName := ⟨"ClockedChipModel", "cycles", "(I)I"⟩
theorem w_M_cycles : Cond.code y_M_cycles c_M_cycles 4 (some .int) ∈ ALL := in_ALL (List.mem_append_right _ (List.mem_append_right _ (List.mem_append_right _ (List.mem_of_getElem? (i := 140) rfl)))) rfl
abbrev c_M_register : ByteArray := prog_7_method_40_code
abbrev y_M_register : MethodName := ⟨"ClockedChipModel", "register", "(I)I"⟩
theorem w_M_register : Cond.code y_M_register c_M_register 2 (some .int) ∈ ALL := in_ALL (List.mem_append_right _ (List.mem_append_right _ (List.mem_append_right _ (List.mem_of_getElem? (i := 144) rfl)))) rfl
abbrev c_M_set : ByteArray := prog_7_method_41_code
abbrev y_M_set : MethodName := ⟨"ClockedChipModel", "set", "(II)V"⟩
theorem w_M_set : Cond.code y_M_set c_M_set 3 none ∈ ALL := in_ALL (List.mem_append_right _ (List.mem_append_right _ (List.mem_append_right _ (List.mem_of_getElem? (i := 148) rfl)))) rfl
end
section
/-! the state of the class, of the reference, and the world that holds both -/
abbrev CS : Type := (Nat → Int32) × Fin 35 × Fin 16 × (Nat → Int32) × (Nat → Int32)
abbrev MS : Type := (Nat → Int32) × (Nat → Int32)
-- ints of the class: 0 a 1 x 2 y 3 s 4 pc 5 flags 6 nmiWanted 7 operation 8 mode 9 done 10 ended 11 aim 12 target 13 held; then step, kind, memory, pins
def sV (st : CS) (k : Nat) (x : Int32) : CS := (upd st.1 k x, st.2)
def sS (st : CS) (k : Fin 35) : CS := (st.1, k, st.2.2)
def sK (st : CS) (k : Fin 16) : CS := (st.1, st.2.1, k, st.2.2.2)
def sM (st : CS) (i x : Int32) : CS := (st.1, st.2.1, st.2.2.1, upd st.2.2.2.1 (i &&& 1023).toNatClampNeg x, st.2.2.2.2)
def sP (st : CS) (i x : Int32) : CS := (st.1, st.2.1, st.2.2.1, st.2.2.2.1, upd st.2.2.2.2 i.toNatClampNeg (vp_nar .boolean x))
def rM (st : CS) (i : Int32) : Int32 := st.2.2.2.1 (i &&& 1023).toNatClampNeg
def rP (st : CS) (i : Int32) : Int32 := st.2.2.2.2 i.toNatClampNeg
-- ints of the reference: 0 a 1 x 2 y 3 s 4 pc 5 flags 6 nmi 7 irq 8 ready 9 so 10 wanted 11 going 12 done 13 jam 14 operation 15 mode 16 z 17 high 18 low 19 vector 20 change 21 taken 22 halves 23 address 24 writes 25 value 26 ends 27 thrown; then memory
def tV (rt : MS) (k : Nat) (x : Int32) : MS := (upd rt.1 k x, rt.2)
def tM (rt : MS) (i x : Int32) : MS := (rt.1, upd rt.2 (i &&& 1023).toNatClampNeg x)
def uM (rt : MS) (i : Int32) : Int32 := rt.2 (i &&& 1023).toNatClampNeg
-- addresses and class numbers
abbrev CG : Type := va_G × (Nat → Nat) × (Nat → ClassId) × (Nat → Nat) × (Nat → Nat)
abbrev CG.chip (g : CG) : Nat := g.2.1 0
abbrev CG.mem (g : CG) : Nat := g.2.1 1
abbrev CG.pins (g : CG) : Nat := g.2.1 2
abbrev CG.regs (g : CG) : Nat := g.2.1 3
abbrev CG.model (g : CG) : Nat := g.2.1 4
abbrev CG.mmem (g : CG) : Nat := g.2.1 5
abbrev CG.out (g : CG) : Nat := g.2.1 6
abbrev CG.mapS (g : CG) : Nat := g.2.1 7
abbrev CG.mapK (g : CG) : Nat := g.2.1 8
abbrev CG.cI (g : CG) : ClassId := g.2.2.1 0
abbrev CG.cZ (g : CG) : ClassId := g.2.2.1 1
abbrev CG.cL (g : CG) : ClassId := g.2.2.1 2
abbrev CG.adS (g : CG) : Nat → Nat := g.2.2.2.1
abbrev CG.adK (g : CG) : Nat → Nat := g.2.2.2.2
abbrev tysG (g : CG) : List (ClassId × FieldType) := [(g.cI, .int), (g.cZ, .boolean), (g.cL, .long)]
def fsC (g : CG) (st : CS) : List Value := [.ref g.mem, .ref g.pins, .ref g.regs, .int (st.1 6), .ref (g.adS st.2.1.val), .ref (g.adK st.2.2.1.val), .int (st.1 7), .int (st.1 8), .int (st.1 9), .int (st.1 10), .int (st.1 11), .int (st.1 12), .int (st.1 13)]
def fsR (st : CS) : List Value := [.int (st.1 0), .int (st.1 1), .int (st.1 2), .int (st.1 3), .int (st.1 4), .int (st.1 5)]
def fsM (g : CG) (rt : MS) : List Value := [.ref g.mmem, .int (rt.1 0), .int (rt.1 1), .int (rt.1 2), .int (rt.1 3), .int (rt.1 4), .int (rt.1 5), .int (rt.1 6), .int (rt.1 7), .int (rt.1 8), .int (rt.1 9), .int (rt.1 10), .int (rt.1 11), .int (rt.1 12), .int (rt.1 13), .int (rt.1 14), .int (rt.1 15), .int (rt.1 16), .int (rt.1 17), .int (rt.1 18), .int (rt.1 19), .int (rt.1 20), .int (rt.1 21), .int (rt.1 22), .int (rt.1 23), .int (rt.1 24), .int (rt.1 25), .int (rt.1 26), .int (rt.1 27)]
def wC (g : CG) (rt : MS) (o : Nat → Int64) (st : CS) : va_W := [(g.chip, .inr (iC, fsC g st)), (g.mem, .inl (g.cI, 1024, .inl st.2.2.2.1)), (g.pins, .inl (g.cZ, 4, .inl st.2.2.2.2)), (g.regs, .inr (iR, fsR st)), (g.model, .inr (iM, fsM g rt)), (g.mmem, .inl (g.cI, 1024, .inl rt.2)), (g.out, .inl (g.cL, 1, .inr (.inl o)))]
def wM (g : CG) (st : CS) (o : Nat → Int64) (rt : MS) : va_W := wC g rt o st
-- constants: the two enums, the two switch maps
def nmS : List String := ["FETCH", "IMMEDIATE", "ZERO_BYTE", "ZERO_IDLE", "POINTER_LOW", "POINTER_PAGE", "FAR_LOW", "FAR_PAGE", "HALF_IDLE", "OPERAND", "STORE", "CHANGE_READ", "CHANGE_SAME", "CHANGE_NEW", "BRANCH_DISTANCE", "BRANCH_IDLE", "BRANCH_OTHER_PAGE", "BREAK_NEXT", "PC_IDLE", "STACK_IDLE", "PUSH_REGISTER", "PUSH_PAGE", "PUSH_LOW", "PUSH_P", "PULL_BYTE", "PULL_LOW", "PULL_PAGE", "RETURN_IDLE", "INTERRUPT_IDLE", "VECTOR_LOW", "VECTOR_PAGE", "RESET_IDLE", "RESET_STACK", "RESET_LOW", "JAMMED"]
def nmK : List String := ["READ", "STORE", "CHANGE", "BRANCH", "JUMP", "CALL", "ON_REGISTERS", "PUSH", "PULL", "RETURN", "RETURN_FROM_INTERRUPT", "BREAK", "JAM", "INTERRUPT", "RESET", "NOT_READ_YET"]
def oLS : List Int32 := [0, 1, 2, 3, 4, 5, 6, 7, 8, 9, 10, 11, 12, 13, 14, 15, 16, 17, 18, 19, 20, 21, 22, 23, 24, 25, 26, 27, 28, 29, 30, 31, 32, 33, 34]
def oLK : List Int32 := [0, 1, 2, 3, 4, 5, 6, 7, 8, 9, 10, 11, 12, 13, 14, 15]
def plL : List Int32 := [0, 0, 0, 1, 1, 1, 0, 0, 1, 1, 1, 1, 1, 1, 0, 0, 1, 0, 0, 2, 2, 2, 2, 2, 3, 3, 3, 0, 0, 4, 1, 0, 2, 5, 6]
def wrL : List Int32 := [0, 0, 0, 0, 0, 0, 0, 0, 0, 0, 1, 0, 1, 1, 0, 0, 0, 0, 0, 0, 1, 1, 1, 1, 0, 0, 0, 0, 0, 0, 0, 0, 0, 0, 0]
def swLS : List Int32 := [8, 9, 10, 11, 12, 13, 14, 15, 16, 17, 1, 18, 2, 3, 19, 20, 21, 22, 23, 25, 4, 5, 6, 7, 26, 27, 28, 29, 30, 31, 32, 33, 34, 0, 24]
def swLK : List Int32 := [1, 2, 3, 4, 5, 6, 0, 0, 0, 9, 0, 7, 8, 0, 0, 0]
def oS (k : Fin 35) : Int32 := oLS.getD k.val 0
def oK (k : Fin 16) : Int32 := oLK.getD k.val 0
def plS (k : Fin 35) : Int32 := plL.getD k.val 0
def wrS (k : Fin 35) : Int32 := wrL.getD k.val 0
def swS (k : Fin 35) : Int32 := swLS.getD k.val 0
def swK (k : Fin 16) : Int32 := swLK.getD k.val 0
def FS : List (String × String × String × List Int32) := [("java/lang/Enum", "ordinal", "I", oLS), ("ClockedChip$Step", "place", "I", plL), ("ClockedChip$Step", "writes", "Z", wrL)]
def FK : List (String × String × String × List Int32) := [("java/lang/Enum", "ordinal", "I", oLK)]
def EnS (g : CG) (A : Nat → Prop) (U : State) (H : Heap) : Prop := va_En "ClockedChip$Step" "LClockedChip$Step;" nmS FS g.adS A U H
def EnK (g : CG) (A : Nat → Prop) (U : State) (H : Heap) : Prop := va_En "ClockedChip$Kind" "LClockedChip$Kind;" nmK FK g.adK A U H
def ENV (g : CG) (A : Nat → Prop) (U : State) (H : Heap) : Prop :=
  EnS g A U H ∧ EnK g A U H ∧ va_Z "ClockedChip$1" "$SwitchMap$ClockedChip$Step" "[I" (.ref g.mapS) A U H ∧ va_Z "ClockedChip$1" "$SwitchMap$ClockedChip$Kind" "[I" (.ref g.mapK) A U H ∧
  va_T .int g.mapS 35 (fun j => .int (swLS.getD j 0)) A U H ∧ va_T .int g.mapK 16 (fun j => .int (swLK.getD j 0)) A U H ∧ NW U
theorem NW_warm {s U : State} (hW : s.WarmedH U.vm) (h : NW s) : NW U := fun w hw hn => by
  cases w with
  | fieldLinkNest a i b n d hh => exact va_Nw.warmF hW (h _ hw hn)
  | methodLinkNest a i x hh => exact va_Nw.warmM hW (h _ hw hn)
  | _ => simp [isNest] at hn
theorem NW_same {s U : State} (hv : s.vm = U.vm) (h : NW s) : NW U := fun w hw hn => by
  cases w with
  | fieldLinkNest a i b n d hh => exact va_Nw.same rfl hv (h _ hw hn)
  | methodLinkNest a i x hh => exact va_Nw.same rfl hv (h _ hw hn)
  | _ => simp [isNest] at hn
theorem ENV_warm {g : CG} {A : Nat → Prop} {s U : State} {H : Heap} (hW : s.WarmedH U.vm) (h : ENV g A s H) : ENV g A U H :=
  ⟨va_En.moved hW.alike h.1, va_En.moved hW.alike h.2.1, va_Z.moved hW.alike h.2.2.1, va_Z.moved hW.alike h.2.2.2.1, va_T.moved hW.alike h.2.2.2.2.1, va_T.moved hW.alike h.2.2.2.2.2.1, NW_warm hW h.2.2.2.2.2.2⟩
theorem ENV_same {g : CG} {A : Nat → Prop} {s U : State} {H : Heap} (hv : s.vm = U.vm) (h : ENV g A s H) : ENV g A U H :=
  have hA : s.vm.Alike U.vm := hv ▸ Vm.Alike.refl s.vm
  ⟨va_En.moved hA h.1, va_En.moved hA h.2.1, va_Z.moved hA h.2.2.1, va_Z.moved hA h.2.2.2.1, va_T.moved hA h.2.2.2.2.1, va_T.moved hA h.2.2.2.2.2.1, NW_same hv h.2.2.2.2.2.2⟩
theorem ENV_kept {g : CG} {A : Nat → Prop} {U : State} {H H1 : Heap} (h : ENV g A U H) (hq : ∀ a : Nat, a < H.size → ¬ A a → H1[a]? = H[a]?) : ENV g A U H1 :=
  ⟨va_En.kept h.1 hq, va_En.kept h.2.1 hq, va_Z.kept h.2.2.1 hq, va_Z.kept h.2.2.2.1 hq, va_T.kept h.2.2.2.2.1 hq, va_T.kept h.2.2.2.2.2.1 hq, h.2.2.2.2.2.2⟩
theorem ENV_narrow {g : CG} {A B : Nat → Prop} {U : State} {H : Heap} (h : ENV g A U H) (hAB : ∀ q, B q → A q) : ENV g B U H :=
  ⟨va_En.narrow h.1 hAB, va_En.narrow h.2.1 hAB, va_Z.narrow h.2.2.1 hAB, va_Z.narrow h.2.2.2.1 hAB, va_T.narrow h.2.2.2.2.1 hAB, va_T.narrow h.2.2.2.2.2.1 hAB, h.2.2.2.2.2.2⟩
end
section
/-! my own frame: pure steps, the world in a walk, contracts over a whole world, calls -/
def bS {α β : Type} (x : α) (f : α → β) : β := f x
def bP {α β γ : Type} (x : α × β) (f : α → β → γ) : γ := f x.1 x.2
theorem bS_go {α β : Type} {x y : α} {f : α → β} {r : β} (h : bS x f = r) (e : x = y) : f y = r := by subst e; exact h
theorem bP_go {α β γ : Type} {x : α × β} {a : α} {b : β} {f : α → β → γ} {r : γ} (h : bP x f = r) (e : x = (a, b)) : f a b = r := by subst e; exact h
theorem if_go {α : Type} {c : Prop} [Decidable c] {a b r : α} (h : (if c then a else b) = r) (hc : c) : a = r := by rw [if_pos hc] at h; exact h
theorem if_no {α : Type} {c : Prop} [Decidable c] {a b r : α} (h : (if c then a else b) = r) (hc : ¬ c) : b = r := by rw [if_neg hc] at h; exact h
theorem b0 : (0 : Int32) = 0 ∨ (0 : Int32) = 1 := Or.inl rfl
theorem b1 : (1 : Int32) = 0 ∨ (1 : Int32) = 1 := Or.inr rfl
theorem ck_nz {x : Int32} (h : x = 0 ∨ x = 1) : narrow .boolean (.int x) = .int x := by rcases h with rfl | rfl <;> rfl
theorem ck_fz {x : Int32} (h : x = 0 ∨ x = 1) : fits .boolean (.int x) = true := by rcases h with rfl | rfl <;> rfl
theorem ck_fr {A : Nat → Prop} {ws : va_W} {H0 H : Heap} {locs : List Loc} (hD : va_D A ws) (hS : va_S A H0 H locs) (hA : ∀ q, H0.size ≤ q → A q) : ∀ q, va_A ws H.size q → A q := by
  intro q h
  rcases h with ⟨k, e, h⟩ | h
  · exact hD.2 k (q, e) h
  · exact hA q (Nat.le_trans hS.1 h)
/-- what stands through a walk: machine, code, words, classes, constants, frame -/
def FX (p : Program) (m : MethodId) (c : Code) (cc : ByteArray) (nL : Nat) (s : State) (args : Array Value) (own : String) (g : CG) (A : Nat → Prop) : Prop :=
  (p.tables.exec = Jvm.exec ∧ c.code = cc ∧ c.maxLocals = nL ∧ s.vm.findClass own = some m.cls ∧ ∀ w ∈ ALL, w.before args s = true) ∧ va_K g.1 CL (tysG g) s ∧ ENV g A s s.heap ∧ ∀ q, s.heap.size ≤ q → A q
/-- the world now -/
def HC (g : CG) (A : Nat → Prop) (s : State) (ws : va_W) (H : Heap) (locs : List Loc) : Prop := va_P g.1 CL ws H ∧ va_D A ws ∧ va_S A s.heap H locs
def pre7 (g : CG) (ws : va_W) (sz : Nat) (U : State) : Prop := U.heap.size = sz ∧ va_P g.1 CL ws U.heap ∧ va_K g.1 CL (tysG g) U ∧ va_D (fun _ => True) ws ∧ ENV g (va_A ws sz) U U.heap
def post7 (g : CG) (w0 w1 : va_W) (sz : Nat) (t : State) : Prop := va_P g.1 CL w1 t.heap ∧ va_K g.1 CL (tysG g) t ∧ va_D (va_A w0 sz) w1
theorem pre7_blind {g : CG} {ws : va_W} {sz : Nat} {av : List Value} : FrameBlind (va_Pc av (pre7 g ws sz)) := fun a U f mk q => by
  obtain ⟨q0, q1, qP, qK, qD, qE⟩ := q
  exact ⟨q0, q1, qP, va_K.moved (u := U) (U := U.calling f mk a) (Vm.Alike.refl U.vm) qK, qD, ENV_same (s := U) (U := U.calling f mk a) rfl qE⟩
section KA
variable {σ : Type}
/-- contracts of methods that keep the world's shape: an int, nothing, a long, a constant comes back -/
def KI (l : Launch) (g : CG) (y : MethodName) (ws : List Cond) (rm : Room) (av : List Value) (Wd : σ → va_W) (st : σ) (f : Int32 × σ) : Prop :=
  ∀ sz : Nat, Met l y ws rm (va_Pc av (pre7 g (Wd st) sz)) (va_Qi (fun r u => f = (r, u)) (fun u t => post7 g (Wd st) (Wd u) sz t) (va_A (Wd st) sz)) 0 0 (va_A (Wd st) sz)
def KJ (l : Launch) (g : CG) (y : MethodName) (ws : List Cond) (rm : Room) (av : List Value) (Wd : σ → va_W) (st : σ) (f : Int64 × σ) : Prop :=
  ∀ sz : Nat, Met l y ws rm (va_Pc av (pre7 g (Wd st) sz)) (va_Ql (fun r u => f = (r, u)) (fun u t => post7 g (Wd st) (Wd u) sz t) (va_A (Wd st) sz)) 0 0 (va_A (Wd st) sz)
def KV (l : Launch) (g : CG) (y : MethodName) (ws : List Cond) (rm : Room) (av : List Value) (Wd : σ → va_W) (st : σ) (f : σ) : Prop :=
  ∀ sz : Nat, Met l y ws rm (va_Pc av (pre7 g (Wd st) sz)) (va_Qv (fun u => f = u) (fun u t => post7 g (Wd st) (Wd u) sz t) (va_A (Wd st) sz)) 0 0 (va_A (Wd st) sz)
def KE (ad : Nat → Nat) (N : Nat) (l : Launch) (g : CG) (y : MethodName) (ws : List Cond) (rm : Room) (av : List Value) (Wd : σ → va_W) (st : σ) (f : Fin N × σ) : Prop :=
  ∀ sz : Nat, Met l y ws rm (va_Pc av (pre7 g (Wd st) sz)) (va_Qr (fun u => f = u) (fun u a t => a = ad u.1.val ∧ post7 g (Wd st) (Wd u.2) sz t) (va_A (Wd st) sz)) 0 0 (va_A (Wd st) sz)
end KA
section KW
variable {σ : Type} {p : Program} {l : Launch} {e : Env} {R : Room} {s : State} {m : MethodId} {args : Array Value} {below : List Frame} {meth : Method} {c : Code} {H : Heap} {locs : List Loc} {cells slots : Nat} {Q : State → Prop}
variable {cc bytes : ByteArray} {pc nL maxL index : Nat} {ls : Array Slot} {rest st0 : List Value} {own host : String} {g : CG} {A : Nat → Prop} {y : MethodName} {ret : Option FieldType} {rm : Room} {Wd : σ → va_W} {st : σ} {As : List Value} {b q0 ci : Nat} {fs : List Value} {q : vw_C}
theorem FX_xb (X : FX p m c cc nL s args own g A) : p.tables.exec = Jvm.exec ∧ c.code = cc := ⟨X.1.1, X.1.2.1⟩
theorem HC_pre (X : FX p m c cc nL s args own g A) (hC : HC g A s (Wd st) H locs) (av : List Value) : PreS s H (va_Pc av (pre7 g (Wd st) H.size)) av := by
  obtain ⟨hP, hD, hS⟩ := hC
  obtain ⟨-, hK, hE, hA⟩ := X
  exact ⟨pre7_blind, fun U hU hW => ⟨rfl, by rw [hU], by rw [hU]; exact hP, va_K.moved hW.alike hK, hD.weaken (fun _ _ _ _ => trivial), by rw [hU]; exact ENV_narrow (ENV_warm hW (ENV_kept hE hS.2.1)) (ck_fr hD hS hA)⟩⟩
theorem HC_behind {w1 : va_W} {t : State} {H1 : Heap} {locs1 : List Loc} (X : FX p m c cc nL s args own g A) (hC : HC g A s (Wd st) H locs) (ht : t.heap = H1) (hB : post7 g (Wd st) w1 H.size t) (hS : va_S A s.heap H1 locs1) : HC g A s w1 H1 locs1 :=
  ⟨by rw [← ht]; exact hB.1, hB.2.2.weaken (fun _ _ _ h => ck_fr hC.2.1 hC.2.2 X.2.2.2 _ h), hS⟩
abbrev CNV (R : Room) (s : State) (args : Array Value) (own host : String) (index : Nat) (y : MethodName) (bytes : ByteArray) (maxL : Nat) (ret : Option FieldType) (rm : Room) (n : Nat) : Prop :=
  va_CN R s args own index y host bytes maxL ret (Cond.code y bytes maxL ret :: ALL) rm 0 0 n ∧ (Cond.instanceMethod y).before args s = true ∧ (Cond.selects y.cls y y).before args s = true
theorem callIN {f : Int32 × σ} (X : FX p m c cc nL s args own g A) (hM : KI l g y (Cond.code y bytes maxL ret :: ALL) rm (.ref b :: As) Wd st f) (hC : HC g A s (Wd st) H locs)
    (cn : CNV R s args own host index y bytes maxL ret rm As.length) (he : (Wd st)[q0]? = some (b, .inr (ci, fs))) (hc : CL[ci]? = some q) (hq : q.1 = y.cls) (hsize : ls.size = nL) (hroom : (rest.map fun v => v.category).sum ≤ 8) (hst : st0 = As.reverse ++ .ref b :: rest) (hdg : decode cc pc = .ok (.invokevirtual index, 3)) (hf : cells ≤ R.cells ∧ slots ≤ R.slots)
    (kk : ∀ (r : Int32) (u : σ) (H1 : Heap) (locs1 : List Loc), f = (r, u) → HC g A s (Wd u) H1 locs1 → W p l e R s m args below meth c H1 locs1 cells slots Q (F0 m (pc + 3) ls (.int r :: rest))) : W p l e R s m args below meth c H locs cells slots Q (F0 m pc ls st0) := by
  have hpre := HC_pre X hC (.ref b :: As)
  have hrec := va_recv X.2.1 hC.1 hc he
  rw [hq] at hrec
  refine va_calli (va_runVN (As := As) (rest := rest) X.1 (hM H.size) cn ⟨hpre.1, hrec, hpre.2⟩ rfl rfl hsize hst (lv_room hroom) hdg hf) hC.2.2 (fun q _ h => ck_fr hC.2.1 hC.2.2 X.2.2.2 q h) (ck_fr hC.2.1 hC.2.2 X.2.2.2) (fun r u t H1 locs1 ht hvm hw hB hz1 hk1 hS => kk r u H1 locs1 hw (HC_behind X hC ht hB hS))
theorem callVN {f : σ} (X : FX p m c cc nL s args own g A) (hM : KV l g y (Cond.code y bytes maxL ret :: ALL) rm (.ref b :: As) Wd st f) (hC : HC g A s (Wd st) H locs)
    (cn : CNV R s args own host index y bytes maxL ret rm As.length) (he : (Wd st)[q0]? = some (b, .inr (ci, fs))) (hc : CL[ci]? = some q) (hq : q.1 = y.cls) (hsize : ls.size = nL) (hroom : (rest.map fun v => v.category).sum ≤ 8) (hst : st0 = As.reverse ++ .ref b :: rest) (hdg : decode cc pc = .ok (.invokevirtual index, 3)) (hf : cells ≤ R.cells ∧ slots ≤ R.slots)
    (kk : ∀ (u : σ) (H1 : Heap) (locs1 : List Loc), f = u → HC g A s (Wd u) H1 locs1 → W p l e R s m args below meth c H1 locs1 cells slots Q (F0 m (pc + 3) ls rest)) : W p l e R s m args below meth c H locs cells slots Q (F0 m pc ls st0) := by
  have hpre := HC_pre X hC (.ref b :: As)
  have hrec := va_recv X.2.1 hC.1 hc he
  rw [hq] at hrec
  refine va_callv (va_runVN (As := As) (rest := rest) X.1 (hM H.size) cn ⟨hpre.1, hrec, hpre.2⟩ rfl rfl hsize hst (lv_room hroom) hdg hf) hC.2.2 (fun q _ h => ck_fr hC.2.1 hC.2.2 X.2.2.2 q h) (ck_fr hC.2.1 hC.2.2 X.2.2.2) (fun u t H1 locs1 ht hvm hw hB hz1 hk1 hS => kk u H1 locs1 hw (HC_behind X hC ht hB hS))
theorem callJN {f : Int64 × σ} (X : FX p m c cc nL s args own g A) (hM : KJ l g y (Cond.code y bytes maxL ret :: ALL) rm (.ref b :: As) Wd st f) (hC : HC g A s (Wd st) H locs)
    (cn : CNV R s args own host index y bytes maxL ret rm As.length) (he : (Wd st)[q0]? = some (b, .inr (ci, fs))) (hc : CL[ci]? = some q) (hq : q.1 = y.cls) (hsize : ls.size = nL) (hroom : (rest.map fun v => v.category).sum ≤ 8) (hst : st0 = As.reverse ++ .ref b :: rest) (hdg : decode cc pc = .ok (.invokevirtual index, 3)) (hf : cells ≤ R.cells ∧ slots ≤ R.slots)
    (kk : ∀ (r : Int64) (u : σ) (H1 : Heap) (locs1 : List Loc), f = (r, u) → HC g A s (Wd u) H1 locs1 → W p l e R s m args below meth c H1 locs1 cells slots Q (F0 m (pc + 3) ls (.long r :: rest))) : W p l e R s m args below meth c H locs cells slots Q (F0 m pc ls st0) := by
  have hpre := HC_pre X hC (.ref b :: As)
  have hrec := va_recv X.2.1 hC.1 hc he
  rw [hq] at hrec
  refine va_calll (va_runVN (As := As) (rest := rest) X.1 (hM H.size) cn ⟨hpre.1, hrec, hpre.2⟩ rfl rfl hsize hst (lv_room hroom) hdg hf) hC.2.2 (fun q _ h => ck_fr hC.2.1 hC.2.2 X.2.2.2 q h) (ck_fr hC.2.1 hC.2.2 X.2.2.2) (fun r u t H1 locs1 ht hvm hw hB hz1 hk1 hS => kk r u H1 locs1 hw (HC_behind X hC ht hB hS))
theorem callEN {ad : Nat → Nat} {N : Nat} {f : Fin N × σ} (X : FX p m c cc nL s args own g A) (hM : KE ad N l g y (Cond.code y bytes maxL ret :: ALL) rm (.ref b :: As) Wd st f) (hC : HC g A s (Wd st) H locs)
    (cn : CNV R s args own host index y bytes maxL ret rm As.length) (he : (Wd st)[q0]? = some (b, .inr (ci, fs))) (hc : CL[ci]? = some q) (hq : q.1 = y.cls) (hsize : ls.size = nL) (hroom : (rest.map fun v => v.category).sum ≤ 8) (hst : st0 = As.reverse ++ .ref b :: rest) (hdg : decode cc pc = .ok (.invokevirtual index, 3)) (hf : cells ≤ R.cells ∧ slots ≤ R.slots)
    (kk : ∀ (r : Fin N) (u : σ) (H1 : Heap) (locs1 : List Loc), f = (r, u) → HC g A s (Wd u) H1 locs1 → W p l e R s m args below meth c H1 locs1 cells slots Q (F0 m (pc + 3) ls (.ref (ad r.val) :: rest))) : W p l e R s m args below meth c H locs cells slots Q (F0 m pc ls st0) := by
  have hpre := HC_pre X hC (.ref b :: As)
  have hrec := va_recv X.2.1 hC.1 hc he
  rw [hq] at hrec
  refine va_callr (va_runVN (As := As) (rest := rest) X.1 (hM H.size) cn ⟨hpre.1, hrec, hpre.2⟩ rfl rfl hsize hst (lv_room hroom) hdg hf) hC.2.2 (fun q _ h => ck_fr hC.2.1 hC.2.2 X.2.2.2 q h) (ck_fr hC.2.1 hC.2.2 X.2.2.2) (fun u a t H1 locs1 ht hvm hw hB hz1 hk1 hS => ?_)
  obtain ⟨rfl, hB⟩ := hB
  exact kk u.1 u.2 H1 locs1 hw (HC_behind X hC ht hB hS)
end KW
section KO
variable {σ : Type} {l : Launch} {g : CG} {y : MethodName} {cc : ByteArray} {nL : Nat} {rm : Room} {av : List Value} {Wd : σ → va_W} {st : σ}
theorem KI.ofW {f : Int32 × σ} (hy : plainName y.cls = true) (hlen : (lg_sl av).length ≤ nL)
    (body : ∀ (p : Program) (e : Env) (s : State) (m : MethodId) (args : Array Value) (below : List Frame) (meth : Method) (c : Code) (A : Nat → Prop) (Q : State → Prop) (ls : Array Slot) (Rv : Int32 × σ), FX p m c cc nL s args y.cls g A → f = Rv →
      (∀ {pc : Nat} {ls : Array Slot} {H : Heap} {locs : List Loc} {r : Int32} {u : σ}, decode cc pc = .ok (.ireturn, 1) → HC g A s (Wd u) H locs → (r, u) = Rv → W p l e rm s m args below meth c H locs 0 0 Q (F0 m pc ls [.int r])) →
      HC g A s (Wd st) s.heap [] → lv_has ls nL (lv_args 0 av) → W p l e rm s m args below meth c s.heap [] 0 0 Q (F0 m 0 ls [])) : KI l g y (Cond.code y cc nL (some .int) :: ALL) rm av Wd st f := by
  intro sz
  refine Met.ofW (cc := cc) (maxL := nL) (ret := (some .int)) hy rfl ?_
  intro p e s m args below meth c s₁ B hml hv
  obtain ⟨rfl, hsz, hP, hK, hD0, hE⟩ := hv
  have hts := atoms_spec (ws := Cond.code y cc nL (some .int) :: ALL) B.pre
  have hown : s.vm.findClass y.cls = some m.cls := findClass_of_methodNamed B.named
  have hlocks := B.notSynchronized
  subst hsz
  have hD := hD0.self (sz := s.heap.size)
  have hl := lv_entry av (n := nL) hlen
  rw [lg_entry_eq]
  exact body p e s m _ below meth c (va_A (Wd st) s.heap.size) _ _ f ⟨⟨B.exec, B.bytes, hml, hown, fun w h => hts w (List.mem_cons_of_mem _ h)⟩, hK, hE, fun q h => Or.inr h⟩ rfl
    (fun hdg hC he => W.iret B.exec B.bytes B.returns (fun t ht hW => ⟨⟨_, _, rfl, he.symm, by rw [ht]; exact hC.1, va_K.moved hW.alike hK, hC.2.1⟩, hC.2.2.F ht⟩) hC.2.2.2.2 hdg) ⟨hP, hD, va_S.rf⟩ hl
theorem KZ.ofW {f : Int32 × σ} (hy : plainName y.cls = true) (hlen : (lg_sl av).length ≤ nL)
    (body : ∀ (p : Program) (e : Env) (s : State) (m : MethodId) (args : Array Value) (below : List Frame) (meth : Method) (c : Code) (A : Nat → Prop) (Q : State → Prop) (ls : Array Slot) (Rv : Int32 × σ), FX p m c cc nL s args y.cls g A → f = Rv →
      (∀ {pc : Nat} {ls : Array Slot} {H : Heap} {locs : List Loc} {r : Int32} {u : σ}, decode cc pc = .ok (.ireturn, 1) → (r = 0 ∨ r = 1) → HC g A s (Wd u) H locs → (r, u) = Rv → W p l e rm s m args below meth c H locs 0 0 Q (F0 m pc ls [.int r])) →
      HC g A s (Wd st) s.heap [] → lv_has ls nL (lv_args 0 av) → W p l e rm s m args below meth c s.heap [] 0 0 Q (F0 m 0 ls [])) : KI l g y (Cond.code y cc nL (some .boolean) :: ALL) rm av Wd st f := by
  intro sz
  refine Met.ofW (cc := cc) (maxL := nL) (ret := (some .boolean)) hy rfl ?_
  intro p e s m args below meth c s₁ B hml hv
  obtain ⟨rfl, hsz, hP, hK, hD0, hE⟩ := hv
  have hts := atoms_spec (ws := Cond.code y cc nL (some .boolean) :: ALL) B.pre
  have hown : s.vm.findClass y.cls = some m.cls := findClass_of_methodNamed B.named
  have hlocks := B.notSynchronized
  subst hsz
  have hD := hD0.self (sz := s.heap.size)
  have hl := lv_entry av (n := nL) hlen
  rw [lg_entry_eq]
  exact body p e s m _ below meth c (va_A (Wd st) s.heap.size) _ _ f ⟨⟨B.exec, B.bytes, hml, hown, fun w h => hts w (List.mem_cons_of_mem _ h)⟩, hK, hE, fun q h => Or.inr h⟩ rfl
    (fun hdg hz hC he => W.zret B.exec B.bytes B.returns (ck_nz hz) (fun t ht hW => ⟨⟨_, _, rfl, he.symm, by rw [ht]; exact hC.1, va_K.moved hW.alike hK, hC.2.1⟩, hC.2.2.F ht⟩) hC.2.2.2.2 hdg) ⟨hP, hD, va_S.rf⟩ hl
theorem KJ.ofW {f : Int64 × σ} (hy : plainName y.cls = true) (hlen : (lg_sl av).length ≤ nL)
    (body : ∀ (p : Program) (e : Env) (s : State) (m : MethodId) (args : Array Value) (below : List Frame) (meth : Method) (c : Code) (A : Nat → Prop) (Q : State → Prop) (ls : Array Slot) (Rv : Int64 × σ), FX p m c cc nL s args y.cls g A → f = Rv →
      (∀ {pc : Nat} {ls : Array Slot} {H : Heap} {locs : List Loc} {r : Int64} {u : σ}, decode cc pc = .ok (.lreturn, 1) → HC g A s (Wd u) H locs → (r, u) = Rv → W p l e rm s m args below meth c H locs 0 0 Q (F0 m pc ls [.long r])) →
      HC g A s (Wd st) s.heap [] → lv_has ls nL (lv_args 0 av) → W p l e rm s m args below meth c s.heap [] 0 0 Q (F0 m 0 ls [])) : KJ l g y (Cond.code y cc nL (some .long) :: ALL) rm av Wd st f := by
  intro sz
  refine Met.ofW (cc := cc) (maxL := nL) (ret := (some .long)) hy rfl ?_
  intro p e s m args below meth c s₁ B hml hv
  obtain ⟨rfl, hsz, hP, hK, hD0, hE⟩ := hv
  have hts := atoms_spec (ws := Cond.code y cc nL (some .long) :: ALL) B.pre
  have hown : s.vm.findClass y.cls = some m.cls := findClass_of_methodNamed B.named
  have hlocks := B.notSynchronized
  subst hsz
  have hD := hD0.self (sz := s.heap.size)
  have hl := lv_entry av (n := nL) hlen
  rw [lg_entry_eq]
  exact body p e s m _ below meth c (va_A (Wd st) s.heap.size) _ _ f ⟨⟨B.exec, B.bytes, hml, hown, fun w h => hts w (List.mem_cons_of_mem _ h)⟩, hK, hE, fun q h => Or.inr h⟩ rfl
    (fun hdg hC he => W.lret B.exec B.bytes B.returns (fun t ht hW => ⟨⟨_, _, rfl, he.symm, by rw [ht]; exact hC.1, va_K.moved hW.alike hK, hC.2.1⟩, hC.2.2.F ht⟩) hC.2.2.2.2 hdg) ⟨hP, hD, va_S.rf⟩ hl
theorem KV.ofW {f : σ} (hy : plainName y.cls = true) (hlen : (lg_sl av).length ≤ nL)
    (body : ∀ (p : Program) (e : Env) (s : State) (m : MethodId) (args : Array Value) (below : List Frame) (meth : Method) (c : Code) (A : Nat → Prop) (Q : State → Prop) (ls : Array Slot) (Rv : σ), FX p m c cc nL s args y.cls g A → f = Rv →
      (∀ {pc : Nat} {ls : Array Slot} {H : Heap} {locs : List Loc} {u : σ}, decode cc pc = .ok (.return_, 1) → HC g A s (Wd u) H locs → u = Rv → W p l e rm s m args below meth c H locs 0 0 Q (F0 m pc ls [])) →
      HC g A s (Wd st) s.heap [] → lv_has ls nL (lv_args 0 av) → W p l e rm s m args below meth c s.heap [] 0 0 Q (F0 m 0 ls [])) : KV l g y (Cond.code y cc nL none :: ALL) rm av Wd st f := by
  intro sz
  refine Met.ofW (cc := cc) (maxL := nL) (ret := none) hy rfl ?_
  intro p e s m args below meth c s₁ B hml hv
  obtain ⟨rfl, hsz, hP, hK, hD0, hE⟩ := hv
  have hts := atoms_spec (ws := Cond.code y cc nL none :: ALL) B.pre
  have hown : s.vm.findClass y.cls = some m.cls := findClass_of_methodNamed B.named
  have hlocks := B.notSynchronized
  subst hsz
  have hD := hD0.self (sz := s.heap.size)
  have hl := lv_entry av (n := nL) hlen
  rw [lg_entry_eq]
  exact body p e s m _ below meth c (va_A (Wd st) s.heap.size) _ _ f ⟨⟨B.exec, B.bytes, hml, hown, fun w h => hts w (List.mem_cons_of_mem _ h)⟩, hK, hE, fun q h => Or.inr h⟩ rfl
    (fun hdg hC he => W.vret B.exec B.bytes B.returns (fun t ht hW => ⟨⟨_, rfl, he.symm, by rw [ht]; exact hC.1, va_K.moved hW.alike hK, hC.2.1⟩, hC.2.2.F ht⟩) hC.2.2.2.2 hdg) ⟨hP, hD, va_S.rf⟩ hl
theorem KE.ofW {E : String} {ad : Nat → Nat} {N : Nat} {f : Fin N × σ} (hy : plainName y.cls = true) (hlen : (lg_sl av).length ≤ nL)
    (body : ∀ (p : Program) (e : Env) (s : State) (m : MethodId) (args : Array Value) (below : List Frame) (meth : Method) (c : Code) (A : Nat → Prop) (Q : State → Prop) (ls : Array Slot) (Rv : Fin N × σ), FX p m c cc nL s args y.cls g A → f = Rv →
      (∀ {pc : Nat} {ls : Array Slot} {H : Heap} {locs : List Loc} {r : Fin N} {u : σ}, decode cc pc = .ok (.areturn, 1) → HC g A s (Wd u) H locs → (r, u) = Rv → W p l e rm s m args below meth c H locs 0 0 Q (F0 m pc ls [.ref (ad r.val)])) →
      HC g A s (Wd st) s.heap [] → lv_has ls nL (lv_args 0 av) → W p l e rm s m args below meth c s.heap [] 0 0 Q (F0 m 0 ls [])) : KE ad N l g y (Cond.code y cc nL (some (.object E)) :: ALL) rm av Wd st f := by
  intro sz
  refine Met.ofW (cc := cc) (maxL := nL) (ret := (some (.object E))) hy rfl ?_
  intro p e s m args below meth c s₁ B hml hv
  obtain ⟨rfl, hsz, hP, hK, hD0, hE⟩ := hv
  have hts := atoms_spec (ws := Cond.code y cc nL (some (.object E)) :: ALL) B.pre
  have hown : s.vm.findClass y.cls = some m.cls := findClass_of_methodNamed B.named
  have hlocks := B.notSynchronized
  subst hsz
  have hD := hD0.self (sz := s.heap.size)
  have hl := lv_entry av (n := nL) hlen
  rw [lg_entry_eq]
  exact body p e s m _ below meth c (va_A (Wd st) s.heap.size) _ _ f ⟨⟨B.exec, B.bytes, hml, hown, fun w h => hts w (List.mem_cons_of_mem _ h)⟩, hK, hE, fun q h => Or.inr h⟩ rfl
    (fun hdg hC he => W.aret B.exec B.bytes B.returns (Or.inl ⟨_, rfl⟩) (Or.inr ⟨_, rfl⟩) (fun t ht hW => ⟨⟨_, _, rfl, he.symm, rfl, by rw [ht]; exact hC.1, va_K.moved hW.alike hK, hC.2.1⟩, hC.2.2.F ht⟩) hC.2.2.2.2 hdg) ⟨hP, hD, va_S.rf⟩ hl
end KO
end

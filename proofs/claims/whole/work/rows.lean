section
-- ===== PART A: goes FIRST, ahead of the names: the tables' words, and 'selects' of the private methods out of them =====
/-- a private method of a class that the tables say can be made, by its rows of tables_1 -/
def lw_okq (q : MethodName × Nat) : Prop := (q.1.cls ≠ "java/lang/invoke/MethodHandle" ∧ q.1.cls ≠ "java/lang/invoke/VarHandle") ∧ Cond.instantiable q.1.cls q.2 ∈ tables_1 ∧ Cond.privateMethod q.1 ∈ tables_1 ∧ Cond.instanceMethod q.1 ∈ tables_1
theorem lw_p0 : lw_okq (⟨"ClockedChip", "runCycle", "()I"⟩, 13) := ⟨⟨by decide +kernel, by decide +kernel⟩, List.mem_of_getElem? (i := 15) (by decide +kernel), List.mem_of_getElem? (i := 111) (by decide +kernel), List.mem_of_getElem? (i := 112) (by decide +kernel)⟩
theorem lw_p1 : lw_okq (⟨"ClockedChip", "addressOfStep", "()I"⟩, 13) := ⟨⟨by decide +kernel, by decide +kernel⟩, List.mem_of_getElem? (i := 15) (by decide +kernel), List.mem_of_getElem? (i := 115) (by decide +kernel), List.mem_of_getElem? (i := 116) (by decide +kernel)⟩
theorem lw_p2 : lw_okq (⟨"ClockedChip", "byteToWrite", "()I"⟩, 13) := ⟨⟨by decide +kernel, by decide +kernel⟩, List.mem_of_getElem? (i := 15) (by decide +kernel), List.mem_of_getElem? (i := 123) (by decide +kernel), List.mem_of_getElem? (i := 124) (by decide +kernel)⟩
theorem lw_p3 : lw_okq (⟨"ClockedChip$Registers", "changed", "(II)I"⟩, 6) := ⟨⟨by decide +kernel, by decide +kernel⟩, List.mem_of_getElem? (i := 23) (by decide +kernel), List.mem_of_getElem? (i := 135) (by decide +kernel), List.mem_of_getElem? (i := 136) (by decide +kernel)⟩
theorem lw_p4 : lw_okq (⟨"ClockedChip$Registers", "p", "()I"⟩, 6) := ⟨⟨by decide +kernel, by decide +kernel⟩, List.mem_of_getElem? (i := 23) (by decide +kernel), List.mem_of_getElem? (i := 139) (by decide +kernel), List.mem_of_getElem? (i := 140) (by decide +kernel)⟩
theorem lw_p5 : lw_okq (⟨"ClockedChip", "afterWrite", "()V"⟩, 13) := ⟨⟨by decide +kernel, by decide +kernel⟩, List.mem_of_getElem? (i := 15) (by decide +kernel), List.mem_of_getElem? (i := 145) (by decide +kernel), List.mem_of_getElem? (i := 146) (by decide +kernel)⟩
theorem lw_p6 : lw_okq (⟨"ClockedChip$Registers", "flagsOfChange", "(II)V"⟩, 6) := ⟨⟨by decide +kernel, by decide +kernel⟩, List.mem_of_getElem? (i := 23) (by decide +kernel), List.mem_of_getElem? (i := 151) (by decide +kernel), List.mem_of_getElem? (i := 152) (by decide +kernel)⟩
theorem lw_p7 : lw_okq (⟨"ClockedChip$Registers", "put", "(IZ)V"⟩, 6) := ⟨⟨by decide +kernel, by decide +kernel⟩, List.mem_of_getElem? (i := 23) (by decide +kernel), List.mem_of_getElem? (i := 155) (by decide +kernel), List.mem_of_getElem? (i := 156) (by decide +kernel)⟩
theorem lw_p8 : lw_okq (⟨"ClockedChip$Registers", "putNz", "(I)V"⟩, 6) := ⟨⟨by decide +kernel, by decide +kernel⟩, List.mem_of_getElem? (i := 23) (by decide +kernel), List.mem_of_getElem? (i := 160) (by decide +kernel), List.mem_of_getElem? (i := 161) (by decide +kernel)⟩
theorem lw_p9 : lw_okq (⟨"ClockedChip", "end", "()V"⟩, 13) := ⟨⟨by decide +kernel, by decide +kernel⟩, List.mem_of_getElem? (i := 15) (by decide +kernel), List.mem_of_getElem? (i := 164) (by decide +kernel), List.mem_of_getElem? (i := 165) (by decide +kernel)⟩
theorem lw_p10 : lw_okq (⟨"ClockedChip$Registers", "has", "(I)Z"⟩, 6) := ⟨⟨by decide +kernel, by decide +kernel⟩, List.mem_of_getElem? (i := 23) (by decide +kernel), List.mem_of_getElem? (i := 168) (by decide +kernel), List.mem_of_getElem? (i := 169) (by decide +kernel)⟩
theorem lw_p11 : lw_okq (⟨"ClockedChip", "begin", "(LClockedChip$Kind;LClockedChip$Step;)V"⟩, 13) := ⟨⟨by decide +kernel, by decide +kernel⟩, List.mem_of_getElem? (i := 15) (by decide +kernel), List.mem_of_getElem? (i := 176) (by decide +kernel), List.mem_of_getElem? (i := 177) (by decide +kernel)⟩
theorem lw_p12 : lw_okq (⟨"ClockedChip$Registers", "moveStack", "(I)V"⟩, 6) := ⟨⟨by decide +kernel, by decide +kernel⟩, List.mem_of_getElem? (i := 23) (by decide +kernel), List.mem_of_getElem? (i := 180) (by decide +kernel), List.mem_of_getElem? (i := 181) (by decide +kernel)⟩
theorem lw_p13 : lw_okq (⟨"ClockedChip", "afterRead", "(I)V"⟩, 13) := ⟨⟨by decide +kernel, by decide +kernel⟩, List.mem_of_getElem? (i := 15) (by decide +kernel), List.mem_of_getElem? (i := 195) (by decide +kernel), List.mem_of_getElem? (i := 196) (by decide +kernel)⟩
theorem lw_p14 : lw_okq (⟨"ClockedChip", "afterFetch", "(I)V"⟩, 13) := ⟨⟨by decide +kernel, by decide +kernel⟩, List.mem_of_getElem? (i := 15) (by decide +kernel), List.mem_of_getElem? (i := 199) (by decide +kernel), List.mem_of_getElem? (i := 200) (by decide +kernel)⟩
theorem lw_p15 : lw_okq (⟨"ClockedChip$Registers", "nextPc", "()V"⟩, 6) := ⟨⟨by decide +kernel, by decide +kernel⟩, List.mem_of_getElem? (i := 23) (by decide +kernel), List.mem_of_getElem? (i := 203) (by decide +kernel), List.mem_of_getElem? (i := 204) (by decide +kernel)⟩
def lw_privs_1 : List (MethodName × Nat) := [(⟨"ClockedChip", "runCycle", "()I"⟩, 13), (⟨"ClockedChip", "addressOfStep", "()I"⟩, 13), (⟨"ClockedChip", "byteToWrite", "()I"⟩, 13), (⟨"ClockedChip$Registers", "changed", "(II)I"⟩, 6), (⟨"ClockedChip$Registers", "p", "()I"⟩, 6), (⟨"ClockedChip", "afterWrite", "()V"⟩, 13), (⟨"ClockedChip$Registers", "flagsOfChange", "(II)V"⟩, 6), (⟨"ClockedChip$Registers", "put", "(IZ)V"⟩, 6), (⟨"ClockedChip$Registers", "putNz", "(I)V"⟩, 6), (⟨"ClockedChip", "end", "()V"⟩, 13), (⟨"ClockedChip$Registers", "has", "(I)Z"⟩, 6), (⟨"ClockedChip", "begin", "(LClockedChip$Kind;LClockedChip$Step;)V"⟩, 13), (⟨"ClockedChip$Registers", "moveStack", "(I)V"⟩, 6), (⟨"ClockedChip", "afterRead", "(I)V"⟩, 13), (⟨"ClockedChip", "afterFetch", "(I)V"⟩, 13), (⟨"ClockedChip$Registers", "nextPc", "()V"⟩, 6)]
theorem lw_r1 : ∀ q ∈ lw_privs_1, lw_okq q := List.forall_mem_cons.mpr ⟨lw_p0, List.forall_mem_cons.mpr ⟨lw_p1, List.forall_mem_cons.mpr ⟨lw_p2, List.forall_mem_cons.mpr ⟨lw_p3, List.forall_mem_cons.mpr ⟨lw_p4, List.forall_mem_cons.mpr ⟨lw_p5, List.forall_mem_cons.mpr ⟨lw_p6, List.forall_mem_cons.mpr ⟨lw_p7, List.forall_mem_cons.mpr ⟨lw_p8, List.forall_mem_cons.mpr ⟨lw_p9, List.forall_mem_cons.mpr ⟨lw_p10, List.forall_mem_cons.mpr ⟨lw_p11, List.forall_mem_cons.mpr ⟨lw_p12, List.forall_mem_cons.mpr ⟨lw_p13, List.forall_mem_cons.mpr ⟨lw_p14, List.forall_mem_cons.mpr ⟨lw_p15, fun _ h => absurd h List.not_mem_nil⟩⟩⟩⟩⟩⟩⟩⟩⟩⟩⟩⟩⟩⟩⟩⟩
theorem lw_p16 : lw_okq (⟨"ClockedChip", "kindWithoutOperand", "()LClockedChip$Kind;"⟩, 13) := ⟨⟨by decide +kernel, by decide +kernel⟩, List.mem_of_getElem? (i := 15) (by decide +kernel), List.mem_of_getElem? (i := 208) (by decide +kernel), List.mem_of_getElem? (i := 209) (by decide +kernel)⟩
theorem lw_p17 : lw_okq (⟨"ClockedChip", "kindWithOperand", "()LClockedChip$Kind;"⟩, 13) := ⟨⟨by decide +kernel, by decide +kernel⟩, List.mem_of_getElem? (i := 15) (by decide +kernel), List.mem_of_getElem? (i := 224) (by decide +kernel), List.mem_of_getElem? (i := 225) (by decide +kernel)⟩
theorem lw_p18 : lw_okq (⟨"ClockedChip", "secondStep", "()LClockedChip$Step;"⟩, 13) := ⟨⟨by decide +kernel, by decide +kernel⟩, List.mem_of_getElem? (i := 15) (by decide +kernel), List.mem_of_getElem? (i := 238) (by decide +kernel), List.mem_of_getElem? (i := 239) (by decide +kernel)⟩
theorem lw_p19 : lw_okq (⟨"ClockedChip", "secondStepByMode", "()LClockedChip$Step;"⟩, 13) := ⟨⟨by decide +kernel, by decide +kernel⟩, List.mem_of_getElem? (i := 15) (by decide +kernel), List.mem_of_getElem? (i := 247) (by decide +kernel), List.mem_of_getElem? (i := 248) (by decide +kernel)⟩
theorem lw_p20 : lw_okq (⟨"ClockedChip$Registers", "operate", "(II)V"⟩, 6) := ⟨⟨by decide +kernel, by decide +kernel⟩, List.mem_of_getElem? (i := 23) (by decide +kernel), List.mem_of_getElem? (i := 265) (by decide +kernel), List.mem_of_getElem? (i := 266) (by decide +kernel)⟩
theorem lw_p21 : lw_okq (⟨"ClockedChip$Registers", "loadA", "(I)V"⟩, 6) := ⟨⟨by decide +kernel, by decide +kernel⟩, List.mem_of_getElem? (i := 23) (by decide +kernel), List.mem_of_getElem? (i := 269) (by decide +kernel), List.mem_of_getElem? (i := 270) (by decide +kernel)⟩
theorem lw_p22 : lw_okq (⟨"ClockedChip$Registers", "add", "(I)V"⟩, 6) := ⟨⟨by decide +kernel, by decide +kernel⟩, List.mem_of_getElem? (i := 23) (by decide +kernel), List.mem_of_getElem? (i := 273) (by decide +kernel), List.mem_of_getElem? (i := 274) (by decide +kernel)⟩
theorem lw_p23 : lw_okq (⟨"ClockedChip$Registers", "addDecimal", "(I)V"⟩, 6) := ⟨⟨by decide +kernel, by decide +kernel⟩, List.mem_of_getElem? (i := 23) (by decide +kernel), List.mem_of_getElem? (i := 278) (by decide +kernel), List.mem_of_getElem? (i := 279) (by decide +kernel)⟩
theorem lw_p24 : lw_okq (⟨"ClockedChip$Registers", "carry", "()I"⟩, 6) := ⟨⟨by decide +kernel, by decide +kernel⟩, List.mem_of_getElem? (i := 23) (by decide +kernel), List.mem_of_getElem? (i := 282) (by decide +kernel), List.mem_of_getElem? (i := 283) (by decide +kernel)⟩
theorem lw_p25 : lw_okq (⟨"ClockedChip$Registers", "differsInSign", "(IZ)Z"⟩, 6) := ⟨⟨by decide +kernel, by decide +kernel⟩, List.mem_of_getElem? (i := 23) (by decide +kernel), List.mem_of_getElem? (i := 286) (by decide +kernel), List.mem_of_getElem? (i := 287) (by decide +kernel)⟩
theorem lw_p26 : lw_okq (⟨"ClockedChip$Registers", "flagsOfSum", "(II)V"⟩, 6) := ⟨⟨by decide +kernel, by decide +kernel⟩, List.mem_of_getElem? (i := 23) (by decide +kernel), List.mem_of_getElem? (i := 290) (by decide +kernel), List.mem_of_getElem? (i := 291) (by decide +kernel)⟩
theorem lw_p27 : lw_okq (⟨"ClockedChip$Registers", "subtract", "(I)V"⟩, 6) := ⟨⟨by decide +kernel, by decide +kernel⟩, List.mem_of_getElem? (i := 23) (by decide +kernel), List.mem_of_getElem? (i := 294) (by decide +kernel), List.mem_of_getElem? (i := 295) (by decide +kernel)⟩
theorem lw_p28 : lw_okq (⟨"ClockedChip$Registers", "decimalDifference", "(I)I"⟩, 6) := ⟨⟨by decide +kernel, by decide +kernel⟩, List.mem_of_getElem? (i := 23) (by decide +kernel), List.mem_of_getElem? (i := 298) (by decide +kernel), List.mem_of_getElem? (i := 299) (by decide +kernel)⟩
theorem lw_p29 : lw_okq (⟨"ClockedChip$Registers", "compare", "(I)V"⟩, 6) := ⟨⟨by decide +kernel, by decide +kernel⟩, List.mem_of_getElem? (i := 23) (by decide +kernel), List.mem_of_getElem? (i := 302) (by decide +kernel), List.mem_of_getElem? (i := 303) (by decide +kernel)⟩
theorem lw_p30 : lw_okq (⟨"ClockedChip$Registers", "loadX", "(I)V"⟩, 6) := ⟨⟨by decide +kernel, by decide +kernel⟩, List.mem_of_getElem? (i := 23) (by decide +kernel), List.mem_of_getElem? (i := 306) (by decide +kernel), List.mem_of_getElem? (i := 307) (by decide +kernel)⟩
theorem lw_p31 : lw_okq (⟨"ClockedChip$Registers", "loadY", "(I)V"⟩, 6) := ⟨⟨by decide +kernel, by decide +kernel⟩, List.mem_of_getElem? (i := 23) (by decide +kernel), List.mem_of_getElem? (i := 310) (by decide +kernel), List.mem_of_getElem? (i := 311) (by decide +kernel)⟩
def lw_privs_2 : List (MethodName × Nat) := [(⟨"ClockedChip", "kindWithoutOperand", "()LClockedChip$Kind;"⟩, 13), (⟨"ClockedChip", "kindWithOperand", "()LClockedChip$Kind;"⟩, 13), (⟨"ClockedChip", "secondStep", "()LClockedChip$Step;"⟩, 13), (⟨"ClockedChip", "secondStepByMode", "()LClockedChip$Step;"⟩, 13), (⟨"ClockedChip$Registers", "operate", "(II)V"⟩, 6), (⟨"ClockedChip$Registers", "loadA", "(I)V"⟩, 6), (⟨"ClockedChip$Registers", "add", "(I)V"⟩, 6), (⟨"ClockedChip$Registers", "addDecimal", "(I)V"⟩, 6), (⟨"ClockedChip$Registers", "carry", "()I"⟩, 6), (⟨"ClockedChip$Registers", "differsInSign", "(IZ)Z"⟩, 6), (⟨"ClockedChip$Registers", "flagsOfSum", "(II)V"⟩, 6), (⟨"ClockedChip$Registers", "subtract", "(I)V"⟩, 6), (⟨"ClockedChip$Registers", "decimalDifference", "(I)I"⟩, 6), (⟨"ClockedChip$Registers", "compare", "(I)V"⟩, 6), (⟨"ClockedChip$Registers", "loadX", "(I)V"⟩, 6), (⟨"ClockedChip$Registers", "loadY", "(I)V"⟩, 6)]
theorem lw_r2 : ∀ q ∈ lw_privs_2, lw_okq q := List.forall_mem_cons.mpr ⟨lw_p16, List.forall_mem_cons.mpr ⟨lw_p17, List.forall_mem_cons.mpr ⟨lw_p18, List.forall_mem_cons.mpr ⟨lw_p19, List.forall_mem_cons.mpr ⟨lw_p20, List.forall_mem_cons.mpr ⟨lw_p21, List.forall_mem_cons.mpr ⟨lw_p22, List.forall_mem_cons.mpr ⟨lw_p23, List.forall_mem_cons.mpr ⟨lw_p24, List.forall_mem_cons.mpr ⟨lw_p25, List.forall_mem_cons.mpr ⟨lw_p26, List.forall_mem_cons.mpr ⟨lw_p27, List.forall_mem_cons.mpr ⟨lw_p28, List.forall_mem_cons.mpr ⟨lw_p29, List.forall_mem_cons.mpr ⟨lw_p30, List.forall_mem_cons.mpr ⟨lw_p31, fun _ h => absurd h List.not_mem_nil⟩⟩⟩⟩⟩⟩⟩⟩⟩⟩⟩⟩⟩⟩⟩⟩
theorem lw_p32 : lw_okq (⟨"ClockedChip", "afterZeroByte", "(I)V"⟩, 13) := ⟨⟨by decide +kernel, by decide +kernel⟩, List.mem_of_getElem? (i := 15) (by decide +kernel), List.mem_of_getElem? (i := 314) (by decide +kernel), List.mem_of_getElem? (i := 315) (by decide +kernel)⟩
theorem lw_p33 : lw_okq (⟨"ClockedChip", "accessOperandAt", "(I)V"⟩, 13) := ⟨⟨by decide +kernel, by decide +kernel⟩, List.mem_of_getElem? (i := 15) (by decide +kernel), List.mem_of_getElem? (i := 318) (by decide +kernel), List.mem_of_getElem? (i := 319) (by decide +kernel)⟩
theorem lw_p34 : lw_okq (⟨"ClockedChip", "afterZeroIdle", "()V"⟩, 13) := ⟨⟨by decide +kernel, by decide +kernel⟩, List.mem_of_getElem? (i := 15) (by decide +kernel), List.mem_of_getElem? (i := 332) (by decide +kernel), List.mem_of_getElem? (i := 333) (by decide +kernel)⟩
theorem lw_p35 : lw_okq (⟨"ClockedChip", "afterPointerLow", "(I)V"⟩, 13) := ⟨⟨by decide +kernel, by decide +kernel⟩, List.mem_of_getElem? (i := 15) (by decide +kernel), List.mem_of_getElem? (i := 336) (by decide +kernel), List.mem_of_getElem? (i := 337) (by decide +kernel)⟩
theorem lw_p36 : lw_okq (⟨"ClockedChip", "afterPointerPage", "(I)V"⟩, 13) := ⟨⟨by decide +kernel, by decide +kernel⟩, List.mem_of_getElem? (i := 15) (by decide +kernel), List.mem_of_getElem? (i := 342) (by decide +kernel), List.mem_of_getElem? (i := 343) (by decide +kernel)⟩
theorem lw_p37 : lw_okq (⟨"ClockedChip", "accessIndexed", "(II)V"⟩, 13) := ⟨⟨by decide +kernel, by decide +kernel⟩, List.mem_of_getElem? (i := 15) (by decide +kernel), List.mem_of_getElem? (i := 346) (by decide +kernel), List.mem_of_getElem? (i := 347) (by decide +kernel)⟩
theorem lw_p38 : lw_okq (⟨"ClockedChip", "afterFarLow", "(I)V"⟩, 13) := ⟨⟨by decide +kernel, by decide +kernel⟩, List.mem_of_getElem? (i := 15) (by decide +kernel), List.mem_of_getElem? (i := 352) (by decide +kernel), List.mem_of_getElem? (i := 353) (by decide +kernel)⟩
theorem lw_p39 : lw_okq (⟨"ClockedChip", "afterFarPage", "(I)V"⟩, 13) := ⟨⟨by decide +kernel, by decide +kernel⟩, List.mem_of_getElem? (i := 15) (by decide +kernel), List.mem_of_getElem? (i := 358) (by decide +kernel), List.mem_of_getElem? (i := 359) (by decide +kernel)⟩
theorem lw_p40 : lw_okq (⟨"ClockedChip", "goTo", "(I)V"⟩, 13) := ⟨⟨by decide +kernel, by decide +kernel⟩, List.mem_of_getElem? (i := 15) (by decide +kernel), List.mem_of_getElem? (i := 362) (by decide +kernel), List.mem_of_getElem? (i := 363) (by decide +kernel)⟩
theorem lw_p41 : lw_okq (⟨"ClockedChip", "afterChangeRead", "(I)V"⟩, 13) := ⟨⟨by decide +kernel, by decide +kernel⟩, List.mem_of_getElem? (i := 15) (by decide +kernel), List.mem_of_getElem? (i := 366) (by decide +kernel), List.mem_of_getElem? (i := 367) (by decide +kernel)⟩
theorem lw_p42 : lw_okq (⟨"ClockedChip", "afterBranchDistance", "(I)V"⟩, 13) := ⟨⟨by decide +kernel, by decide +kernel⟩, List.mem_of_getElem? (i := 15) (by decide +kernel), List.mem_of_getElem? (i := 372) (by decide +kernel), List.mem_of_getElem? (i := 373) (by decide +kernel)⟩
theorem lw_p43 : lw_okq (⟨"ClockedChip$Registers", "takesBranch", "(I)Z"⟩, 6) := ⟨⟨by decide +kernel, by decide +kernel⟩, List.mem_of_getElem? (i := 23) (by decide +kernel), List.mem_of_getElem? (i := 376) (by decide +kernel), List.mem_of_getElem? (i := 377) (by decide +kernel)⟩
theorem lw_p44 : lw_okq (⟨"ClockedChip", "afterBranchIdle", "()V"⟩, 13) := ⟨⟨by decide +kernel, by decide +kernel⟩, List.mem_of_getElem? (i := 15) (by decide +kernel), List.mem_of_getElem? (i := 382) (by decide +kernel), List.mem_of_getElem? (i := 383) (by decide +kernel)⟩
theorem lw_p45 : lw_okq (⟨"ClockedChip", "afterBreakNext", "()V"⟩, 13) := ⟨⟨by decide +kernel, by decide +kernel⟩, List.mem_of_getElem? (i := 15) (by decide +kernel), List.mem_of_getElem? (i := 389) (by decide +kernel), List.mem_of_getElem? (i := 390) (by decide +kernel)⟩
theorem lw_p46 : lw_okq (⟨"ClockedChip", "afterPcIdle", "()V"⟩, 13) := ⟨⟨by decide +kernel, by decide +kernel⟩, List.mem_of_getElem? (i := 15) (by decide +kernel), List.mem_of_getElem? (i := 395) (by decide +kernel), List.mem_of_getElem? (i := 396) (by decide +kernel)⟩
theorem lw_p47 : lw_okq (⟨"ClockedChip$Registers", "operateAlone", "(I)V"⟩, 6) := ⟨⟨by decide +kernel, by decide +kernel⟩, List.mem_of_getElem? (i := 23) (by decide +kernel), List.mem_of_getElem? (i := 399) (by decide +kernel), List.mem_of_getElem? (i := 400) (by decide +kernel)⟩
def lw_privs_3 : List (MethodName × Nat) := [(⟨"ClockedChip", "afterZeroByte", "(I)V"⟩, 13), (⟨"ClockedChip", "accessOperandAt", "(I)V"⟩, 13), (⟨"ClockedChip", "afterZeroIdle", "()V"⟩, 13), (⟨"ClockedChip", "afterPointerLow", "(I)V"⟩, 13), (⟨"ClockedChip", "afterPointerPage", "(I)V"⟩, 13), (⟨"ClockedChip", "accessIndexed", "(II)V"⟩, 13), (⟨"ClockedChip", "afterFarLow", "(I)V"⟩, 13), (⟨"ClockedChip", "afterFarPage", "(I)V"⟩, 13), (⟨"ClockedChip", "goTo", "(I)V"⟩, 13), (⟨"ClockedChip", "afterChangeRead", "(I)V"⟩, 13), (⟨"ClockedChip", "afterBranchDistance", "(I)V"⟩, 13), (⟨"ClockedChip$Registers", "takesBranch", "(I)Z"⟩, 6), (⟨"ClockedChip", "afterBranchIdle", "()V"⟩, 13), (⟨"ClockedChip", "afterBreakNext", "()V"⟩, 13), (⟨"ClockedChip", "afterPcIdle", "()V"⟩, 13), (⟨"ClockedChip$Registers", "operateAlone", "(I)V"⟩, 6)]
theorem lw_r3 : ∀ q ∈ lw_privs_3, lw_okq q := List.forall_mem_cons.mpr ⟨lw_p32, List.forall_mem_cons.mpr ⟨lw_p33, List.forall_mem_cons.mpr ⟨lw_p34, List.forall_mem_cons.mpr ⟨lw_p35, List.forall_mem_cons.mpr ⟨lw_p36, List.forall_mem_cons.mpr ⟨lw_p37, List.forall_mem_cons.mpr ⟨lw_p38, List.forall_mem_cons.mpr ⟨lw_p39, List.forall_mem_cons.mpr ⟨lw_p40, List.forall_mem_cons.mpr ⟨lw_p41, List.forall_mem_cons.mpr ⟨lw_p42, List.forall_mem_cons.mpr ⟨lw_p43, List.forall_mem_cons.mpr ⟨lw_p44, List.forall_mem_cons.mpr ⟨lw_p45, List.forall_mem_cons.mpr ⟨lw_p46, List.forall_mem_cons.mpr ⟨lw_p47, fun _ h => absurd h List.not_mem_nil⟩⟩⟩⟩⟩⟩⟩⟩⟩⟩⟩⟩⟩⟩⟩⟩
theorem lw_p48 : lw_okq (⟨"ClockedChip", "afterStackOrVectorRead", "(I)V"⟩, 13) := ⟨⟨by decide +kernel, by decide +kernel⟩, List.mem_of_getElem? (i := 15) (by decide +kernel), List.mem_of_getElem? (i := 405) (by decide +kernel), List.mem_of_getElem? (i := 406) (by decide +kernel)⟩
theorem lw_p49 : lw_okq (⟨"ClockedChip", "stepAfterStackIdle", "()LClockedChip$Step;"⟩, 13) := ⟨⟨by decide +kernel, by decide +kernel⟩, List.mem_of_getElem? (i := 15) (by decide +kernel), List.mem_of_getElem? (i := 409) (by decide +kernel), List.mem_of_getElem? (i := 410) (by decide +kernel)⟩
theorem lw_p50 : lw_okq (⟨"ClockedChip", "afterPullByte", "(I)V"⟩, 13) := ⟨⟨by decide +kernel, by decide +kernel⟩, List.mem_of_getElem? (i := 15) (by decide +kernel), List.mem_of_getElem? (i := 417) (by decide +kernel), List.mem_of_getElem? (i := 418) (by decide +kernel)⟩
theorem lw_p51 : lw_okq (⟨"ClockedChip$Registers", "takeFlags", "(I)V"⟩, 6) := ⟨⟨by decide +kernel, by decide +kernel⟩, List.mem_of_getElem? (i := 23) (by decide +kernel), List.mem_of_getElem? (i := 421) (by decide +kernel), List.mem_of_getElem? (i := 422) (by decide +kernel)⟩
theorem lw_p52 : lw_okq (⟨"ClockedChip", "afterPullLow", "(I)V"⟩, 13) := ⟨⟨by decide +kernel, by decide +kernel⟩, List.mem_of_getElem? (i := 15) (by decide +kernel), List.mem_of_getElem? (i := 426) (by decide +kernel), List.mem_of_getElem? (i := 427) (by decide +kernel)⟩
theorem lw_p53 : lw_okq (⟨"ClockedChip", "afterPullPage", "(I)V"⟩, 13) := ⟨⟨by decide +kernel, by decide +kernel⟩, List.mem_of_getElem? (i := 15) (by decide +kernel), List.mem_of_getElem? (i := 432) (by decide +kernel), List.mem_of_getElem? (i := 433) (by decide +kernel)⟩
theorem lw_p54 : lw_okq (⟨"ClockedChip", "afterVectorLow", "(I)V"⟩, 13) := ⟨⟨by decide +kernel, by decide +kernel⟩, List.mem_of_getElem? (i := 15) (by decide +kernel), List.mem_of_getElem? (i := 438) (by decide +kernel), List.mem_of_getElem? (i := 439) (by decide +kernel)⟩
theorem lw_p55 : lw_okq (⟨"ClockedChip", "afterResetStack", "()V"⟩, 13) := ⟨⟨by decide +kernel, by decide +kernel⟩, List.mem_of_getElem? (i := 15) (by decide +kernel), List.mem_of_getElem? (i := 448) (by decide +kernel), List.mem_of_getElem? (i := 449) (by decide +kernel)⟩
theorem lw_p56 : lw_okq (⟨"ClockedChip", "afterResetLow", "(I)V"⟩, 13) := ⟨⟨by decide +kernel, by decide +kernel⟩, List.mem_of_getElem? (i := 15) (by decide +kernel), List.mem_of_getElem? (i := 454) (by decide +kernel), List.mem_of_getElem? (i := 455) (by decide +kernel)⟩
theorem lw_p57 : lw_okq (⟨"java/lang/Throwable", "fillInStackTrace", "(I)Ljava/lang/Throwable;"⟩, 6) := ⟨⟨by decide +kernel, by decide +kernel⟩, List.mem_of_getElem? (i := 511) (by decide +kernel), List.mem_of_getElem? (i := 509) (by decide +kernel), List.mem_of_getElem? (i := 510) (by decide +kernel)⟩
theorem lw_p58 : lw_okq (⟨"ClockedChip", "pinWentOn", "(I)V"⟩, 13) := ⟨⟨by decide +kernel, by decide +kernel⟩, List.mem_of_getElem? (i := 15) (by decide +kernel), List.mem_of_getElem? (i := 559) (by decide +kernel), List.mem_of_getElem? (i := 560) (by decide +kernel)⟩
theorem lw_p59 : lw_okq (⟨"ClockedChipModel", "clock", "()I"⟩, 29) := ⟨⟨by decide +kernel, by decide +kernel⟩, List.mem_of_getElem? (i := 593) (by decide +kernel), List.mem_of_getElem? (i := 711) (by decide +kernel), List.mem_of_getElem? (i := 712) (by decide +kernel)⟩
theorem lw_p60 : lw_okq (⟨"ClockedChipModel", "action", "()I"⟩, 29) := ⟨⟨by decide +kernel, by decide +kernel⟩, List.mem_of_getElem? (i := 593) (by decide +kernel), List.mem_of_getElem? (i := 715) (by decide +kernel), List.mem_of_getElem? (i := 716) (by decide +kernel)⟩
theorem lw_p61 : lw_okq (⟨"ClockedChipModel", "plainRow", "()J"⟩, 29) := ⟨⟨by decide +kernel, by decide +kernel⟩, List.mem_of_getElem? (i := 593) (by decide +kernel), List.mem_of_getElem? (i := 725) (by decide +kernel), List.mem_of_getElem? (i := 726) (by decide +kernel)⟩
theorem lw_p62 : lw_okq (⟨"ClockedChipModel", "target", "()I"⟩, 29) := ⟨⟨by decide +kernel, by decide +kernel⟩, List.mem_of_getElem? (i := 593) (by decide +kernel), List.mem_of_getElem? (i := 741) (by decide +kernel), List.mem_of_getElem? (i := 742) (by decide +kernel)⟩
theorem lw_p63 : lw_okq (⟨"ClockedChipModel", "addressRow", "()J"⟩, 29) := ⟨⟨by decide +kernel, by decide +kernel⟩, List.mem_of_getElem? (i := 593) (by decide +kernel), List.mem_of_getElem? (i := 747) (by decide +kernel), List.mem_of_getElem? (i := 748) (by decide +kernel)⟩
def lw_privs_4 : List (MethodName × Nat) := [(⟨"ClockedChip", "afterStackOrVectorRead", "(I)V"⟩, 13), (⟨"ClockedChip", "stepAfterStackIdle", "()LClockedChip$Step;"⟩, 13), (⟨"ClockedChip", "afterPullByte", "(I)V"⟩, 13), (⟨"ClockedChip$Registers", "takeFlags", "(I)V"⟩, 6), (⟨"ClockedChip", "afterPullLow", "(I)V"⟩, 13), (⟨"ClockedChip", "afterPullPage", "(I)V"⟩, 13), (⟨"ClockedChip", "afterVectorLow", "(I)V"⟩, 13), (⟨"ClockedChip", "afterResetStack", "()V"⟩, 13), (⟨"ClockedChip", "afterResetLow", "(I)V"⟩, 13), (⟨"java/lang/Throwable", "fillInStackTrace", "(I)Ljava/lang/Throwable;"⟩, 6), (⟨"ClockedChip", "pinWentOn", "(I)V"⟩, 13), (⟨"ClockedChipModel", "clock", "()I"⟩, 29), (⟨"ClockedChipModel", "action", "()I"⟩, 29), (⟨"ClockedChipModel", "plainRow", "()J"⟩, 29), (⟨"ClockedChipModel", "target", "()I"⟩, 29), (⟨"ClockedChipModel", "addressRow", "()J"⟩, 29)]
theorem lw_r4 : ∀ q ∈ lw_privs_4, lw_okq q := List.forall_mem_cons.mpr ⟨lw_p48, List.forall_mem_cons.mpr ⟨lw_p49, List.forall_mem_cons.mpr ⟨lw_p50, List.forall_mem_cons.mpr ⟨lw_p51, List.forall_mem_cons.mpr ⟨lw_p52, List.forall_mem_cons.mpr ⟨lw_p53, List.forall_mem_cons.mpr ⟨lw_p54, List.forall_mem_cons.mpr ⟨lw_p55, List.forall_mem_cons.mpr ⟨lw_p56, List.forall_mem_cons.mpr ⟨lw_p57, List.forall_mem_cons.mpr ⟨lw_p58, List.forall_mem_cons.mpr ⟨lw_p59, List.forall_mem_cons.mpr ⟨lw_p60, List.forall_mem_cons.mpr ⟨lw_p61, List.forall_mem_cons.mpr ⟨lw_p62, List.forall_mem_cons.mpr ⟨lw_p63, fun _ h => absurd h List.not_mem_nil⟩⟩⟩⟩⟩⟩⟩⟩⟩⟩⟩⟩⟩⟩⟩⟩
theorem lw_p64 : lw_okq (⟨"ClockedChipModel", "access", "(I)I"⟩, 29) := ⟨⟨by decide +kernel, by decide +kernel⟩, List.mem_of_getElem? (i := 593) (by decide +kernel), List.mem_of_getElem? (i := 758) (by decide +kernel), List.mem_of_getElem? (i := 759) (by decide +kernel)⟩
theorem lw_p65 : lw_okq (⟨"ClockedChipModel", "isChange", "()Z"⟩, 29) := ⟨⟨by decide +kernel, by decide +kernel⟩, List.mem_of_getElem? (i := 593) (by decide +kernel), List.mem_of_getElem? (i := 762) (by decide +kernel), List.mem_of_getElem? (i := 763) (by decide +kernel)⟩
theorem lw_p66 : lw_okq (⟨"ClockedChipModel", "plan", "(I)V"⟩, 29) := ⟨⟨by decide +kernel, by decide +kernel⟩, List.mem_of_getElem? (i := 593) (by decide +kernel), List.mem_of_getElem? (i := 766) (by decide +kernel), List.mem_of_getElem? (i := 767) (by decide +kernel)⟩
theorem lw_p67 : lw_okq (⟨"ClockedChipModel", "reads", "(I)V"⟩, 29) := ⟨⟨by decide +kernel, by decide +kernel⟩, List.mem_of_getElem? (i := 593) (by decide +kernel), List.mem_of_getElem? (i := 770) (by decide +kernel), List.mem_of_getElem? (i := 771) (by decide +kernel)⟩
theorem lw_p68 : lw_okq (⟨"ClockedChipModel", "half", "()I"⟩, 29) := ⟨⟨by decide +kernel, by decide +kernel⟩, List.mem_of_getElem? (i := 593) (by decide +kernel), List.mem_of_getElem? (i := 774) (by decide +kernel), List.mem_of_getElem? (i := 775) (by decide +kernel)⟩
theorem lw_p69 : lw_okq (⟨"ClockedChipModel", "operand", "()I"⟩, 29) := ⟨⟨by decide +kernel, by decide +kernel⟩, List.mem_of_getElem? (i := 593) (by decide +kernel), List.mem_of_getElem? (i := 778) (by decide +kernel), List.mem_of_getElem? (i := 779) (by decide +kernel)⟩
theorem lw_p70 : lw_okq (⟨"ClockedChipModel", "planWrite", "(I)V"⟩, 29) := ⟨⟨by decide +kernel, by decide +kernel⟩, List.mem_of_getElem? (i := 593) (by decide +kernel), List.mem_of_getElem? (i := 786) (by decide +kernel), List.mem_of_getElem? (i := 787) (by decide +kernel)⟩
theorem lw_p71 : lw_okq (⟨"ClockedChipModel", "push", "(I)V"⟩, 29) := ⟨⟨by decide +kernel, by decide +kernel⟩, List.mem_of_getElem? (i := 593) (by decide +kernel), List.mem_of_getElem? (i := 790) (by decide +kernel), List.mem_of_getElem? (i := 791) (by decide +kernel)⟩
theorem lw_p72 : lw_okq (⟨"ClockedChipModel", "happen", "(II)V"⟩, 29) := ⟨⟨by decide +kernel, by decide +kernel⟩, List.mem_of_getElem? (i := 593) (by decide +kernel), List.mem_of_getElem? (i := 794) (by decide +kernel), List.mem_of_getElem? (i := 795) (by decide +kernel)⟩
theorem lw_p73 : lw_okq (⟨"ClockedChipModel", "next", "()V"⟩, 29) := ⟨⟨by decide +kernel, by decide +kernel⟩, List.mem_of_getElem? (i := 593) (by decide +kernel), List.mem_of_getElem? (i := 798) (by decide +kernel), List.mem_of_getElem? (i := 799) (by decide +kernel)⟩
theorem lw_p74 : lw_okq (⟨"ClockedChipModel", "isJam", "()Z"⟩, 29) := ⟨⟨by decide +kernel, by decide +kernel⟩, List.mem_of_getElem? (i := 593) (by decide +kernel), List.mem_of_getElem? (i := 802) (by decide +kernel), List.mem_of_getElem? (i := 803) (by decide +kernel)⟩
theorem lw_p75 : lw_okq (⟨"ClockedChipModel", "isTaken", "()Z"⟩, 29) := ⟨⟨by decide +kernel, by decide +kernel⟩, List.mem_of_getElem? (i := 593) (by decide +kernel), List.mem_of_getElem? (i := 806) (by decide +kernel), List.mem_of_getElem? (i := 807) (by decide +kernel)⟩
theorem lw_p76 : lw_okq (⟨"ClockedChipModel", "is", "(I)Z"⟩, 29) := ⟨⟨by decide +kernel, by decide +kernel⟩, List.mem_of_getElem? (i := 593) (by decide +kernel), List.mem_of_getElem? (i := 810) (by decide +kernel), List.mem_of_getElem? (i := 811) (by decide +kernel)⟩
theorem lw_p77 : lw_okq (⟨"ClockedChipModel", "isHalf", "()Z"⟩, 29) := ⟨⟨by decide +kernel, by decide +kernel⟩, List.mem_of_getElem? (i := 593) (by decide +kernel), List.mem_of_getElem? (i := 814) (by decide +kernel), List.mem_of_getElem? (i := 815) (by decide +kernel)⟩
theorem lw_p78 : lw_okq (⟨"ClockedChipModel", "use", "(I)V"⟩, 29) := ⟨⟨by decide +kernel, by decide +kernel⟩, List.mem_of_getElem? (i := 593) (by decide +kernel), List.mem_of_getElem? (i := 818) (by decide +kernel), List.mem_of_getElem? (i := 819) (by decide +kernel)⟩
theorem lw_p79 : lw_okq (⟨"ClockedChipModel", "mark", "(I)I"⟩, 29) := ⟨⟨by decide +kernel, by decide +kernel⟩, List.mem_of_getElem? (i := 593) (by decide +kernel), List.mem_of_getElem? (i := 822) (by decide +kernel), List.mem_of_getElem? (i := 823) (by decide +kernel)⟩
def lw_privs_5 : List (MethodName × Nat) := [(⟨"ClockedChipModel", "access", "(I)I"⟩, 29), (⟨"ClockedChipModel", "isChange", "()Z"⟩, 29), (⟨"ClockedChipModel", "plan", "(I)V"⟩, 29), (⟨"ClockedChipModel", "reads", "(I)V"⟩, 29), (⟨"ClockedChipModel", "half", "()I"⟩, 29), (⟨"ClockedChipModel", "operand", "()I"⟩, 29), (⟨"ClockedChipModel", "planWrite", "(I)V"⟩, 29), (⟨"ClockedChipModel", "push", "(I)V"⟩, 29), (⟨"ClockedChipModel", "happen", "(II)V"⟩, 29), (⟨"ClockedChipModel", "next", "()V"⟩, 29), (⟨"ClockedChipModel", "isJam", "()Z"⟩, 29), (⟨"ClockedChipModel", "isTaken", "()Z"⟩, 29), (⟨"ClockedChipModel", "is", "(I)Z"⟩, 29), (⟨"ClockedChipModel", "isHalf", "()Z"⟩, 29), (⟨"ClockedChipModel", "use", "(I)V"⟩, 29), (⟨"ClockedChipModel", "mark", "(I)I"⟩, 29)]
theorem lw_r5 : ∀ q ∈ lw_privs_5, lw_okq q := List.forall_mem_cons.mpr ⟨lw_p64, List.forall_mem_cons.mpr ⟨lw_p65, List.forall_mem_cons.mpr ⟨lw_p66, List.forall_mem_cons.mpr ⟨lw_p67, List.forall_mem_cons.mpr ⟨lw_p68, List.forall_mem_cons.mpr ⟨lw_p69, List.forall_mem_cons.mpr ⟨lw_p70, List.forall_mem_cons.mpr ⟨lw_p71, List.forall_mem_cons.mpr ⟨lw_p72, List.forall_mem_cons.mpr ⟨lw_p73, List.forall_mem_cons.mpr ⟨lw_p74, List.forall_mem_cons.mpr ⟨lw_p75, List.forall_mem_cons.mpr ⟨lw_p76, List.forall_mem_cons.mpr ⟨lw_p77, List.forall_mem_cons.mpr ⟨lw_p78, List.forall_mem_cons.mpr ⟨lw_p79, fun _ h => absurd h List.not_mem_nil⟩⟩⟩⟩⟩⟩⟩⟩⟩⟩⟩⟩⟩⟩⟩⟩
theorem lw_p80 : lw_okq (⟨"ClockedChipModel", "put", "(IZ)V"⟩, 29) := ⟨⟨by decide +kernel, by decide +kernel⟩, List.mem_of_getElem? (i := 593) (by decide +kernel), List.mem_of_getElem? (i := 826) (by decide +kernel), List.mem_of_getElem? (i := 827) (by decide +kernel)⟩
theorem lw_p81 : lw_okq (⟨"ClockedChipModel", "addDecimal", "(I)I"⟩, 29) := ⟨⟨by decide +kernel, by decide +kernel⟩, List.mem_of_getElem? (i := 593) (by decide +kernel), List.mem_of_getElem? (i := 830) (by decide +kernel), List.mem_of_getElem? (i := 831) (by decide +kernel)⟩
theorem lw_p82 : lw_okq (⟨"ClockedChipModel", "add", "(I)I"⟩, 29) := ⟨⟨by decide +kernel, by decide +kernel⟩, List.mem_of_getElem? (i := 593) (by decide +kernel), List.mem_of_getElem? (i := 834) (by decide +kernel), List.mem_of_getElem? (i := 835) (by decide +kernel)⟩
theorem lw_p83 : lw_okq (⟨"ClockedChipModel", "subtract", "(I)I"⟩, 29) := ⟨⟨by decide +kernel, by decide +kernel⟩, List.mem_of_getElem? (i := 593) (by decide +kernel), List.mem_of_getElem? (i := 838) (by decide +kernel), List.mem_of_getElem? (i := 839) (by decide +kernel)⟩
theorem lw_p84 : lw_okq (⟨"ClockedChipModel", "changed", "(I)I"⟩, 29) := ⟨⟨by decide +kernel, by decide +kernel⟩, List.mem_of_getElem? (i := 593) (by decide +kernel), List.mem_of_getElem? (i := 842) (by decide +kernel), List.mem_of_getElem? (i := 843) (by decide +kernel)⟩
theorem lw_p85 : lw_okq (⟨"ClockedChipModel", "happenStack", "(II)V"⟩, 29) := ⟨⟨by decide +kernel, by decide +kernel⟩, List.mem_of_getElem? (i := 593) (by decide +kernel), List.mem_of_getElem? (i := 846) (by decide +kernel), List.mem_of_getElem? (i := 847) (by decide +kernel)⟩
theorem lw_p86 : lw_okq (⟨"ClockedChipModel", "idle", "()V"⟩, 29) := ⟨⟨by decide +kernel, by decide +kernel⟩, List.mem_of_getElem? (i := 593) (by decide +kernel), List.mem_of_getElem? (i := 850) (by decide +kernel), List.mem_of_getElem? (i := 851) (by decide +kernel)⟩
theorem lw_p87 : lw_okq (⟨"ClockedChipModel", "plain", "()V"⟩, 29) := ⟨⟨by decide +kernel, by decide +kernel⟩, List.mem_of_getElem? (i := 593) (by decide +kernel), List.mem_of_getElem? (i := 854) (by decide +kernel), List.mem_of_getElem? (i := 855) (by decide +kernel)⟩
def lw_privs_6 : List (MethodName × Nat) := [(⟨"ClockedChipModel", "put", "(IZ)V"⟩, 29), (⟨"ClockedChipModel", "addDecimal", "(I)I"⟩, 29), (⟨"ClockedChipModel", "add", "(I)I"⟩, 29), (⟨"ClockedChipModel", "subtract", "(I)I"⟩, 29), (⟨"ClockedChipModel", "changed", "(I)I"⟩, 29), (⟨"ClockedChipModel", "happenStack", "(II)V"⟩, 29), (⟨"ClockedChipModel", "idle", "()V"⟩, 29), (⟨"ClockedChipModel", "plain", "()V"⟩, 29)]
theorem lw_r6 : ∀ q ∈ lw_privs_6, lw_okq q := List.forall_mem_cons.mpr ⟨lw_p80, List.forall_mem_cons.mpr ⟨lw_p81, List.forall_mem_cons.mpr ⟨lw_p82, List.forall_mem_cons.mpr ⟨lw_p83, List.forall_mem_cons.mpr ⟨lw_p84, List.forall_mem_cons.mpr ⟨lw_p85, List.forall_mem_cons.mpr ⟨lw_p86, List.forall_mem_cons.mpr ⟨lw_p87, fun _ h => absurd h List.not_mem_nil⟩⟩⟩⟩⟩⟩⟩⟩
def lw_privs : List (MethodName × Nat) := lw_privs_1 ++ (lw_privs_2 ++ (lw_privs_3 ++ (lw_privs_4 ++ (lw_privs_5 ++ (lw_privs_6)))))
def lw_tbl : List Cond := k2_sels lw_privs ++ tables_1
theorem lw_privs_ok : ∀ q ∈ lw_privs, lw_okq q := by
  show ∀ q ∈ lw_privs_1 ++ (lw_privs_2 ++ (lw_privs_3 ++ (lw_privs_4 ++ (lw_privs_5 ++ (lw_privs_6))))), lw_okq q
  exact List.forall_mem_append.mpr ⟨lw_r1, List.forall_mem_append.mpr ⟨lw_r2, List.forall_mem_append.mpr ⟨lw_r3, List.forall_mem_append.mpr ⟨lw_r4, List.forall_mem_append.mpr ⟨lw_r5, lw_r6⟩⟩⟩⟩⟩
end
section
/-! names: fields, classes, methods, words (printed by my own program out of the Statement) -/
def TC : u_T := fun k => match k with
  | 0 => ("ClockedChip", "memory", "[I", true)
  | 1 => ("ClockedChip", "pins", "[Z", true)
  | 2 => ("ClockedChip", "registers", "LClockedChip$Registers;", true)
  | 3 => ("ClockedChip", "nmiWanted", "Z", false)
  | 4 => ("ClockedChip", "step", "LClockedChip$Step;", false)
  | 5 => ("ClockedChip", "kind", "LClockedChip$Kind;", false)
  | 6 => ("ClockedChip", "operation", "I", false)
  | 7 => ("ClockedChip", "mode", "I", false)
  | 8 => ("ClockedChip", "done", "I", false)
  | 9 => ("ClockedChip", "ended", "I", false)
  | 10 => ("ClockedChip", "aim", "I", false)
  | 11 => ("ClockedChip", "target", "I", false)
  | _ => ("ClockedChip", "held", "I", false)
def tyC : Nat → FieldType := fun k => match k with
  | 0 => .array .int
  | 1 => .array .boolean
  | 2 => .object "ClockedChip$Registers"
  | 3 => .boolean
  | 4 => .object "ClockedChip$Step"
  | 5 => .object "ClockedChip$Kind"
  | 6 => .int
  | 7 => .int
  | 8 => .int
  | 9 => .int
  | 10 => .int
  | 11 => .int
  | _ => .int
theorem nmC : ∀ a, a < 13 → ∀ b, b < 13 → a ≠ b → (TC a).2.1 ≠ (TC b).2.1 := by decide +kernel
theorem tyC_ok : ∀ k, k < 13 → parseFieldDescriptor (TC k).2.2.1 = some (tyC k) := by decide +kernel
def TR : u_T := fun k => match k with
  | 0 => ("ClockedChip$Registers", "a", "I", false)
  | 1 => ("ClockedChip$Registers", "x", "I", false)
  | 2 => ("ClockedChip$Registers", "y", "I", false)
  | 3 => ("ClockedChip$Registers", "s", "I", false)
  | 4 => ("ClockedChip$Registers", "pc", "I", false)
  | _ => ("ClockedChip$Registers", "flags", "I", false)
def tyR : Nat → FieldType := fun k => match k with
  | 0 => .int
  | 1 => .int
  | 2 => .int
  | 3 => .int
  | 4 => .int
  | _ => .int
theorem nmR : ∀ a, a < 6 → ∀ b, b < 6 → a ≠ b → (TR a).2.1 ≠ (TR b).2.1 := by decide +kernel
theorem tyR_ok : ∀ k, k < 6 → parseFieldDescriptor (TR k).2.2.1 = some (tyR k) := by decide +kernel
def TM : u_T := fun k => match k with
  | 0 => ("ClockedChipModel", "memory", "[I", true)
  | 1 => ("ClockedChipModel", "a", "I", false)
  | 2 => ("ClockedChipModel", "x", "I", false)
  | 3 => ("ClockedChipModel", "y", "I", false)
  | 4 => ("ClockedChipModel", "s", "I", false)
  | 5 => ("ClockedChipModel", "pc", "I", false)
  | 6 => ("ClockedChipModel", "flags", "I", false)
  | 7 => ("ClockedChipModel", "nmi", "Z", false)
  | 8 => ("ClockedChipModel", "irq", "Z", false)
  | 9 => ("ClockedChipModel", "ready", "Z", false)
  | 10 => ("ClockedChipModel", "so", "Z", false)
  | 11 => ("ClockedChipModel", "wanted", "Z", false)
  | 12 => ("ClockedChipModel", "going", "I", false)
  | 13 => ("ClockedChipModel", "done", "I", false)
  | 14 => ("ClockedChipModel", "jam", "Z", false)
  | 15 => ("ClockedChipModel", "operation", "I", false)
  | 16 => ("ClockedChipModel", "mode", "I", false)
  | 17 => ("ClockedChipModel", "z", "I", false)
  | 18 => ("ClockedChipModel", "high", "I", false)
  | 19 => ("ClockedChipModel", "low", "I", false)
  | 20 => ("ClockedChipModel", "vector", "I", false)
  | 21 => ("ClockedChipModel", "change", "I", false)
  | 22 => ("ClockedChipModel", "taken", "Z", false)
  | 23 => ("ClockedChipModel", "halves", "Z", false)
  | 24 => ("ClockedChipModel", "address", "I", false)
  | 25 => ("ClockedChipModel", "writes", "Z", false)
  | 26 => ("ClockedChipModel", "value", "I", false)
  | 27 => ("ClockedChipModel", "ends", "I", false)
  | _ => ("ClockedChipModel", "thrown", "I", false)
def tyM : Nat → FieldType := fun k => match k with
  | 0 => .array .int
  | 1 => .int
  | 2 => .int
  | 3 => .int
  | 4 => .int
  | 5 => .int
  | 6 => .int
  | 7 => .boolean
  | 8 => .boolean
  | 9 => .boolean
  | 10 => .boolean
  | 11 => .boolean
  | 12 => .int
  | 13 => .int
  | 14 => .boolean
  | 15 => .int
  | 16 => .int
  | 17 => .int
  | 18 => .int
  | 19 => .int
  | 20 => .int
  | 21 => .int
  | 22 => .boolean
  | 23 => .boolean
  | 24 => .int
  | 25 => .boolean
  | 26 => .int
  | 27 => .int
  | _ => .int
theorem nmM : ∀ a, a < 29 → ∀ b, b < 29 → a ≠ b → (TM a).2.1 ≠ (TM b).2.1 := by decide +kernel
theorem tyM_ok : ∀ k, k < 29 → parseFieldDescriptor (TM k).2.2.1 = some (tyM k) := by decide +kernel
abbrev iC : Nat := 0
abbrev iR : Nat := 1
abbrev iM : Nat := 2
abbrev CL : List vw_C := [("ClockedChip", TC, 13), ("ClockedChip$Registers", TR, 6), ("ClockedChipModel", TM, 29)]
def isNest : Cond → Bool
  | .fieldLinkNest .. => true
  | .methodLinkNest .. => true
  | _ => false
def ALL : List Cond := lw_tbl.filter goodWord
def NW (U : State) : Prop := ∀ w ∈ tables_1, isNest w = true → va_Nw w U
theorem in_ALL {w : Cond} (h : w ∈ tables_1) (hg : goodWord w = true) : w ∈ ALL := List.mem_filter.mpr ⟨List.mem_append_right _ h, hg⟩
theorem in_sel {q : MethodName × Nat} (h : q ∈ lw_privs) (hg : goodWord (Cond.selects q.1.cls q.1 q.1) = true) : Cond.selects q.1.cls q.1 q.1 ∈ ALL := List.mem_filter.mpr ⟨List.mem_append_left _ (List.mem_map.mpr ⟨q, h, rfl⟩), hg⟩
theorem good_ALL {w : Cond} (h : w ∈ ALL) : (w.onTables && w.keeps) = true ∨ ∃ ty, w = .arrayClass ty := good_of_word (List.mem_filter.mp h).2
theorem goodIn_code {y : MethodName} {b : ByteArray} {n : Nat} {r : Option FieldType} (h : Cond.code y b n r ∈ ALL) : GoodIn ALL (Cond.code y b n r :: ALL) := fun w hw => by
  rcases List.mem_cons.mp hw with rfl | hw
  · exact ⟨h, good_ALL h⟩
  · exact ⟨hw, good_ALL hw⟩
abbrev c_C_init : ByteArray := prog_1_method_1_code
abbrev y_C_init : MethodName := ⟨"ClockedChip", "<init>", "()V"⟩
theorem w_C_init : Cond.code y_C_init c_C_init 1 none ∈ ALL := in_ALL (List.mem_append_left _ (List.mem_of_getElem? (i := 18) rfl)) rfl
abbrev c_R_init : ByteArray := prog_4_method_1_code
abbrev y_R_init : MethodName := ⟨"ClockedChip$Registers", "<init>", "()V"⟩
theorem w_R_init : Cond.code y_R_init c_R_init 1 none ∈ ALL := in_ALL (List.mem_append_left _ (List.mem_of_getElem? (i := 26) rfl)) rfl
abbrev c_C_poke : ByteArray := prog_1_method_2_code
abbrev y_C_poke : MethodName := ⟨"ClockedChip", "poke", "(II)I"⟩
theorem w_C_poke : Cond.code y_C_poke c_C_poke 4 (some .int) ∈ ALL := in_ALL (List.mem_append_left _ (List.mem_of_getElem? (i := 101) rfl)) rfl
abbrev c_C_peek : ByteArray := prog_1_method_3_code
abbrev y_C_peek : MethodName := ⟨"ClockedChip", "peek", "(I)I"⟩
theorem w_C_peek : Cond.code y_C_peek c_C_peek 2 (some .int) ∈ ALL := in_ALL (List.mem_append_left _ (List.mem_of_getElem? (i := 105) rfl)) rfl
abbrev c_C_cycle : ByteArray := prog_1_method_4_code
abbrev y_C_cycle : MethodName := ⟨"ClockedChip", "cycle", "()I"⟩
theorem w_C_cycle : Cond.code y_C_cycle c_C_cycle 1 (some .int) ∈ ALL := in_ALL (List.mem_append_left _ (List.mem_of_getElem? (i := 109) rfl)) rfl
abbrev c_C_runCycle : ByteArray := prog_1_method_11_code
abbrev y_C_runCycle : MethodName := ⟨"ClockedChip", "runCycle", "()I"⟩
theorem w_C_runCycle : Cond.code y_C_runCycle c_C_runCycle 3 (some .int) ∈ ALL := in_ALL (List.mem_append_left _ (List.mem_of_getElem? (i := 113) rfl)) rfl
abbrev c_C_addressOfStep : ByteArray := prog_1_method_12_code
abbrev y_C_addressOfStep : MethodName := ⟨"ClockedChip", "addressOfStep", "()I"⟩
theorem w_C_addressOfStep : Cond.code y_C_addressOfStep c_C_addressOfStep 1 (some .int) ∈ ALL := in_ALL (List.mem_append_left _ (List.mem_of_getElem? (i := 117) rfl)) rfl
abbrev c_C_byteToWrite : ByteArray := prog_1_method_13_code
abbrev y_C_byteToWrite : MethodName := ⟨"ClockedChip", "byteToWrite", "()I"⟩
theorem w_C_byteToWrite : Cond.code y_C_byteToWrite c_C_byteToWrite 1 (some .int) ∈ ALL := in_ALL (List.mem_append_left _ (List.mem_of_getElem? (i := 125) rfl)) rfl
abbrev c_R_changed : ByteArray := prog_4_method_16_code
abbrev y_R_changed : MethodName := ⟨"ClockedChip$Registers", "changed", "(II)I"⟩
theorem w_R_changed : Cond.code y_R_changed c_R_changed 3 (some .int) ∈ ALL := in_ALL (List.mem_append_left _ (List.mem_of_getElem? (i := 137) rfl)) rfl
abbrev c_R_p : ByteArray := prog_4_method_2_code
abbrev y_R_p : MethodName := ⟨"ClockedChip$Registers", "p", "()I"⟩
theorem w_R_p : Cond.code y_R_p c_R_p 1 (some .int) ∈ ALL := in_ALL (List.mem_append_left _ (List.mem_of_getElem? (i := 141) rfl)) rfl
abbrev c_C_afterWrite : ByteArray := prog_1_method_14_code
abbrev y_C_afterWrite : MethodName := ⟨"ClockedChip", "afterWrite", "()V"⟩
theorem w_C_afterWrite : Cond.code y_C_afterWrite c_C_afterWrite 1 none ∈ ALL := in_ALL (List.mem_append_left _ (List.mem_of_getElem? (i := 147) rfl)) rfl
abbrev c_R_flagsOfChange : ByteArray := prog_4_method_17_code
abbrev y_R_flagsOfChange : MethodName := ⟨"ClockedChip$Registers", "flagsOfChange", "(II)V"⟩
theorem w_R_flagsOfChange : Cond.code y_R_flagsOfChange c_R_flagsOfChange 3 none ∈ ALL := in_ALL (List.mem_append_left _ (List.mem_of_getElem? (i := 153) rfl)) rfl
abbrev c_R_put : ByteArray := prog_4_method_5_code
abbrev y_R_put : MethodName := ⟨"ClockedChip$Registers", "put", "(IZ)V"⟩
theorem w_R_put : Cond.code y_R_put c_R_put 3 none ∈ ALL := in_ALL (List.mem_append_left _ (List.mem_of_getElem? (i := 157) rfl)) rfl
abbrev c_R_putNz : ByteArray := prog_4_method_6_code
abbrev y_R_putNz : MethodName := ⟨"ClockedChip$Registers", "putNz", "(I)V"⟩
theorem w_R_putNz : Cond.code y_R_putNz c_R_putNz 3 none ∈ ALL := in_ALL (List.mem_append_left _ (List.mem_of_getElem? (i := 162) rfl)) rfl
abbrev c_C_end : ByteArray := prog_1_method_18_code
abbrev y_C_end : MethodName := ⟨"ClockedChip", "end", "()V"⟩
theorem w_C_end : Cond.code y_C_end c_C_end 2 none ∈ ALL := in_ALL (List.mem_append_left _ (List.mem_of_getElem? (i := 166) rfl)) rfl
abbrev c_R_has : ByteArray := prog_4_method_4_code
abbrev y_R_has : MethodName := ⟨"ClockedChip$Registers", "has", "(I)Z"⟩
theorem w_R_has : Cond.code y_R_has c_R_has 2 (some .boolean) ∈ ALL := in_ALL (List.mem_append_left _ (List.mem_of_getElem? (i := 170) rfl)) rfl
abbrev c_C_begin : ByteArray := prog_1_method_17_code
abbrev y_C_begin : MethodName := ⟨"ClockedChip", "begin", "(LClockedChip$Kind;LClockedChip$Step;)V"⟩
theorem w_C_begin : Cond.code y_C_begin c_C_begin 3 none ∈ ALL := in_ALL (List.mem_append_left _ (List.mem_of_getElem? (i := 178) rfl)) rfl
abbrev c_R_moveStack : ByteArray := prog_4_method_9_code
abbrev y_R_moveStack : MethodName := ⟨"ClockedChip$Registers", "moveStack", "(I)V"⟩
theorem w_R_moveStack : Cond.code y_R_moveStack c_R_moveStack 2 none ∈ ALL := in_ALL (List.mem_append_left _ (List.mem_of_getElem? (i := 182) rfl)) rfl
abbrev c_C_afterRead : ByteArray := prog_1_method_15_code
abbrev y_C_afterRead : MethodName := ⟨"ClockedChip", "afterRead", "(I)V"⟩
theorem w_C_afterRead : Cond.code y_C_afterRead c_C_afterRead 2 none ∈ ALL := in_ALL (List.mem_append_left _ (List.mem_of_getElem? (i := 197) rfl)) rfl
abbrev c_C_afterFetch : ByteArray := prog_1_method_20_code
abbrev y_C_afterFetch : MethodName := ⟨"ClockedChip", "afterFetch", "(I)V"⟩
theorem w_C_afterFetch : Cond.code y_C_afterFetch c_C_afterFetch 2 none ∈ ALL := in_ALL (List.mem_append_left _ (List.mem_of_getElem? (i := 201) rfl)) rfl
abbrev c_R_nextPc : ByteArray := prog_4_method_8_code
abbrev y_R_nextPc : MethodName := ⟨"ClockedChip$Registers", "nextPc", "()V"⟩
theorem w_R_nextPc : Cond.code y_R_nextPc c_R_nextPc 1 none ∈ ALL := in_ALL (List.mem_append_left _ (List.mem_of_getElem? (i := 205) rfl)) rfl
abbrev c_C_kindWithoutOperand : ByteArray := prog_1_method_22_code
abbrev y_C_kindWithoutOperand : MethodName := ⟨"ClockedChip", "kindWithoutOperand", "()LClockedChip$Kind;"⟩
theorem w_C_kindWithoutOperand : Cond.code y_C_kindWithoutOperand c_C_kindWithoutOperand 1 (some (.object "ClockedChip$Kind")) ∈ ALL := in_ALL (List.mem_append_left _ (List.mem_of_getElem? (i := 210) rfl)) rfl
abbrev c_C_kindWithOperand : ByteArray := prog_1_method_21_code
abbrev y_C_kindWithOperand : MethodName := ⟨"ClockedChip", "kindWithOperand", "()LClockedChip$Kind;"⟩
theorem w_C_kindWithOperand : Cond.code y_C_kindWithOperand c_C_kindWithOperand 1 (some (.object "ClockedChip$Kind")) ∈ ALL := in_ALL (List.mem_append_left _ (List.mem_of_getElem? (i := 226) rfl)) rfl
abbrev c_C_secondStep : ByteArray := prog_1_method_23_code
abbrev y_C_secondStep : MethodName := ⟨"ClockedChip", "secondStep", "()LClockedChip$Step;"⟩
theorem w_C_secondStep : Cond.code y_C_secondStep c_C_secondStep 1 (some (.object "ClockedChip$Step")) ∈ ALL := in_ALL (List.mem_append_right _ (List.mem_append_left _ (List.mem_of_getElem? (i := 0) rfl))) rfl
abbrev c_C_secondStepByMode : ByteArray := prog_1_method_24_code
abbrev y_C_secondStepByMode : MethodName := ⟨"ClockedChip", "secondStepByMode", "()LClockedChip$Step;"⟩
theorem w_C_secondStepByMode : Cond.code y_C_secondStepByMode c_C_secondStepByMode 1 (some (.object "ClockedChip$Step")) ∈ ALL := in_ALL (List.mem_append_right _ (List.mem_append_left _ (List.mem_of_getElem? (i := 9) rfl))) rfl
abbrev c_R_operate : ByteArray := prog_4_method_14_code
abbrev y_R_operate : MethodName := ⟨"ClockedChip$Registers", "operate", "(II)V"⟩
theorem w_R_operate : Cond.code y_R_operate c_R_operate 3 none ∈ ALL := in_ALL (List.mem_append_right _ (List.mem_append_left _ (List.mem_of_getElem? (i := 27) rfl))) rfl
abbrev c_R_loadA : ByteArray := prog_4_method_10_code
abbrev y_R_loadA : MethodName := ⟨"ClockedChip$Registers", "loadA", "(I)V"⟩
theorem w_R_loadA : Cond.code y_R_loadA c_R_loadA 2 none ∈ ALL := in_ALL (List.mem_append_right _ (List.mem_append_left _ (List.mem_of_getElem? (i := 31) rfl))) rfl
abbrev c_R_add : ByteArray := prog_4_method_19_code
abbrev y_R_add : MethodName := ⟨"ClockedChip$Registers", "add", "(I)V"⟩
theorem w_R_add : Cond.code y_R_add c_R_add 3 none ∈ ALL := in_ALL (List.mem_append_right _ (List.mem_append_left _ (List.mem_of_getElem? (i := 35) rfl))) rfl
abbrev c_R_addDecimal : ByteArray := prog_4_method_22_code
abbrev y_R_addDecimal : MethodName := ⟨"ClockedChip$Registers", "addDecimal", "(I)V"⟩
theorem w_R_addDecimal : Cond.code y_R_addDecimal c_R_addDecimal 5 none ∈ ALL := in_ALL (List.mem_append_right _ (List.mem_append_left _ (List.mem_of_getElem? (i := 40) rfl))) rfl
abbrev c_R_carry : ByteArray := prog_4_method_7_code
abbrev y_R_carry : MethodName := ⟨"ClockedChip$Registers", "carry", "()I"⟩
theorem w_R_carry : Cond.code y_R_carry c_R_carry 1 (some .int) ∈ ALL := in_ALL (List.mem_append_right _ (List.mem_append_left _ (List.mem_of_getElem? (i := 44) rfl))) rfl
abbrev c_R_differsInSign : ByteArray := prog_4_method_21_code
abbrev y_R_differsInSign : MethodName := ⟨"ClockedChip$Registers", "differsInSign", "(IZ)Z"⟩
theorem w_R_differsInSign : Cond.code y_R_differsInSign c_R_differsInSign 4 (some .boolean) ∈ ALL := in_ALL (List.mem_append_right _ (List.mem_append_left _ (List.mem_of_getElem? (i := 48) rfl))) rfl
abbrev c_R_flagsOfSum : ByteArray := prog_4_method_20_code
abbrev y_R_flagsOfSum : MethodName := ⟨"ClockedChip$Registers", "flagsOfSum", "(II)V"⟩
theorem w_R_flagsOfSum : Cond.code y_R_flagsOfSum c_R_flagsOfSum 3 none ∈ ALL := in_ALL (List.mem_append_right _ (List.mem_append_left _ (List.mem_of_getElem? (i := 52) rfl))) rfl
abbrev c_R_subtract : ByteArray := prog_4_method_23_code
abbrev y_R_subtract : MethodName := ⟨"ClockedChip$Registers", "subtract", "(I)V"⟩
theorem w_R_subtract : Cond.code y_R_subtract c_R_subtract 4 none ∈ ALL := in_ALL (List.mem_append_right _ (List.mem_append_left _ (List.mem_of_getElem? (i := 56) rfl))) rfl
abbrev c_R_decimalDifference : ByteArray := prog_4_method_24_code
abbrev y_R_decimalDifference : MethodName := ⟨"ClockedChip$Registers", "decimalDifference", "(I)I"⟩
theorem w_R_decimalDifference : Cond.code y_R_decimalDifference c_R_decimalDifference 4 (some .int) ∈ ALL := in_ALL (List.mem_append_right _ (List.mem_append_left _ (List.mem_of_getElem? (i := 60) rfl))) rfl
abbrev c_R_compare : ByteArray := prog_4_method_18_code
abbrev y_R_compare : MethodName := ⟨"ClockedChip$Registers", "compare", "(I)V"⟩
theorem w_R_compare : Cond.code y_R_compare c_R_compare 2 none ∈ ALL := in_ALL (List.mem_append_right _ (List.mem_append_left _ (List.mem_of_getElem? (i := 64) rfl))) rfl
abbrev c_R_loadX : ByteArray := prog_4_method_11_code
abbrev y_R_loadX : MethodName := ⟨"ClockedChip$Registers", "loadX", "(I)V"⟩
theorem w_R_loadX : Cond.code y_R_loadX c_R_loadX 2 none ∈ ALL := in_ALL (List.mem_append_right _ (List.mem_append_left _ (List.mem_of_getElem? (i := 68) rfl))) rfl
abbrev c_R_loadY : ByteArray := prog_4_method_12_code
abbrev y_R_loadY : MethodName := ⟨"ClockedChip$Registers", "loadY", "(I)V"⟩
theorem w_R_loadY : Cond.code y_R_loadY c_R_loadY 2 none ∈ ALL := in_ALL (List.mem_append_right _ (List.mem_append_left _ (List.mem_of_getElem? (i := 72) rfl))) rfl
abbrev c_C_afterZeroByte : ByteArray := prog_1_method_25_code
abbrev y_C_afterZeroByte : MethodName := ⟨"ClockedChip", "afterZeroByte", "(I)V"⟩
theorem w_C_afterZeroByte : Cond.code y_C_afterZeroByte c_C_afterZeroByte 2 none ∈ ALL := in_ALL (List.mem_append_right _ (List.mem_append_left _ (List.mem_of_getElem? (i := 76) rfl))) rfl
abbrev c_C_accessOperandAt : ByteArray := prog_1_method_32_code
abbrev y_C_accessOperandAt : MethodName := ⟨"ClockedChip", "accessOperandAt", "(I)V"⟩
theorem w_C_accessOperandAt : Cond.code y_C_accessOperandAt c_C_accessOperandAt 2 none ∈ ALL := in_ALL (List.mem_append_right _ (List.mem_append_left _ (List.mem_of_getElem? (i := 80) rfl))) rfl
abbrev c_C_afterZeroIdle : ByteArray := prog_1_method_26_code
abbrev y_C_afterZeroIdle : MethodName := ⟨"ClockedChip", "afterZeroIdle", "()V"⟩
theorem w_C_afterZeroIdle : Cond.code y_C_afterZeroIdle c_C_afterZeroIdle 2 none ∈ ALL := in_ALL (List.mem_append_right _ (List.mem_append_left _ (List.mem_of_getElem? (i := 94) rfl))) rfl
abbrev c_C_afterPointerLow : ByteArray := prog_1_method_27_code
abbrev y_C_afterPointerLow : MethodName := ⟨"ClockedChip", "afterPointerLow", "(I)V"⟩
theorem w_C_afterPointerLow : Cond.code y_C_afterPointerLow c_C_afterPointerLow 2 none ∈ ALL := in_ALL (List.mem_append_right _ (List.mem_append_left _ (List.mem_of_getElem? (i := 98) rfl))) rfl
abbrev c_C_afterPointerPage : ByteArray := prog_1_method_28_code
abbrev y_C_afterPointerPage : MethodName := ⟨"ClockedChip", "afterPointerPage", "(I)V"⟩
theorem w_C_afterPointerPage : Cond.code y_C_afterPointerPage c_C_afterPointerPage 2 none ∈ ALL := in_ALL (List.mem_append_right _ (List.mem_append_left _ (List.mem_of_getElem? (i := 104) rfl))) rfl
abbrev c_C_accessIndexed : ByteArray := prog_1_method_31_code
abbrev y_C_accessIndexed : MethodName := ⟨"ClockedChip", "accessIndexed", "(II)V"⟩
theorem w_C_accessIndexed : Cond.code y_C_accessIndexed c_C_accessIndexed 5 none ∈ ALL := in_ALL (List.mem_append_right _ (List.mem_append_left _ (List.mem_of_getElem? (i := 108) rfl))) rfl
abbrev c_C_afterFarLow : ByteArray := prog_1_method_29_code
abbrev y_C_afterFarLow : MethodName := ⟨"ClockedChip", "afterFarLow", "(I)V"⟩
theorem w_C_afterFarLow : Cond.code y_C_afterFarLow c_C_afterFarLow 2 none ∈ ALL := in_ALL (List.mem_append_right _ (List.mem_append_left _ (List.mem_of_getElem? (i := 114) rfl))) rfl
abbrev c_C_afterFarPage : ByteArray := prog_1_method_30_code
abbrev y_C_afterFarPage : MethodName := ⟨"ClockedChip", "afterFarPage", "(I)V"⟩
theorem w_C_afterFarPage : Cond.code y_C_afterFarPage c_C_afterFarPage 2 none ∈ ALL := in_ALL (List.mem_append_right _ (List.mem_append_left _ (List.mem_of_getElem? (i := 120) rfl))) rfl
abbrev c_C_goTo : ByteArray := prog_1_method_19_code
abbrev y_C_goTo : MethodName := ⟨"ClockedChip", "goTo", "(I)V"⟩
theorem w_C_goTo : Cond.code y_C_goTo c_C_goTo 2 none ∈ ALL := in_ALL (List.mem_append_right _ (List.mem_append_left _ (List.mem_of_getElem? (i := 124) rfl))) rfl
abbrev c_C_afterChangeRead : ByteArray := prog_1_method_33_code
abbrev y_C_afterChangeRead : MethodName := ⟨"ClockedChip", "afterChangeRead", "(I)V"⟩
theorem w_C_afterChangeRead : Cond.code y_C_afterChangeRead c_C_afterChangeRead 2 none ∈ ALL := in_ALL (List.mem_append_right _ (List.mem_append_left _ (List.mem_of_getElem? (i := 128) rfl))) rfl
abbrev c_C_afterBranchDistance : ByteArray := prog_1_method_34_code
abbrev y_C_afterBranchDistance : MethodName := ⟨"ClockedChip", "afterBranchDistance", "(I)V"⟩
theorem w_C_afterBranchDistance : Cond.code y_C_afterBranchDistance c_C_afterBranchDistance 3 none ∈ ALL := in_ALL (List.mem_append_right _ (List.mem_append_left _ (List.mem_of_getElem? (i := 134) rfl))) rfl
abbrev c_R_takesBranch : ByteArray := prog_4_method_13_code
abbrev y_R_takesBranch : MethodName := ⟨"ClockedChip$Registers", "takesBranch", "(I)Z"⟩
theorem w_R_takesBranch : Cond.code y_R_takesBranch c_R_takesBranch 3 (some .boolean) ∈ ALL := in_ALL (List.mem_append_right _ (List.mem_append_left _ (List.mem_of_getElem? (i := 138) rfl))) rfl
abbrev c_C_afterBranchIdle : ByteArray := prog_1_method_35_code
abbrev y_C_afterBranchIdle : MethodName := ⟨"ClockedChip", "afterBranchIdle", "()V"⟩
theorem w_C_afterBranchIdle : Cond.code y_C_afterBranchIdle c_C_afterBranchIdle 2 none ∈ ALL := in_ALL (List.mem_append_right _ (List.mem_append_left _ (List.mem_of_getElem? (i := 144) rfl))) rfl
abbrev c_C_afterBreakNext : ByteArray := prog_1_method_36_code
abbrev y_C_afterBreakNext : MethodName := ⟨"ClockedChip", "afterBreakNext", "()V"⟩
theorem w_C_afterBreakNext : Cond.code y_C_afterBreakNext c_C_afterBreakNext 1 none ∈ ALL := in_ALL (List.mem_append_right _ (List.mem_append_left _ (List.mem_of_getElem? (i := 151) rfl))) rfl
abbrev c_C_afterPcIdle : ByteArray := prog_1_method_37_code
abbrev y_C_afterPcIdle : MethodName := ⟨"ClockedChip", "afterPcIdle", "()V"⟩
theorem w_C_afterPcIdle : Cond.code y_C_afterPcIdle c_C_afterPcIdle 1 none ∈ ALL := in_ALL (List.mem_append_right _ (List.mem_append_left _ (List.mem_of_getElem? (i := 157) rfl))) rfl
abbrev c_R_operateAlone : ByteArray := prog_4_method_15_code
abbrev y_R_operateAlone : MethodName := ⟨"ClockedChip$Registers", "operateAlone", "(I)V"⟩
theorem w_R_operateAlone : Cond.code y_R_operateAlone c_R_operateAlone 2 none ∈ ALL := in_ALL (List.mem_append_right _ (List.mem_append_left _ (List.mem_of_getElem? (i := 161) rfl))) rfl
abbrev c_C_afterStackOrVectorRead : ByteArray := prog_1_method_16_code
abbrev y_C_afterStackOrVectorRead : MethodName := ⟨"ClockedChip", "afterStackOrVectorRead", "(I)V"⟩
theorem w_C_afterStackOrVectorRead : Cond.code y_C_afterStackOrVectorRead c_C_afterStackOrVectorRead 2 none ∈ ALL := in_ALL (List.mem_append_right _ (List.mem_append_left _ (List.mem_of_getElem? (i := 167) rfl))) rfl
abbrev c_C_stepAfterStackIdle : ByteArray := prog_1_method_38_code
abbrev y_C_stepAfterStackIdle : MethodName := ⟨"ClockedChip", "stepAfterStackIdle", "()LClockedChip$Step;"⟩
theorem w_C_stepAfterStackIdle : Cond.code y_C_stepAfterStackIdle c_C_stepAfterStackIdle 1 (some (.object "ClockedChip$Step")) ∈ ALL := in_ALL (List.mem_append_right _ (List.mem_append_left _ (List.mem_of_getElem? (i := 171) rfl))) rfl
abbrev c_C_afterPullByte : ByteArray := prog_1_method_39_code
abbrev y_C_afterPullByte : MethodName := ⟨"ClockedChip", "afterPullByte", "(I)V"⟩
theorem w_C_afterPullByte : Cond.code y_C_afterPullByte c_C_afterPullByte 2 none ∈ ALL := in_ALL (List.mem_append_right _ (List.mem_append_left _ (List.mem_of_getElem? (i := 179) rfl))) rfl
abbrev c_R_takeFlags : ByteArray := prog_4_method_3_code
abbrev y_R_takeFlags : MethodName := ⟨"ClockedChip$Registers", "takeFlags", "(I)V"⟩
theorem w_R_takeFlags : Cond.code y_R_takeFlags c_R_takeFlags 2 none ∈ ALL := in_ALL (List.mem_append_right _ (List.mem_append_left _ (List.mem_of_getElem? (i := 183) rfl))) rfl
abbrev c_C_afterPullLow : ByteArray := prog_1_method_40_code
abbrev y_C_afterPullLow : MethodName := ⟨"ClockedChip", "afterPullLow", "(I)V"⟩
theorem w_C_afterPullLow : Cond.code y_C_afterPullLow c_C_afterPullLow 2 none ∈ ALL := in_ALL (List.mem_append_right _ (List.mem_append_left _ (List.mem_of_getElem? (i := 188) rfl))) rfl
abbrev c_C_afterPullPage : ByteArray := prog_1_method_41_code
abbrev y_C_afterPullPage : MethodName := ⟨"ClockedChip", "afterPullPage", "(I)V"⟩
theorem w_C_afterPullPage : Cond.code y_C_afterPullPage c_C_afterPullPage 2 none ∈ ALL := in_ALL (List.mem_append_right _ (List.mem_append_left _ (List.mem_of_getElem? (i := 194) rfl))) rfl
abbrev c_C_afterVectorLow : ByteArray := prog_1_method_42_code
abbrev y_C_afterVectorLow : MethodName := ⟨"ClockedChip", "afterVectorLow", "(I)V"⟩
theorem w_C_afterVectorLow : Cond.code y_C_afterVectorLow c_C_afterVectorLow 2 none ∈ ALL := in_ALL (List.mem_append_right _ (List.mem_append_left _ (List.mem_of_getElem? (i := 200) rfl))) rfl
abbrev c_C_afterResetStack : ByteArray := prog_1_method_43_code
abbrev y_C_afterResetStack : MethodName := ⟨"ClockedChip", "afterResetStack", "()V"⟩
theorem w_C_afterResetStack : Cond.code y_C_afterResetStack c_C_afterResetStack 1 none ∈ ALL := in_ALL (List.mem_append_right _ (List.mem_append_left _ (List.mem_of_getElem? (i := 210) rfl))) rfl
abbrev c_C_afterResetLow : ByteArray := prog_1_method_44_code
abbrev y_C_afterResetLow : MethodName := ⟨"ClockedChip", "afterResetLow", "(I)V"⟩
theorem w_C_afterResetLow : Cond.code y_C_afterResetLow c_C_afterResetLow 2 none ∈ ALL := in_ALL (List.mem_append_right _ (List.mem_append_left _ (List.mem_of_getElem? (i := 216) rfl))) rfl
abbrev c_C_reset : ByteArray := prog_1_method_7_code
abbrev y_C_reset : MethodName := ⟨"ClockedChip", "reset", "()V"⟩
theorem w_C_reset : Cond.code y_C_reset c_C_reset 1 none ∈ ALL := in_ALL (List.mem_append_right _ (List.mem_append_left _ (List.mem_of_getElem? (i := 221) rfl))) rfl
abbrev c_L_cycles : ByteArray := method_3_code
abbrev y_L_cycles : MethodName := ⟨"ClockedChipLaw", "cycles", "(LClockedChip;I[J)I"⟩
abbrev c_C_cycles : ByteArray := prog_1_method_5_code
abbrev y_C_cycles : MethodName := ⟨"ClockedChip", "cycles", "(I)I"⟩
theorem w_C_cycles : Cond.code y_C_cycles c_C_cycles 4 (some .int) ∈ ALL := in_ALL (List.mem_append_right _ (List.mem_append_left _ (List.mem_of_getElem? (i := 231) rfl))) rfl
abbrev c_L_pin : ByteArray := method_4_code
abbrev y_L_pin : MethodName := ⟨"ClockedChipLaw", "pin", "(LClockedChip;IZ[J)I"⟩
abbrev c_C_pin : ByteArray := prog_1_method_6_code
abbrev y_C_pin : MethodName := ⟨"ClockedChip", "pin", "(IZ)Z"⟩
theorem w_C_pin : Cond.code y_C_pin c_C_pin 4 (some .boolean) ∈ ALL := in_ALL (List.mem_append_right _ (List.mem_append_right _ (List.mem_append_left _ (List.mem_of_getElem? (i := 62) rfl)))) rfl
abbrev c_C_pinWentOn : ByteArray := prog_1_method_10_code
abbrev y_C_pinWentOn : MethodName := ⟨"ClockedChip", "pinWentOn", "(I)V"⟩
theorem w_C_pinWentOn : Cond.code y_C_pinWentOn c_C_pinWentOn 2 none ∈ ALL := in_ALL (List.mem_append_right _ (List.mem_append_right _ (List.mem_append_left _ (List.mem_of_getElem? (i := 81) rfl)))) rfl
abbrev c_L_register : ByteArray := method_5_code
abbrev y_L_register : MethodName := ⟨"ClockedChipLaw", "register", "(LClockedChip;I[J)I"⟩
abbrev c_C_register : ByteArray := prog_1_method_8_code
abbrev y_C_register : MethodName := ⟨"ClockedChip", "register", "(I)I"⟩
theorem w_C_register : Cond.code y_C_register c_C_register 2 (some .int) ∈ ALL := in_ALL (List.mem_append_right _ (List.mem_append_right _ (List.mem_append_left _ (List.mem_of_getElem? (i := 88) rfl)))) rfl
abbrev c_L_set : ByteArray := method_6_code
abbrev y_L_set : MethodName := ⟨"ClockedChipLaw", "set", "(LClockedChip;II)I"⟩
abbrev c_C_set : ByteArray := prog_1_method_9_code
abbrev y_C_set : MethodName := ⟨"ClockedChip", "set", "(II)V"⟩
theorem w_C_set : Cond.code y_C_set c_C_set 3 none ∈ ALL := in_ALL (List.mem_append_right _ (List.mem_append_right _ (List.mem_append_left _ (List.mem_of_getElem? (i := 96) rfl)))) rfl
abbrev c_M_init : ByteArray := prog_7_method_1_code
abbrev y_M_init : MethodName := ⟨"ClockedChipModel", "<init>", "()V"⟩
theorem w_M_init : Cond.code y_M_init c_M_init 1 none ∈ ALL := in_ALL (List.mem_append_right _ (List.mem_append_right _ (List.mem_append_left _ (List.mem_of_getElem? (i := 116) rfl)))) rfl
abbrev c_M_thrown : ByteArray := prog_7_method_2_code
abbrev y_M_thrown : MethodName := ⟨"ClockedChipModel", "thrown", "()I"⟩
theorem w_M_thrown : Cond.code y_M_thrown c_M_thrown 1 (some .int) ∈ ALL := in_ALL (List.mem_append_right _ (List.mem_append_right _ (List.mem_append_left _ (List.mem_of_getElem? (i := 209) rfl)))) rfl
abbrev c_M_poke : ByteArray := prog_7_method_3_code
abbrev y_M_poke : MethodName := ⟨"ClockedChipModel", "poke", "(II)I"⟩
theorem w_M_poke : Cond.code y_M_poke c_M_poke 4 (some .int) ∈ ALL := in_ALL (List.mem_append_right _ (List.mem_append_right _ (List.mem_append_left _ (List.mem_of_getElem? (i := 213) rfl)))) rfl
abbrev c_M_peek : ByteArray := prog_7_method_4_code
abbrev y_M_peek : MethodName := ⟨"ClockedChipModel", "peek", "(I)I"⟩
theorem w_M_peek : Cond.code y_M_peek c_M_peek 2 (some .int) ∈ ALL := in_ALL (List.mem_append_right _ (List.mem_append_right _ (List.mem_append_left _ (List.mem_of_getElem? (i := 217) rfl)))) rfl
abbrev c_M_pin : ByteArray := prog_7_method_8_code
abbrev y_M_pin : MethodName := ⟨"ClockedChipModel", "pin", "(IZ)Z"⟩
theorem w_M_pin : Cond.code y_M_pin c_M_pin 5 (some .boolean) ∈ ALL := in_ALL (List.mem_append_right _ (List.mem_append_right _ (List.mem_append_left _ (List.mem_of_getElem? (i := 221) rfl)))) rfl
abbrev c_M_reset : ByteArray := prog_7_method_9_code
abbrev y_M_reset : MethodName := ⟨"ClockedChipModel", "reset", "()V"⟩
theorem w_M_reset : Cond.code y_M_reset c_M_reset 1 none ∈ ALL := in_ALL (List.mem_append_right _ (List.mem_append_right _ (List.mem_append_left _ (List.mem_of_getElem? (i := 225) rfl)))) rfl
abbrev c_M_cycle : ByteArray := prog_7_method_38_code
abbrev y_M_cycle : MethodName := ⟨"ClockedChipModel", "cycle", "()I"⟩
theorem w_M_cycle : Cond.code y_M_cycle c_M_cycle 1 (some .int) ∈ ALL := in_ALL (List.mem_append_right _ (List.mem_append_right _ (List.mem_append_left _ (List.mem_of_getElem? (i := 229) rfl)))) rfl
abbrev c_M_clock : ByteArray := prog_7_method_37_code
abbrev y_M_clock : MethodName := ⟨"ClockedChipModel", "clock", "()I"⟩
theorem w_M_clock : Cond.code y_M_clock c_M_clock 4 (some .int) ∈ ALL := in_ALL (List.mem_append_right _ (List.mem_append_right _ (List.mem_append_left _ (List.mem_of_getElem? (i := 233) rfl)))) rfl
abbrev c_M_action : ByteArray := prog_7_method_22_code
abbrev y_M_action : MethodName := ⟨"ClockedChipModel", "action", "()I"⟩
theorem w_M_action : Cond.code y_M_action c_M_action 5 (some .int) ∈ ALL := in_ALL (List.mem_append_right _ (List.mem_append_right _ (List.mem_append_left _ (List.mem_of_getElem? (i := 237) rfl)))) rfl
abbrev c_M_digit : ByteArray := prog_7_method_17_code
abbrev y_M_digit : MethodName := ⟨"ClockedChipModel", "digit", "(JI)I"⟩
theorem w_M_digit : Cond.code y_M_digit c_M_digit 6 (some .int) ∈ ALL := in_ALL (List.mem_append_right _ (List.mem_append_right _ (List.mem_append_right _ (List.mem_of_getElem? (i := 1) rfl)))) rfl
abbrev c_M_plainRow : ByteArray := prog_7_method_18_code
abbrev y_M_plainRow : MethodName := ⟨"ClockedChipModel", "plainRow", "()J"⟩
theorem w_M_plainRow : Cond.code y_M_plainRow c_M_plainRow 1 (some .long) ∈ ALL := in_ALL (List.mem_append_right _ (List.mem_append_right _ (List.mem_append_right _ (List.mem_of_getElem? (i := 7) rfl)))) rfl
abbrev c_M_target : ByteArray := prog_7_method_16_code
abbrev y_M_target : MethodName := ⟨"ClockedChipModel", "target", "()I"⟩
theorem w_M_target : Cond.code y_M_target c_M_target 2 (some .int) ∈ ALL := in_ALL (List.mem_append_right _ (List.mem_append_right _ (List.mem_append_right _ (List.mem_of_getElem? (i := 23) rfl)))) rfl
abbrev c_M_addressRow : ByteArray := prog_7_method_19_code
abbrev y_M_addressRow : MethodName := ⟨"ClockedChipModel", "addressRow", "()J"⟩
theorem w_M_addressRow : Cond.code y_M_addressRow c_M_addressRow 1 (some .long) ∈ ALL := in_ALL (List.mem_append_right _ (List.mem_append_right _ (List.mem_append_right _ (List.mem_of_getElem? (i := 29) rfl)))) rfl
abbrev c_M_lengthOf : ByteArray := prog_7_method_20_code
abbrev y_M_lengthOf : MethodName := ⟨"ClockedChipModel", "lengthOf", "(J)I"⟩
theorem w_M_lengthOf : Cond.code y_M_lengthOf c_M_lengthOf 5 (some .int) ∈ ALL := in_ALL (List.mem_append_right _ (List.mem_append_right _ (List.mem_append_right _ (List.mem_of_getElem? (i := 36) rfl)))) rfl
abbrev c_M_access : ByteArray := prog_7_method_21_code
abbrev y_M_access : MethodName := ⟨"ClockedChipModel", "access", "(I)I"⟩
theorem w_M_access : Cond.code y_M_access c_M_access 2 (some .int) ∈ ALL := in_ALL (List.mem_append_right _ (List.mem_append_right _ (List.mem_append_right _ (List.mem_of_getElem? (i := 40) rfl)))) rfl
abbrev c_M_isChange : ByteArray := prog_7_method_10_code
abbrev y_M_isChange : MethodName := ⟨"ClockedChipModel", "isChange", "()Z"⟩
theorem w_M_isChange : Cond.code y_M_isChange c_M_isChange 1 (some .boolean) ∈ ALL := in_ALL (List.mem_append_right _ (List.mem_append_right _ (List.mem_append_right _ (List.mem_of_getElem? (i := 44) rfl)))) rfl
abbrev c_M_plan : ByteArray := prog_7_method_25_code
abbrev y_M_plan : MethodName := ⟨"ClockedChipModel", "plan", "(I)V"⟩
theorem w_M_plan : Cond.code y_M_plan c_M_plan 2 none ∈ ALL := in_ALL (List.mem_append_right _ (List.mem_append_right _ (List.mem_append_right _ (List.mem_of_getElem? (i := 48) rfl)))) rfl
abbrev c_M_reads : ByteArray := prog_7_method_23_code
abbrev y_M_reads : MethodName := ⟨"ClockedChipModel", "reads", "(I)V"⟩
theorem w_M_reads : Cond.code y_M_reads c_M_reads 2 none ∈ ALL := in_ALL (List.mem_append_right _ (List.mem_append_right _ (List.mem_append_right _ (List.mem_of_getElem? (i := 52) rfl)))) rfl
abbrev c_M_half : ByteArray := prog_7_method_14_code
abbrev y_M_half : MethodName := ⟨"ClockedChipModel", "half", "()I"⟩
theorem w_M_half : Cond.code y_M_half c_M_half 1 (some .int) ∈ ALL := in_ALL (List.mem_append_right _ (List.mem_append_right _ (List.mem_append_right _ (List.mem_of_getElem? (i := 56) rfl)))) rfl
abbrev c_M_operand : ByteArray := prog_7_method_12_code
abbrev y_M_operand : MethodName := ⟨"ClockedChipModel", "operand", "()I"⟩
theorem w_M_operand : Cond.code y_M_operand c_M_operand 1 (some .int) ∈ ALL := in_ALL (List.mem_append_right _ (List.mem_append_right _ (List.mem_append_right _ (List.mem_of_getElem? (i := 60) rfl)))) rfl
abbrev c_M_planWrite : ByteArray := prog_7_method_26_code
abbrev y_M_planWrite : MethodName := ⟨"ClockedChipModel", "planWrite", "(I)V"⟩
theorem w_M_planWrite : Cond.code y_M_planWrite c_M_planWrite 2 none ∈ ALL := in_ALL (List.mem_append_right _ (List.mem_append_right _ (List.mem_append_right _ (List.mem_of_getElem? (i := 68) rfl)))) rfl
abbrev c_M_push : ByteArray := prog_7_method_24_code
abbrev y_M_push : MethodName := ⟨"ClockedChipModel", "push", "(I)V"⟩
theorem w_M_push : Cond.code y_M_push c_M_push 2 none ∈ ALL := in_ALL (List.mem_append_right _ (List.mem_append_right _ (List.mem_append_right _ (List.mem_of_getElem? (i := 72) rfl)))) rfl
abbrev c_M_happen : ByteArray := prog_7_method_28_code
abbrev y_M_happen : MethodName := ⟨"ClockedChipModel", "happen", "(II)V"⟩
theorem w_M_happen : Cond.code y_M_happen c_M_happen 3 none ∈ ALL := in_ALL (List.mem_append_right _ (List.mem_append_right _ (List.mem_append_right _ (List.mem_of_getElem? (i := 76) rfl)))) rfl
abbrev c_M_next : ByteArray := prog_7_method_27_code
abbrev y_M_next : MethodName := ⟨"ClockedChipModel", "next", "()V"⟩
theorem w_M_next : Cond.code y_M_next c_M_next 1 none ∈ ALL := in_ALL (List.mem_append_right _ (List.mem_append_right _ (List.mem_append_right _ (List.mem_of_getElem? (i := 80) rfl)))) rfl
abbrev c_M_isJam : ByteArray := prog_7_method_11_code
abbrev y_M_isJam : MethodName := ⟨"ClockedChipModel", "isJam", "()Z"⟩
theorem w_M_isJam : Cond.code y_M_isJam c_M_isJam 2 (some .boolean) ∈ ALL := in_ALL (List.mem_append_right _ (List.mem_append_right _ (List.mem_append_right _ (List.mem_of_getElem? (i := 84) rfl)))) rfl
abbrev c_M_isTaken : ByteArray := prog_7_method_15_code
abbrev y_M_isTaken : MethodName := ⟨"ClockedChipModel", "isTaken", "()Z"⟩
theorem w_M_isTaken : Cond.code y_M_isTaken c_M_isTaken 3 (some .boolean) ∈ ALL := in_ALL (List.mem_append_right _ (List.mem_append_right _ (List.mem_append_right _ (List.mem_of_getElem? (i := 88) rfl)))) rfl
abbrev c_M_is : ByteArray := prog_7_method_5_code
abbrev y_M_is : MethodName := ⟨"ClockedChipModel", "is", "(I)Z"⟩
theorem w_M_is : Cond.code y_M_is c_M_is 2 (some .boolean) ∈ ALL := in_ALL (List.mem_append_right _ (List.mem_append_right _ (List.mem_append_right _ (List.mem_of_getElem? (i := 92) rfl)))) rfl
abbrev c_M_isHalf : ByteArray := prog_7_method_13_code
abbrev y_M_isHalf : MethodName := ⟨"ClockedChipModel", "isHalf", "()Z"⟩
theorem w_M_isHalf : Cond.code y_M_isHalf c_M_isHalf 1 (some .boolean) ∈ ALL := in_ALL (List.mem_append_right _ (List.mem_append_right _ (List.mem_append_right _ (List.mem_of_getElem? (i := 96) rfl)))) rfl
abbrev c_M_use : ByteArray := prog_7_method_33_code
abbrev y_M_use : MethodName := ⟨"ClockedChipModel", "use", "(I)V"⟩
theorem w_M_use : Cond.code y_M_use c_M_use 3 none ∈ ALL := in_ALL (List.mem_append_right _ (List.mem_append_right _ (List.mem_append_right _ (List.mem_of_getElem? (i := 100) rfl)))) rfl
abbrev c_M_mark : ByteArray := prog_7_method_7_code
abbrev y_M_mark : MethodName := ⟨"ClockedChipModel", "mark", "(I)I"⟩
theorem w_M_mark : Cond.code y_M_mark c_M_mark 2 (some .int) ∈ ALL := in_ALL (List.mem_append_right _ (List.mem_append_right _ (List.mem_append_right _ (List.mem_of_getElem? (i := 104) rfl)))) rfl
abbrev c_M_put : ByteArray := prog_7_method_6_code
abbrev y_M_put : MethodName := ⟨"ClockedChipModel", "put", "(IZ)V"⟩
theorem w_M_put : Cond.code y_M_put c_M_put 3 none ∈ ALL := in_ALL (List.mem_append_right _ (List.mem_append_right _ (List.mem_append_right _ (List.mem_of_getElem? (i := 108) rfl)))) rfl
abbrev c_M_addDecimal : ByteArray := prog_7_method_35_code
abbrev y_M_addDecimal : MethodName := ⟨"ClockedChipModel", "addDecimal", "(I)I"⟩
theorem w_M_addDecimal : Cond.code y_M_addDecimal c_M_addDecimal 5 (some .int) ∈ ALL := in_ALL (List.mem_append_right _ (List.mem_append_right _ (List.mem_append_right _ (List.mem_of_getElem? (i := 112) rfl)))) rfl
abbrev c_M_add : ByteArray := prog_7_method_34_code
abbrev y_M_add : MethodName := ⟨"ClockedChipModel", "add", "(I)I"⟩
theorem w_M_add : Cond.code y_M_add c_M_add 3 (some .int) ∈ ALL := in_ALL (List.mem_append_right _ (List.mem_append_right _ (List.mem_append_right _ (List.mem_of_getElem? (i := 116) rfl)))) rfl
abbrev c_M_subtract : ByteArray := prog_7_method_36_code
abbrev y_M_subtract : MethodName := ⟨"ClockedChipModel", "subtract", "(I)I"⟩
theorem w_M_subtract : Cond.code y_M_subtract c_M_subtract 6 (some .int) ∈ ALL := in_ALL (List.mem_append_right _ (List.mem_append_right _ (List.mem_append_right _ (List.mem_of_getElem? (i := 120) rfl)))) rfl
abbrev c_M_changed : ByteArray := prog_7_method_32_code
abbrev y_M_changed : MethodName := ⟨"ClockedChipModel", "changed", "(I)I"⟩
theorem w_M_changed : Cond.code y_M_changed c_M_changed 2 (some .int) ∈ ALL := in_ALL (List.mem_append_right _ (List.mem_append_right _ (List.mem_append_right _ (List.mem_of_getElem? (i := 124) rfl)))) rfl
abbrev c_M_happenStack : ByteArray := prog_7_method_29_code
abbrev y_M_happenStack : MethodName := ⟨"ClockedChipModel", "happenStack", "(II)V"⟩
theorem w_M_happenStack : Cond.code y_M_happenStack c_M_happenStack 5 none ∈ ALL := in_ALL (List.mem_append_right _ (List.mem_append_right _ (List.mem_append_right _ (List.mem_of_getElem? (i := 128) rfl)))) rfl
abbrev c_M_idle : ByteArray := prog_7_method_30_code
abbrev y_M_idle : MethodName := ⟨"ClockedChipModel", "idle", "()V"⟩
theorem w_M_idle : Cond.code y_M_idle c_M_idle 1 none ∈ ALL := in_ALL (List.mem_append_right _ (List.mem_append_right _ (List.mem_append_right _ (List.mem_of_getElem? (i := 132) rfl)))) rfl
abbrev c_M_plain : ByteArray := prog_7_method_31_code
abbrev y_M_plain : MethodName := ⟨"ClockedChipModel", "plain", "()V"⟩
theorem w_M_plain : Cond.code y_M_plain c_M_plain 1 none ∈ ALL := in_ALL (List.mem_append_right _ (List.mem_append_right _ (List.mem_append_right _ (List.mem_of_getElem? (i := 136) rfl)))) rfl
abbrev c_M_cycles : ByteArray := prog_7_method_39_code
abbrev y_M_cycles : MethodName := ⟨"ClockedChipModel", "cycles", "(I)I"⟩
theorem w_M_cycles : Cond.code y_M_cycles c_M_cycles 4 (some .int) ∈ ALL := in_ALL (List.mem_append_right _ (List.mem_append_right _ (List.mem_append_right _ (List.mem_of_getElem? (i := 140) rfl)))) rfl
abbrev c_M_register : ByteArray := prog_7_method_40_code
abbrev y_M_register : MethodName := ⟨"ClockedChipModel", "register", "(I)I"⟩
theorem w_M_register : Cond.code y_M_register c_M_register 2 (some .int) ∈ ALL := in_ALL (List.mem_append_right _ (List.mem_append_right _ (List.mem_append_right _ (List.mem_of_getElem? (i := 144) rfl)))) rfl
abbrev c_M_set : ByteArray := prog_7_method_41_code
abbrev y_M_set : MethodName := ⟨"ClockedChipModel", "set", "(II)V"⟩
theorem w_M_set : Cond.code y_M_set c_M_set 3 none ∈ ALL := in_ALL (List.mem_append_right _ (List.mem_append_right _ (List.mem_append_right _ (List.mem_of_getElem? (i := 148) rfl)))) rfl
end
section
/-! decode rows (printed by my own program) -/
theorem d_R_init_0 : decode c_R_init 0 = .ok (.aload_n 0, 1) := by decide +kernel
theorem d_R_init_1 : decode c_R_init 1 = .ok (.invokespecial 3, 3) := by decide +kernel
theorem d_R_init_4 : decode c_R_init 4 = .ok (.return_, 1) := by decide +kernel
theorem d_R_changed_0 : decode c_R_changed 0 = .ok (.iload_n 1, 1) := by decide +kernel
theorem d_R_changed_1 : decode c_R_changed 1 = .ok (.tableswitch 57 10 12 #[27, 37, 47], 27) := by decide +kernel
theorem d_R_changed_28 : decode c_R_changed 28 = .ok (.iload_n 2, 1) := by decide +kernel
theorem d_R_changed_29 : decode c_R_changed 29 = .ok (.iconst 1, 1) := by decide +kernel
theorem d_R_changed_30 : decode c_R_changed 30 = .ok (.iadd, 1) := by decide +kernel
theorem d_R_changed_31 : decode c_R_changed 31 = .ok (.sipush 255, 3) := by decide +kernel
theorem d_R_changed_34 : decode c_R_changed 34 = .ok (.iand, 1) := by decide +kernel
theorem d_R_changed_35 : decode c_R_changed 35 = .ok (.goto 26, 3) := by decide +kernel
theorem d_R_changed_38 : decode c_R_changed 38 = .ok (.iload_n 2, 1) := by decide +kernel
theorem d_R_changed_39 : decode c_R_changed 39 = .ok (.iconst 1, 1) := by decide +kernel
theorem d_R_changed_40 : decode c_R_changed 40 = .ok (.isub, 1) := by decide +kernel
theorem d_R_changed_41 : decode c_R_changed 41 = .ok (.sipush 255, 3) := by decide +kernel
theorem d_R_changed_44 : decode c_R_changed 44 = .ok (.iand, 1) := by decide +kernel
theorem d_R_changed_45 : decode c_R_changed 45 = .ok (.goto 16, 3) := by decide +kernel
theorem d_R_changed_48 : decode c_R_changed 48 = .ok (.iload_n 2, 1) := by decide +kernel
theorem d_R_changed_49 : decode c_R_changed 49 = .ok (.iconst 1, 1) := by decide +kernel
theorem d_R_changed_50 : decode c_R_changed 50 = .ok (.ishl, 1) := by decide +kernel
theorem d_R_changed_51 : decode c_R_changed 51 = .ok (.sipush 255, 3) := by decide +kernel
theorem d_R_changed_54 : decode c_R_changed 54 = .ok (.iand, 1) := by decide +kernel
theorem d_R_changed_55 : decode c_R_changed 55 = .ok (.goto 6, 3) := by decide +kernel
theorem d_R_changed_58 : decode c_R_changed 58 = .ok (.iload_n 2, 1) := by decide +kernel
theorem d_R_changed_59 : decode c_R_changed 59 = .ok (.iconst 1, 1) := by decide +kernel
theorem d_R_changed_60 : decode c_R_changed 60 = .ok (.ishr, 1) := by decide +kernel
theorem d_R_changed_61 : decode c_R_changed 61 = .ok (.ireturn, 1) := by decide +kernel
theorem d_R_p_0 : decode c_R_p 0 = .ok (.aload_n 0, 1) := by decide +kernel
theorem d_R_p_1 : decode c_R_p 1 = .ok (.getfield 9, 3) := by decide +kernel
theorem d_R_p_4 : decode c_R_p 4 = .ok (.bipush 32, 2) := by decide +kernel
theorem d_R_p_6 : decode c_R_p 6 = .ok (.iadd, 1) := by decide +kernel
theorem d_R_p_7 : decode c_R_p 7 = .ok (.ireturn, 1) := by decide +kernel
theorem d_R_flagsOfChange_0 : decode c_R_flagsOfChange 0 = .ok (.iload_n 1, 1) := by decide +kernel
theorem d_R_flagsOfChange_1 : decode c_R_flagsOfChange 1 = .ok (.bipush 12, 2) := by decide +kernel
theorem d_R_flagsOfChange_3 : decode c_R_flagsOfChange 3 = .ok (.if_icmp .ne 23, 3) := by decide +kernel
theorem d_R_flagsOfChange_6 : decode c_R_flagsOfChange 6 = .ok (.aload_n 0, 1) := by decide +kernel
theorem d_R_flagsOfChange_7 : decode c_R_flagsOfChange 7 = .ok (.iconst 1, 1) := by decide +kernel
theorem d_R_flagsOfChange_8 : decode c_R_flagsOfChange 8 = .ok (.iload_n 2, 1) := by decide +kernel
theorem d_R_flagsOfChange_9 : decode c_R_flagsOfChange 9 = .ok (.sipush 128, 3) := by decide +kernel
theorem d_R_flagsOfChange_12 : decode c_R_flagsOfChange 12 = .ok (.if_icmp .lt 7, 3) := by decide +kernel
theorem d_R_flagsOfChange_15 : decode c_R_flagsOfChange 15 = .ok (.iconst 1, 1) := by decide +kernel
theorem d_R_flagsOfChange_16 : decode c_R_flagsOfChange 16 = .ok (.goto 4, 3) := by decide +kernel
theorem d_R_flagsOfChange_19 : decode c_R_flagsOfChange 19 = .ok (.iconst 0, 1) := by decide +kernel
theorem d_R_flagsOfChange_20 : decode c_R_flagsOfChange 20 = .ok (.invokevirtual 57, 3) := by decide +kernel
theorem d_R_flagsOfChange_23 : decode c_R_flagsOfChange 23 = .ok (.goto 26, 3) := by decide +kernel
theorem d_R_flagsOfChange_26 : decode c_R_flagsOfChange 26 = .ok (.iload_n 1, 1) := by decide +kernel
theorem d_R_flagsOfChange_27 : decode c_R_flagsOfChange 27 = .ok (.bipush 13, 2) := by decide +kernel
theorem d_R_flagsOfChange_29 : decode c_R_flagsOfChange 29 = .ok (.if_icmp .ne 20, 3) := by decide +kernel
theorem d_R_flagsOfChange_32 : decode c_R_flagsOfChange 32 = .ok (.aload_n 0, 1) := by decide +kernel
theorem d_R_flagsOfChange_33 : decode c_R_flagsOfChange 33 = .ok (.iconst 1, 1) := by decide +kernel
theorem d_R_flagsOfChange_34 : decode c_R_flagsOfChange 34 = .ok (.iload_n 2, 1) := by decide +kernel
theorem d_R_flagsOfChange_35 : decode c_R_flagsOfChange 35 = .ok (.iconst 1, 1) := by decide +kernel
theorem d_R_flagsOfChange_36 : decode c_R_flagsOfChange 36 = .ok (.iand, 1) := by decide +kernel
theorem d_R_flagsOfChange_37 : decode c_R_flagsOfChange 37 = .ok (.iconst 1, 1) := by decide +kernel
theorem d_R_flagsOfChange_38 : decode c_R_flagsOfChange 38 = .ok (.if_icmp .ne 7, 3) := by decide +kernel
theorem d_R_flagsOfChange_41 : decode c_R_flagsOfChange 41 = .ok (.iconst 1, 1) := by decide +kernel
theorem d_R_flagsOfChange_42 : decode c_R_flagsOfChange 42 = .ok (.goto 4, 3) := by decide +kernel
theorem d_R_flagsOfChange_45 : decode c_R_flagsOfChange 45 = .ok (.iconst 0, 1) := by decide +kernel
theorem d_R_flagsOfChange_46 : decode c_R_flagsOfChange 46 = .ok (.invokevirtual 57, 3) := by decide +kernel
theorem d_R_flagsOfChange_49 : decode c_R_flagsOfChange 49 = .ok (.aload_n 0, 1) := by decide +kernel
theorem d_R_flagsOfChange_50 : decode c_R_flagsOfChange 50 = .ok (.aload_n 0, 1) := by decide +kernel
theorem d_R_flagsOfChange_51 : decode c_R_flagsOfChange 51 = .ok (.iload_n 1, 1) := by decide +kernel
theorem d_R_flagsOfChange_52 : decode c_R_flagsOfChange 52 = .ok (.iload_n 2, 1) := by decide +kernel
theorem d_R_flagsOfChange_53 : decode c_R_flagsOfChange 53 = .ok (.invokevirtual 61, 3) := by decide +kernel
theorem d_R_flagsOfChange_56 : decode c_R_flagsOfChange 56 = .ok (.invokevirtual 25, 3) := by decide +kernel
theorem d_R_flagsOfChange_59 : decode c_R_flagsOfChange 59 = .ok (.return_, 1) := by decide +kernel
theorem d_R_put_0 : decode c_R_put 0 = .ok (.aload_n 0, 1) := by decide +kernel
theorem d_R_put_1 : decode c_R_put 1 = .ok (.iload_n 2, 1) := by decide +kernel
theorem d_R_put_2 : decode c_R_put 2 = .ok (.ifCond .eq 12, 3) := by decide +kernel
theorem d_R_put_5 : decode c_R_put 5 = .ok (.aload_n 0, 1) := by decide +kernel
theorem d_R_put_6 : decode c_R_put 6 = .ok (.getfield 9, 3) := by decide +kernel
theorem d_R_put_9 : decode c_R_put 9 = .ok (.iload_n 1, 1) := by decide +kernel
theorem d_R_put_10 : decode c_R_put 10 = .ok (.ior, 1) := by decide +kernel
theorem d_R_put_11 : decode c_R_put 11 = .ok (.goto 11, 3) := by decide +kernel
theorem d_R_put_14 : decode c_R_put 14 = .ok (.aload_n 0, 1) := by decide +kernel
theorem d_R_put_15 : decode c_R_put 15 = .ok (.getfield 9, 3) := by decide +kernel
theorem d_R_put_18 : decode c_R_put 18 = .ok (.iload_n 1, 1) := by decide +kernel
theorem d_R_put_19 : decode c_R_put 19 = .ok (.iconst (-1), 1) := by decide +kernel
theorem d_R_put_20 : decode c_R_put 20 = .ok (.ixor, 1) := by decide +kernel
theorem d_R_put_21 : decode c_R_put 21 = .ok (.iand, 1) := by decide +kernel
theorem d_R_put_22 : decode c_R_put 22 = .ok (.putfield 9, 3) := by decide +kernel
theorem d_R_put_25 : decode c_R_put 25 = .ok (.return_, 1) := by decide +kernel
theorem d_R_putNz_0 : decode c_R_putNz 0 = .ok (.aload_n 0, 1) := by decide +kernel
theorem d_R_putNz_1 : decode c_R_putNz 1 = .ok (.getfield 9, 3) := by decide +kernel
theorem d_R_putNz_4 : decode c_R_putNz 4 = .ok (.sipush (-131), 3) := by decide +kernel
theorem d_R_putNz_7 : decode c_R_putNz 7 = .ok (.iand, 1) := by decide +kernel
theorem d_R_putNz_8 : decode c_R_putNz 8 = .ok (.istore_n 2, 1) := by decide +kernel
theorem d_R_putNz_9 : decode c_R_putNz 9 = .ok (.aload_n 0, 1) := by decide +kernel
theorem d_R_putNz_10 : decode c_R_putNz 10 = .ok (.iload_n 2, 1) := by decide +kernel
theorem d_R_putNz_11 : decode c_R_putNz 11 = .ok (.iload_n 1, 1) := by decide +kernel
theorem d_R_putNz_12 : decode c_R_putNz 12 = .ok (.sipush 128, 3) := by decide +kernel
theorem d_R_putNz_15 : decode c_R_putNz 15 = .ok (.iand, 1) := by decide +kernel
theorem d_R_putNz_16 : decode c_R_putNz 16 = .ok (.ior, 1) := by decide +kernel
theorem d_R_putNz_17 : decode c_R_putNz 17 = .ok (.iload_n 1, 1) := by decide +kernel
theorem d_R_putNz_18 : decode c_R_putNz 18 = .ok (.ifCond .ne 7, 3) := by decide +kernel
theorem d_R_putNz_21 : decode c_R_putNz 21 = .ok (.iconst 2, 1) := by decide +kernel
theorem d_R_putNz_22 : decode c_R_putNz 22 = .ok (.goto 4, 3) := by decide +kernel
theorem d_R_putNz_25 : decode c_R_putNz 25 = .ok (.iconst 0, 1) := by decide +kernel
theorem d_R_putNz_26 : decode c_R_putNz 26 = .ok (.ior, 1) := by decide +kernel
theorem d_R_putNz_27 : decode c_R_putNz 27 = .ok (.putfield 9, 3) := by decide +kernel
theorem d_R_putNz_30 : decode c_R_putNz 30 = .ok (.return_, 1) := by decide +kernel
theorem d_R_has_0 : decode c_R_has 0 = .ok (.aload_n 0, 1) := by decide +kernel
theorem d_R_has_1 : decode c_R_has 1 = .ok (.getfield 9, 3) := by decide +kernel
theorem d_R_has_4 : decode c_R_has 4 = .ok (.iload_n 1, 1) := by decide +kernel
theorem d_R_has_5 : decode c_R_has 5 = .ok (.iand, 1) := by decide +kernel
theorem d_R_has_6 : decode c_R_has 6 = .ok (.ifCond .eq 7, 3) := by decide +kernel
theorem d_R_has_9 : decode c_R_has 9 = .ok (.iconst 1, 1) := by decide +kernel
theorem d_R_has_10 : decode c_R_has 10 = .ok (.goto 4, 3) := by decide +kernel
theorem d_R_has_13 : decode c_R_has 13 = .ok (.iconst 0, 1) := by decide +kernel
theorem d_R_has_14 : decode c_R_has 14 = .ok (.ireturn, 1) := by decide +kernel
theorem d_R_moveStack_0 : decode c_R_moveStack 0 = .ok (.aload_n 0, 1) := by decide +kernel
theorem d_R_moveStack_1 : decode c_R_moveStack 1 = .ok (.aload_n 0, 1) := by decide +kernel
theorem d_R_moveStack_2 : decode c_R_moveStack 2 = .ok (.getfield 19, 3) := by decide +kernel
theorem d_R_moveStack_5 : decode c_R_moveStack 5 = .ok (.iload_n 1, 1) := by decide +kernel
theorem d_R_moveStack_6 : decode c_R_moveStack 6 = .ok (.iadd, 1) := by decide +kernel
theorem d_R_moveStack_7 : decode c_R_moveStack 7 = .ok (.sipush 255, 3) := by decide +kernel
theorem d_R_moveStack_10 : decode c_R_moveStack 10 = .ok (.iand, 1) := by decide +kernel
theorem d_R_moveStack_11 : decode c_R_moveStack 11 = .ok (.putfield 19, 3) := by decide +kernel
theorem d_R_moveStack_14 : decode c_R_moveStack 14 = .ok (.return_, 1) := by decide +kernel
theorem d_R_nextPc_0 : decode c_R_nextPc 0 = .ok (.aload_n 0, 1) := by decide +kernel
theorem d_R_nextPc_1 : decode c_R_nextPc 1 = .ok (.aload_n 0, 1) := by decide +kernel
theorem d_R_nextPc_2 : decode c_R_nextPc 2 = .ok (.getfield 15, 3) := by decide +kernel
theorem d_R_nextPc_5 : decode c_R_nextPc 5 = .ok (.iconst 1, 1) := by decide +kernel
theorem d_R_nextPc_6 : decode c_R_nextPc 6 = .ok (.iadd, 1) := by decide +kernel
theorem d_R_nextPc_7 : decode c_R_nextPc 7 = .ok (.ldc 18, 2) := by decide +kernel
theorem d_R_nextPc_9 : decode c_R_nextPc 9 = .ok (.iand, 1) := by decide +kernel
theorem d_R_nextPc_10 : decode c_R_nextPc 10 = .ok (.putfield 15, 3) := by decide +kernel
theorem d_R_nextPc_13 : decode c_R_nextPc 13 = .ok (.return_, 1) := by decide +kernel
theorem d_R_operate_0 : decode c_R_operate 0 = .ok (.iload_n 1, 1) := by decide +kernel
theorem d_R_operate_1 : decode c_R_operate 1 = .ok (.tableswitch 130 0 8 #[51, 130, 59, 67, 75, 88, 101, 114, 122], 51) := by decide +kernel
theorem d_R_operate_52 : decode c_R_operate 52 = .ok (.aload_n 0, 1) := by decide +kernel
theorem d_R_operate_53 : decode c_R_operate 53 = .ok (.iload_n 2, 1) := by decide +kernel
theorem d_R_operate_54 : decode c_R_operate 54 = .ok (.invokevirtual 39, 3) := by decide +kernel
theorem d_R_operate_57 : decode c_R_operate 57 = .ok (.goto 79, 3) := by decide +kernel
theorem d_R_operate_60 : decode c_R_operate 60 = .ok (.aload_n 0, 1) := by decide +kernel
theorem d_R_operate_61 : decode c_R_operate 61 = .ok (.iload_n 2, 1) := by decide +kernel
theorem d_R_operate_62 : decode c_R_operate 62 = .ok (.invokevirtual 42, 3) := by decide +kernel
theorem d_R_operate_65 : decode c_R_operate 65 = .ok (.goto 71, 3) := by decide +kernel
theorem d_R_operate_68 : decode c_R_operate 68 = .ok (.aload_n 0, 1) := by decide +kernel
theorem d_R_operate_69 : decode c_R_operate 69 = .ok (.iload_n 2, 1) := by decide +kernel
theorem d_R_operate_70 : decode c_R_operate 70 = .ok (.invokevirtual 45, 3) := by decide +kernel
theorem d_R_operate_73 : decode c_R_operate 73 = .ok (.goto 63, 3) := by decide +kernel
theorem d_R_operate_76 : decode c_R_operate 76 = .ok (.aload_n 0, 1) := by decide +kernel
theorem d_R_operate_77 : decode c_R_operate 77 = .ok (.aload_n 0, 1) := by decide +kernel
theorem d_R_operate_78 : decode c_R_operate 78 = .ok (.getfield 22, 3) := by decide +kernel
theorem d_R_operate_81 : decode c_R_operate 81 = .ok (.iload_n 2, 1) := by decide +kernel
theorem d_R_operate_82 : decode c_R_operate 82 = .ok (.iand, 1) := by decide +kernel
theorem d_R_operate_83 : decode c_R_operate 83 = .ok (.invokevirtual 39, 3) := by decide +kernel
theorem d_R_operate_86 : decode c_R_operate 86 = .ok (.goto 50, 3) := by decide +kernel
theorem d_R_operate_89 : decode c_R_operate 89 = .ok (.aload_n 0, 1) := by decide +kernel
theorem d_R_operate_90 : decode c_R_operate 90 = .ok (.aload_n 0, 1) := by decide +kernel
theorem d_R_operate_91 : decode c_R_operate 91 = .ok (.getfield 22, 3) := by decide +kernel
theorem d_R_operate_94 : decode c_R_operate 94 = .ok (.iload_n 2, 1) := by decide +kernel
theorem d_R_operate_95 : decode c_R_operate 95 = .ok (.ior, 1) := by decide +kernel
theorem d_R_operate_96 : decode c_R_operate 96 = .ok (.invokevirtual 39, 3) := by decide +kernel
theorem d_R_operate_99 : decode c_R_operate 99 = .ok (.goto 37, 3) := by decide +kernel
theorem d_R_operate_102 : decode c_R_operate 102 = .ok (.aload_n 0, 1) := by decide +kernel
theorem d_R_operate_103 : decode c_R_operate 103 = .ok (.aload_n 0, 1) := by decide +kernel
theorem d_R_operate_104 : decode c_R_operate 104 = .ok (.getfield 22, 3) := by decide +kernel
theorem d_R_operate_107 : decode c_R_operate 107 = .ok (.iload_n 2, 1) := by decide +kernel
theorem d_R_operate_108 : decode c_R_operate 108 = .ok (.ixor, 1) := by decide +kernel
theorem d_R_operate_109 : decode c_R_operate 109 = .ok (.invokevirtual 39, 3) := by decide +kernel
theorem d_R_operate_112 : decode c_R_operate 112 = .ok (.goto 24, 3) := by decide +kernel
theorem d_R_operate_115 : decode c_R_operate 115 = .ok (.aload_n 0, 1) := by decide +kernel
theorem d_R_operate_116 : decode c_R_operate 116 = .ok (.iload_n 2, 1) := by decide +kernel
theorem d_R_operate_117 : decode c_R_operate 117 = .ok (.invokevirtual 48, 3) := by decide +kernel
theorem d_R_operate_120 : decode c_R_operate 120 = .ok (.goto 16, 3) := by decide +kernel
theorem d_R_operate_123 : decode c_R_operate 123 = .ok (.aload_n 0, 1) := by decide +kernel
theorem d_R_operate_124 : decode c_R_operate 124 = .ok (.iload_n 2, 1) := by decide +kernel
theorem d_R_operate_125 : decode c_R_operate 125 = .ok (.invokevirtual 51, 3) := by decide +kernel
theorem d_R_operate_128 : decode c_R_operate 128 = .ok (.goto 8, 3) := by decide +kernel
theorem d_R_operate_131 : decode c_R_operate 131 = .ok (.aload_n 0, 1) := by decide +kernel
theorem d_R_operate_132 : decode c_R_operate 132 = .ok (.iload_n 2, 1) := by decide +kernel
theorem d_R_operate_133 : decode c_R_operate 133 = .ok (.invokevirtual 54, 3) := by decide +kernel
theorem d_R_operate_136 : decode c_R_operate 136 = .ok (.return_, 1) := by decide +kernel
theorem d_R_loadA_0 : decode c_R_loadA 0 = .ok (.aload_n 0, 1) := by decide +kernel
theorem d_R_loadA_1 : decode c_R_loadA 1 = .ok (.iload_n 1, 1) := by decide +kernel
theorem d_R_loadA_2 : decode c_R_loadA 2 = .ok (.sipush 255, 3) := by decide +kernel
theorem d_R_loadA_5 : decode c_R_loadA 5 = .ok (.iand, 1) := by decide +kernel
theorem d_R_loadA_6 : decode c_R_loadA 6 = .ok (.putfield 22, 3) := by decide +kernel
theorem d_R_loadA_9 : decode c_R_loadA 9 = .ok (.aload_n 0, 1) := by decide +kernel
theorem d_R_loadA_10 : decode c_R_loadA 10 = .ok (.aload_n 0, 1) := by decide +kernel
theorem d_R_loadA_11 : decode c_R_loadA 11 = .ok (.getfield 22, 3) := by decide +kernel
theorem d_R_loadA_14 : decode c_R_loadA 14 = .ok (.invokevirtual 25, 3) := by decide +kernel
theorem d_R_loadA_17 : decode c_R_loadA 17 = .ok (.return_, 1) := by decide +kernel
theorem d_R_add_0 : decode c_R_add 0 = .ok (.aload_n 0, 1) := by decide +kernel
theorem d_R_add_1 : decode c_R_add 1 = .ok (.bipush 8, 2) := by decide +kernel
theorem d_R_add_3 : decode c_R_add 3 = .ok (.invokevirtual 35, 3) := by decide +kernel
theorem d_R_add_6 : decode c_R_add 6 = .ok (.ifCond .eq 11, 3) := by decide +kernel
theorem d_R_add_9 : decode c_R_add 9 = .ok (.aload_n 0, 1) := by decide +kernel
theorem d_R_add_10 : decode c_R_add 10 = .ok (.iload_n 1, 1) := by decide +kernel
theorem d_R_add_11 : decode c_R_add 11 = .ok (.invokevirtual 65, 3) := by decide +kernel
theorem d_R_add_14 : decode c_R_add 14 = .ok (.goto 30, 3) := by decide +kernel
theorem d_R_add_17 : decode c_R_add 17 = .ok (.aload_n 0, 1) := by decide +kernel
theorem d_R_add_18 : decode c_R_add 18 = .ok (.getfield 22, 3) := by decide +kernel
theorem d_R_add_21 : decode c_R_add 21 = .ok (.iload_n 1, 1) := by decide +kernel
theorem d_R_add_22 : decode c_R_add 22 = .ok (.iadd, 1) := by decide +kernel
theorem d_R_add_23 : decode c_R_add 23 = .ok (.aload_n 0, 1) := by decide +kernel
theorem d_R_add_24 : decode c_R_add 24 = .ok (.invokevirtual 68, 3) := by decide +kernel
theorem d_R_add_27 : decode c_R_add 27 = .ok (.iadd, 1) := by decide +kernel
theorem d_R_add_28 : decode c_R_add 28 = .ok (.istore_n 2, 1) := by decide +kernel
theorem d_R_add_29 : decode c_R_add 29 = .ok (.aload_n 0, 1) := by decide +kernel
theorem d_R_add_30 : decode c_R_add 30 = .ok (.iload_n 1, 1) := by decide +kernel
theorem d_R_add_31 : decode c_R_add 31 = .ok (.iload_n 2, 1) := by decide +kernel
theorem d_R_add_32 : decode c_R_add 32 = .ok (.invokevirtual 72, 3) := by decide +kernel
theorem d_R_add_35 : decode c_R_add 35 = .ok (.aload_n 0, 1) := by decide +kernel
theorem d_R_add_36 : decode c_R_add 36 = .ok (.iload_n 2, 1) := by decide +kernel
theorem d_R_add_37 : decode c_R_add 37 = .ok (.sipush 255, 3) := by decide +kernel
theorem d_R_add_40 : decode c_R_add 40 = .ok (.iand, 1) := by decide +kernel
theorem d_R_add_41 : decode c_R_add 41 = .ok (.putfield 22, 3) := by decide +kernel
theorem d_R_add_44 : decode c_R_add 44 = .ok (.return_, 1) := by decide +kernel
theorem d_R_addDecimal_0 : decode c_R_addDecimal 0 = .ok (.aload_n 0, 1) := by decide +kernel
theorem d_R_addDecimal_1 : decode c_R_addDecimal 1 = .ok (.getfield 22, 3) := by decide +kernel
theorem d_R_addDecimal_4 : decode c_R_addDecimal 4 = .ok (.bipush 15, 2) := by decide +kernel
theorem d_R_addDecimal_6 : decode c_R_addDecimal 6 = .ok (.iand, 1) := by decide +kernel
theorem d_R_addDecimal_7 : decode c_R_addDecimal 7 = .ok (.iload_n 1, 1) := by decide +kernel
theorem d_R_addDecimal_8 : decode c_R_addDecimal 8 = .ok (.bipush 15, 2) := by decide +kernel
theorem d_R_addDecimal_10 : decode c_R_addDecimal 10 = .ok (.iand, 1) := by decide +kernel
theorem d_R_addDecimal_11 : decode c_R_addDecimal 11 = .ok (.iadd, 1) := by decide +kernel
theorem d_R_addDecimal_12 : decode c_R_addDecimal 12 = .ok (.aload_n 0, 1) := by decide +kernel
theorem d_R_addDecimal_13 : decode c_R_addDecimal 13 = .ok (.invokevirtual 68, 3) := by decide +kernel
theorem d_R_addDecimal_16 : decode c_R_addDecimal 16 = .ok (.iadd, 1) := by decide +kernel
theorem d_R_addDecimal_17 : decode c_R_addDecimal 17 = .ok (.istore_n 2, 1) := by decide +kernel
theorem d_R_addDecimal_18 : decode c_R_addDecimal 18 = .ok (.iload_n 2, 1) := by decide +kernel
theorem d_R_addDecimal_19 : decode c_R_addDecimal 19 = .ok (.bipush 9, 2) := by decide +kernel
theorem d_R_addDecimal_21 : decode c_R_addDecimal 21 = .ok (.if_icmp .le 6, 3) := by decide +kernel
theorem d_R_addDecimal_24 : decode c_R_addDecimal 24 = .ok (.iinc 2 6, 3) := by decide +kernel
theorem d_R_addDecimal_27 : decode c_R_addDecimal 27 = .ok (.aload_n 0, 1) := by decide +kernel
theorem d_R_addDecimal_28 : decode c_R_addDecimal 28 = .ok (.getfield 22, 3) := by decide +kernel
theorem d_R_addDecimal_31 : decode c_R_addDecimal 31 = .ok (.iconst 4, 1) := by decide +kernel
theorem d_R_addDecimal_32 : decode c_R_addDecimal 32 = .ok (.ishr, 1) := by decide +kernel
theorem d_R_addDecimal_33 : decode c_R_addDecimal 33 = .ok (.iload_n 1, 1) := by decide +kernel
theorem d_R_addDecimal_34 : decode c_R_addDecimal 34 = .ok (.iconst 4, 1) := by decide +kernel
theorem d_R_addDecimal_35 : decode c_R_addDecimal 35 = .ok (.ishr, 1) := by decide +kernel
theorem d_R_addDecimal_36 : decode c_R_addDecimal 36 = .ok (.iadd, 1) := by decide +kernel
theorem d_R_addDecimal_37 : decode c_R_addDecimal 37 = .ok (.iload_n 2, 1) := by decide +kernel
theorem d_R_addDecimal_38 : decode c_R_addDecimal 38 = .ok (.bipush 15, 2) := by decide +kernel
theorem d_R_addDecimal_40 : decode c_R_addDecimal 40 = .ok (.if_icmp .le 7, 3) := by decide +kernel
theorem d_R_addDecimal_43 : decode c_R_addDecimal 43 = .ok (.iconst 1, 1) := by decide +kernel
theorem d_R_addDecimal_44 : decode c_R_addDecimal 44 = .ok (.goto 4, 3) := by decide +kernel
theorem d_R_addDecimal_47 : decode c_R_addDecimal 47 = .ok (.iconst 0, 1) := by decide +kernel
theorem d_R_addDecimal_48 : decode c_R_addDecimal 48 = .ok (.iadd, 1) := by decide +kernel
theorem d_R_addDecimal_49 : decode c_R_addDecimal 49 = .ok (.istore_n 3, 1) := by decide +kernel
theorem d_R_addDecimal_50 : decode c_R_addDecimal 50 = .ok (.iload_n 3, 1) := by decide +kernel
theorem d_R_addDecimal_51 : decode c_R_addDecimal 51 = .ok (.bipush 8, 2) := by decide +kernel
theorem d_R_addDecimal_53 : decode c_R_addDecimal 53 = .ok (.iand, 1) := by decide +kernel
theorem d_R_addDecimal_54 : decode c_R_addDecimal 54 = .ok (.ifCond .eq 7, 3) := by decide +kernel
theorem d_R_addDecimal_57 : decode c_R_addDecimal 57 = .ok (.iconst 1, 1) := by decide +kernel
theorem d_R_addDecimal_58 : decode c_R_addDecimal 58 = .ok (.goto 4, 3) := by decide +kernel
theorem d_R_addDecimal_61 : decode c_R_addDecimal 61 = .ok (.iconst 0, 1) := by decide +kernel
theorem d_R_addDecimal_62 : decode c_R_addDecimal 62 = .ok (.istore 4, 2) := by decide +kernel
theorem d_R_addDecimal_64 : decode c_R_addDecimal 64 = .ok (.aload_n 0, 1) := by decide +kernel
theorem d_R_addDecimal_65 : decode c_R_addDecimal 65 = .ok (.iconst 2, 1) := by decide +kernel
theorem d_R_addDecimal_66 : decode c_R_addDecimal 66 = .ok (.aload_n 0, 1) := by decide +kernel
theorem d_R_addDecimal_67 : decode c_R_addDecimal 67 = .ok (.getfield 22, 3) := by decide +kernel
theorem d_R_addDecimal_70 : decode c_R_addDecimal 70 = .ok (.iload_n 1, 1) := by decide +kernel
theorem d_R_addDecimal_71 : decode c_R_addDecimal 71 = .ok (.iadd, 1) := by decide +kernel
theorem d_R_addDecimal_72 : decode c_R_addDecimal 72 = .ok (.aload_n 0, 1) := by decide +kernel
theorem d_R_addDecimal_73 : decode c_R_addDecimal 73 = .ok (.invokevirtual 68, 3) := by decide +kernel
theorem d_R_addDecimal_76 : decode c_R_addDecimal 76 = .ok (.iadd, 1) := by decide +kernel
theorem d_R_addDecimal_77 : decode c_R_addDecimal 77 = .ok (.sipush 255, 3) := by decide +kernel
theorem d_R_addDecimal_80 : decode c_R_addDecimal 80 = .ok (.iand, 1) := by decide +kernel
theorem d_R_addDecimal_81 : decode c_R_addDecimal 81 = .ok (.ifCond .ne 7, 3) := by decide +kernel
theorem d_R_addDecimal_84 : decode c_R_addDecimal 84 = .ok (.iconst 1, 1) := by decide +kernel
theorem d_R_addDecimal_85 : decode c_R_addDecimal 85 = .ok (.goto 4, 3) := by decide +kernel
theorem d_R_addDecimal_88 : decode c_R_addDecimal 88 = .ok (.iconst 0, 1) := by decide +kernel
theorem d_R_addDecimal_89 : decode c_R_addDecimal 89 = .ok (.invokevirtual 57, 3) := by decide +kernel
theorem d_R_addDecimal_92 : decode c_R_addDecimal 92 = .ok (.aload_n 0, 1) := by decide +kernel
theorem d_R_addDecimal_93 : decode c_R_addDecimal 93 = .ok (.sipush 128, 3) := by decide +kernel
theorem d_R_addDecimal_96 : decode c_R_addDecimal 96 = .ok (.iload 4, 2) := by decide +kernel
theorem d_R_addDecimal_98 : decode c_R_addDecimal 98 = .ok (.invokevirtual 57, 3) := by decide +kernel
theorem d_R_addDecimal_101 : decode c_R_addDecimal 101 = .ok (.aload_n 0, 1) := by decide +kernel
theorem d_R_addDecimal_102 : decode c_R_addDecimal 102 = .ok (.bipush 64, 2) := by decide +kernel
theorem d_R_addDecimal_104 : decode c_R_addDecimal 104 = .ok (.aload_n 0, 1) := by decide +kernel
theorem d_R_addDecimal_105 : decode c_R_addDecimal 105 = .ok (.iload_n 1, 1) := by decide +kernel
theorem d_R_addDecimal_106 : decode c_R_addDecimal 106 = .ok (.iload 4, 2) := by decide +kernel
theorem d_R_addDecimal_108 : decode c_R_addDecimal 108 = .ok (.invokevirtual 76, 3) := by decide +kernel
theorem d_R_addDecimal_111 : decode c_R_addDecimal 111 = .ok (.invokevirtual 57, 3) := by decide +kernel
theorem d_R_addDecimal_114 : decode c_R_addDecimal 114 = .ok (.iload_n 3, 1) := by decide +kernel
theorem d_R_addDecimal_115 : decode c_R_addDecimal 115 = .ok (.bipush 9, 2) := by decide +kernel
theorem d_R_addDecimal_117 : decode c_R_addDecimal 117 = .ok (.if_icmp .le 6, 3) := by decide +kernel
theorem d_R_addDecimal_120 : decode c_R_addDecimal 120 = .ok (.iinc 3 6, 3) := by decide +kernel
theorem d_R_addDecimal_123 : decode c_R_addDecimal 123 = .ok (.aload_n 0, 1) := by decide +kernel
theorem d_R_addDecimal_124 : decode c_R_addDecimal 124 = .ok (.iconst 1, 1) := by decide +kernel
theorem d_R_addDecimal_125 : decode c_R_addDecimal 125 = .ok (.iload_n 3, 1) := by decide +kernel
theorem d_R_addDecimal_126 : decode c_R_addDecimal 126 = .ok (.bipush 15, 2) := by decide +kernel
theorem d_R_addDecimal_128 : decode c_R_addDecimal 128 = .ok (.if_icmp .le 7, 3) := by decide +kernel
theorem d_R_addDecimal_131 : decode c_R_addDecimal 131 = .ok (.iconst 1, 1) := by decide +kernel
theorem d_R_addDecimal_132 : decode c_R_addDecimal 132 = .ok (.goto 4, 3) := by decide +kernel
theorem d_R_addDecimal_135 : decode c_R_addDecimal 135 = .ok (.iconst 0, 1) := by decide +kernel
theorem d_R_addDecimal_136 : decode c_R_addDecimal 136 = .ok (.invokevirtual 57, 3) := by decide +kernel
theorem d_R_addDecimal_139 : decode c_R_addDecimal 139 = .ok (.aload_n 0, 1) := by decide +kernel
theorem d_R_addDecimal_140 : decode c_R_addDecimal 140 = .ok (.bipush 16, 2) := by decide +kernel
theorem d_R_addDecimal_142 : decode c_R_addDecimal 142 = .ok (.iload_n 3, 1) := by decide +kernel
theorem d_R_addDecimal_143 : decode c_R_addDecimal 143 = .ok (.bipush 15, 2) := by decide +kernel
theorem d_R_addDecimal_145 : decode c_R_addDecimal 145 = .ok (.iand, 1) := by decide +kernel
theorem d_R_addDecimal_146 : decode c_R_addDecimal 146 = .ok (.imul, 1) := by decide +kernel
theorem d_R_addDecimal_147 : decode c_R_addDecimal 147 = .ok (.iload_n 2, 1) := by decide +kernel
theorem d_R_addDecimal_148 : decode c_R_addDecimal 148 = .ok (.bipush 15, 2) := by decide +kernel
theorem d_R_addDecimal_150 : decode c_R_addDecimal 150 = .ok (.iand, 1) := by decide +kernel
theorem d_R_addDecimal_151 : decode c_R_addDecimal 151 = .ok (.iadd, 1) := by decide +kernel
theorem d_R_addDecimal_152 : decode c_R_addDecimal 152 = .ok (.putfield 22, 3) := by decide +kernel
theorem d_R_addDecimal_155 : decode c_R_addDecimal 155 = .ok (.return_, 1) := by decide +kernel
theorem d_R_carry_0 : decode c_R_carry 0 = .ok (.aload_n 0, 1) := by decide +kernel
theorem d_R_carry_1 : decode c_R_carry 1 = .ok (.getfield 9, 3) := by decide +kernel
theorem d_R_carry_4 : decode c_R_carry 4 = .ok (.iconst 1, 1) := by decide +kernel
theorem d_R_carry_5 : decode c_R_carry 5 = .ok (.iand, 1) := by decide +kernel
theorem d_R_carry_6 : decode c_R_carry 6 = .ok (.ireturn, 1) := by decide +kernel
theorem d_R_differsInSign_0 : decode c_R_differsInSign 0 = .ok (.aload_n 0, 1) := by decide +kernel
theorem d_R_differsInSign_1 : decode c_R_differsInSign 1 = .ok (.getfield 22, 3) := by decide +kernel
theorem d_R_differsInSign_4 : decode c_R_differsInSign 4 = .ok (.sipush 128, 3) := by decide +kernel
theorem d_R_differsInSign_7 : decode c_R_differsInSign 7 = .ok (.if_icmp .lt 7, 3) := by decide +kernel
theorem d_R_differsInSign_10 : decode c_R_differsInSign 10 = .ok (.iconst 1, 1) := by decide +kernel
theorem d_R_differsInSign_11 : decode c_R_differsInSign 11 = .ok (.goto 4, 3) := by decide +kernel
theorem d_R_differsInSign_14 : decode c_R_differsInSign 14 = .ok (.iconst 0, 1) := by decide +kernel
theorem d_R_differsInSign_15 : decode c_R_differsInSign 15 = .ok (.istore_n 3, 1) := by decide +kernel
theorem d_R_differsInSign_16 : decode c_R_differsInSign 16 = .ok (.iload_n 3, 1) := by decide +kernel
theorem d_R_differsInSign_17 : decode c_R_differsInSign 17 = .ok (.iload_n 1, 1) := by decide +kernel
theorem d_R_differsInSign_18 : decode c_R_differsInSign 18 = .ok (.sipush 128, 3) := by decide +kernel
theorem d_R_differsInSign_21 : decode c_R_differsInSign 21 = .ok (.if_icmp .lt 7, 3) := by decide +kernel
theorem d_R_differsInSign_24 : decode c_R_differsInSign 24 = .ok (.iconst 1, 1) := by decide +kernel
theorem d_R_differsInSign_25 : decode c_R_differsInSign 25 = .ok (.goto 4, 3) := by decide +kernel
theorem d_R_differsInSign_28 : decode c_R_differsInSign 28 = .ok (.iconst 0, 1) := by decide +kernel
theorem d_R_differsInSign_29 : decode c_R_differsInSign 29 = .ok (.if_icmp .ne 12, 3) := by decide +kernel
theorem d_R_differsInSign_32 : decode c_R_differsInSign 32 = .ok (.iload_n 3, 1) := by decide +kernel
theorem d_R_differsInSign_33 : decode c_R_differsInSign 33 = .ok (.iload_n 2, 1) := by decide +kernel
theorem d_R_differsInSign_34 : decode c_R_differsInSign 34 = .ok (.if_icmp .eq 7, 3) := by decide +kernel
theorem d_R_differsInSign_37 : decode c_R_differsInSign 37 = .ok (.iconst 1, 1) := by decide +kernel
theorem d_R_differsInSign_38 : decode c_R_differsInSign 38 = .ok (.goto 4, 3) := by decide +kernel
theorem d_R_differsInSign_41 : decode c_R_differsInSign 41 = .ok (.iconst 0, 1) := by decide +kernel
theorem d_R_differsInSign_42 : decode c_R_differsInSign 42 = .ok (.ireturn, 1) := by decide +kernel
theorem d_R_flagsOfSum_0 : decode c_R_flagsOfSum 0 = .ok (.aload_n 0, 1) := by decide +kernel
theorem d_R_flagsOfSum_1 : decode c_R_flagsOfSum 1 = .ok (.iconst 1, 1) := by decide +kernel
theorem d_R_flagsOfSum_2 : decode c_R_flagsOfSum 2 = .ok (.iload_n 2, 1) := by decide +kernel
theorem d_R_flagsOfSum_3 : decode c_R_flagsOfSum 3 = .ok (.sipush 255, 3) := by decide +kernel
theorem d_R_flagsOfSum_6 : decode c_R_flagsOfSum 6 = .ok (.if_icmp .le 7, 3) := by decide +kernel
theorem d_R_flagsOfSum_9 : decode c_R_flagsOfSum 9 = .ok (.iconst 1, 1) := by decide +kernel
theorem d_R_flagsOfSum_10 : decode c_R_flagsOfSum 10 = .ok (.goto 4, 3) := by decide +kernel
theorem d_R_flagsOfSum_13 : decode c_R_flagsOfSum 13 = .ok (.iconst 0, 1) := by decide +kernel
theorem d_R_flagsOfSum_14 : decode c_R_flagsOfSum 14 = .ok (.invokevirtual 57, 3) := by decide +kernel
theorem d_R_flagsOfSum_17 : decode c_R_flagsOfSum 17 = .ok (.aload_n 0, 1) := by decide +kernel
theorem d_R_flagsOfSum_18 : decode c_R_flagsOfSum 18 = .ok (.bipush 64, 2) := by decide +kernel
theorem d_R_flagsOfSum_20 : decode c_R_flagsOfSum 20 = .ok (.aload_n 0, 1) := by decide +kernel
theorem d_R_flagsOfSum_21 : decode c_R_flagsOfSum 21 = .ok (.iload_n 1, 1) := by decide +kernel
theorem d_R_flagsOfSum_22 : decode c_R_flagsOfSum 22 = .ok (.iload_n 2, 1) := by decide +kernel
theorem d_R_flagsOfSum_23 : decode c_R_flagsOfSum 23 = .ok (.sipush 128, 3) := by decide +kernel
theorem d_R_flagsOfSum_26 : decode c_R_flagsOfSum 26 = .ok (.iand, 1) := by decide +kernel
theorem d_R_flagsOfSum_27 : decode c_R_flagsOfSum 27 = .ok (.ifCond .eq 7, 3) := by decide +kernel
theorem d_R_flagsOfSum_30 : decode c_R_flagsOfSum 30 = .ok (.iconst 1, 1) := by decide +kernel
theorem d_R_flagsOfSum_31 : decode c_R_flagsOfSum 31 = .ok (.goto 4, 3) := by decide +kernel
theorem d_R_flagsOfSum_34 : decode c_R_flagsOfSum 34 = .ok (.iconst 0, 1) := by decide +kernel
theorem d_R_flagsOfSum_35 : decode c_R_flagsOfSum 35 = .ok (.invokevirtual 76, 3) := by decide +kernel
theorem d_R_flagsOfSum_38 : decode c_R_flagsOfSum 38 = .ok (.invokevirtual 57, 3) := by decide +kernel
theorem d_R_flagsOfSum_41 : decode c_R_flagsOfSum 41 = .ok (.aload_n 0, 1) := by decide +kernel
theorem d_R_flagsOfSum_42 : decode c_R_flagsOfSum 42 = .ok (.iload_n 2, 1) := by decide +kernel
theorem d_R_flagsOfSum_43 : decode c_R_flagsOfSum 43 = .ok (.sipush 255, 3) := by decide +kernel
theorem d_R_flagsOfSum_46 : decode c_R_flagsOfSum 46 = .ok (.iand, 1) := by decide +kernel
theorem d_R_flagsOfSum_47 : decode c_R_flagsOfSum 47 = .ok (.invokevirtual 25, 3) := by decide +kernel
theorem d_R_flagsOfSum_50 : decode c_R_flagsOfSum 50 = .ok (.return_, 1) := by decide +kernel
theorem d_R_subtract_0 : decode c_R_subtract 0 = .ok (.aload_n 0, 1) := by decide +kernel
theorem d_R_subtract_1 : decode c_R_subtract 1 = .ok (.getfield 22, 3) := by decide +kernel
theorem d_R_subtract_4 : decode c_R_subtract 4 = .ok (.sipush 255, 3) := by decide +kernel
theorem d_R_subtract_7 : decode c_R_subtract 7 = .ok (.iload_n 1, 1) := by decide +kernel
theorem d_R_subtract_8 : decode c_R_subtract 8 = .ok (.isub, 1) := by decide +kernel
theorem d_R_subtract_9 : decode c_R_subtract 9 = .ok (.iadd, 1) := by decide +kernel
theorem d_R_subtract_10 : decode c_R_subtract 10 = .ok (.aload_n 0, 1) := by decide +kernel
theorem d_R_subtract_11 : decode c_R_subtract 11 = .ok (.invokevirtual 68, 3) := by decide +kernel
theorem d_R_subtract_14 : decode c_R_subtract 14 = .ok (.iadd, 1) := by decide +kernel
theorem d_R_subtract_15 : decode c_R_subtract 15 = .ok (.istore_n 2, 1) := by decide +kernel
theorem d_R_subtract_16 : decode c_R_subtract 16 = .ok (.aload_n 0, 1) := by decide +kernel
theorem d_R_subtract_17 : decode c_R_subtract 17 = .ok (.bipush 8, 2) := by decide +kernel
theorem d_R_subtract_19 : decode c_R_subtract 19 = .ok (.invokevirtual 35, 3) := by decide +kernel
theorem d_R_subtract_22 : decode c_R_subtract 22 = .ok (.ifCond .eq 11, 3) := by decide +kernel
theorem d_R_subtract_25 : decode c_R_subtract 25 = .ok (.aload_n 0, 1) := by decide +kernel
theorem d_R_subtract_26 : decode c_R_subtract 26 = .ok (.iload_n 1, 1) := by decide +kernel
theorem d_R_subtract_27 : decode c_R_subtract 27 = .ok (.invokevirtual 80, 3) := by decide +kernel
theorem d_R_subtract_30 : decode c_R_subtract 30 = .ok (.goto 8, 3) := by decide +kernel
theorem d_R_subtract_33 : decode c_R_subtract 33 = .ok (.iload_n 2, 1) := by decide +kernel
theorem d_R_subtract_34 : decode c_R_subtract 34 = .ok (.sipush 255, 3) := by decide +kernel
theorem d_R_subtract_37 : decode c_R_subtract 37 = .ok (.iand, 1) := by decide +kernel
theorem d_R_subtract_38 : decode c_R_subtract 38 = .ok (.istore_n 3, 1) := by decide +kernel
theorem d_R_subtract_39 : decode c_R_subtract 39 = .ok (.aload_n 0, 1) := by decide +kernel
theorem d_R_subtract_40 : decode c_R_subtract 40 = .ok (.sipush 255, 3) := by decide +kernel
theorem d_R_subtract_43 : decode c_R_subtract 43 = .ok (.iload_n 1, 1) := by decide +kernel
theorem d_R_subtract_44 : decode c_R_subtract 44 = .ok (.isub, 1) := by decide +kernel
theorem d_R_subtract_45 : decode c_R_subtract 45 = .ok (.iload_n 2, 1) := by decide +kernel
theorem d_R_subtract_46 : decode c_R_subtract 46 = .ok (.invokevirtual 72, 3) := by decide +kernel
theorem d_R_subtract_49 : decode c_R_subtract 49 = .ok (.aload_n 0, 1) := by decide +kernel
theorem d_R_subtract_50 : decode c_R_subtract 50 = .ok (.iload_n 3, 1) := by decide +kernel
theorem d_R_subtract_51 : decode c_R_subtract 51 = .ok (.putfield 22, 3) := by decide +kernel
theorem d_R_subtract_54 : decode c_R_subtract 54 = .ok (.return_, 1) := by decide +kernel
theorem d_R_decimalDifference_0 : decode c_R_decimalDifference 0 = .ok (.aload_n 0, 1) := by decide +kernel
theorem d_R_decimalDifference_1 : decode c_R_decimalDifference 1 = .ok (.getfield 22, 3) := by decide +kernel
theorem d_R_decimalDifference_4 : decode c_R_decimalDifference 4 = .ok (.bipush 15, 2) := by decide +kernel
theorem d_R_decimalDifference_6 : decode c_R_decimalDifference 6 = .ok (.iand, 1) := by decide +kernel
theorem d_R_decimalDifference_7 : decode c_R_decimalDifference 7 = .ok (.iload_n 1, 1) := by decide +kernel
theorem d_R_decimalDifference_8 : decode c_R_decimalDifference 8 = .ok (.bipush 15, 2) := by decide +kernel
theorem d_R_decimalDifference_10 : decode c_R_decimalDifference 10 = .ok (.iand, 1) := by decide +kernel
theorem d_R_decimalDifference_11 : decode c_R_decimalDifference 11 = .ok (.isub, 1) := by decide +kernel
theorem d_R_decimalDifference_12 : decode c_R_decimalDifference 12 = .ok (.iconst 1, 1) := by decide +kernel
theorem d_R_decimalDifference_13 : decode c_R_decimalDifference 13 = .ok (.aload_n 0, 1) := by decide +kernel
theorem d_R_decimalDifference_14 : decode c_R_decimalDifference 14 = .ok (.invokevirtual 68, 3) := by decide +kernel
theorem d_R_decimalDifference_17 : decode c_R_decimalDifference 17 = .ok (.isub, 1) := by decide +kernel
theorem d_R_decimalDifference_18 : decode c_R_decimalDifference 18 = .ok (.isub, 1) := by decide +kernel
theorem d_R_decimalDifference_19 : decode c_R_decimalDifference 19 = .ok (.istore_n 2, 1) := by decide +kernel
theorem d_R_decimalDifference_20 : decode c_R_decimalDifference 20 = .ok (.iload_n 2, 1) := by decide +kernel
theorem d_R_decimalDifference_21 : decode c_R_decimalDifference 21 = .ok (.ifCond .ge 6, 3) := by decide +kernel
theorem d_R_decimalDifference_24 : decode c_R_decimalDifference 24 = .ok (.iinc 2 (-6), 3) := by decide +kernel
theorem d_R_decimalDifference_27 : decode c_R_decimalDifference 27 = .ok (.aload_n 0, 1) := by decide +kernel
theorem d_R_decimalDifference_28 : decode c_R_decimalDifference 28 = .ok (.getfield 22, 3) := by decide +kernel
theorem d_R_decimalDifference_31 : decode c_R_decimalDifference 31 = .ok (.iconst 4, 1) := by decide +kernel
theorem d_R_decimalDifference_32 : decode c_R_decimalDifference 32 = .ok (.ishr, 1) := by decide +kernel
theorem d_R_decimalDifference_33 : decode c_R_decimalDifference 33 = .ok (.iload_n 1, 1) := by decide +kernel
theorem d_R_decimalDifference_34 : decode c_R_decimalDifference 34 = .ok (.iconst 4, 1) := by decide +kernel
theorem d_R_decimalDifference_35 : decode c_R_decimalDifference 35 = .ok (.ishr, 1) := by decide +kernel
theorem d_R_decimalDifference_36 : decode c_R_decimalDifference 36 = .ok (.isub, 1) := by decide +kernel
theorem d_R_decimalDifference_37 : decode c_R_decimalDifference 37 = .ok (.iload_n 2, 1) := by decide +kernel
theorem d_R_decimalDifference_38 : decode c_R_decimalDifference 38 = .ok (.ifCond .ge 7, 3) := by decide +kernel
theorem d_R_decimalDifference_41 : decode c_R_decimalDifference 41 = .ok (.iconst 1, 1) := by decide +kernel
theorem d_R_decimalDifference_42 : decode c_R_decimalDifference 42 = .ok (.goto 4, 3) := by decide +kernel
theorem d_R_decimalDifference_45 : decode c_R_decimalDifference 45 = .ok (.iconst 0, 1) := by decide +kernel
theorem d_R_decimalDifference_46 : decode c_R_decimalDifference 46 = .ok (.isub, 1) := by decide +kernel
theorem d_R_decimalDifference_47 : decode c_R_decimalDifference 47 = .ok (.istore_n 3, 1) := by decide +kernel
theorem d_R_decimalDifference_48 : decode c_R_decimalDifference 48 = .ok (.iload_n 3, 1) := by decide +kernel
theorem d_R_decimalDifference_49 : decode c_R_decimalDifference 49 = .ok (.ifCond .ge 6, 3) := by decide +kernel
theorem d_R_decimalDifference_52 : decode c_R_decimalDifference 52 = .ok (.iinc 3 (-6), 3) := by decide +kernel
theorem d_R_decimalDifference_55 : decode c_R_decimalDifference 55 = .ok (.bipush 16, 2) := by decide +kernel
theorem d_R_decimalDifference_57 : decode c_R_decimalDifference 57 = .ok (.iload_n 3, 1) := by decide +kernel
theorem d_R_decimalDifference_58 : decode c_R_decimalDifference 58 = .ok (.bipush 15, 2) := by decide +kernel
theorem d_R_decimalDifference_60 : decode c_R_decimalDifference 60 = .ok (.iand, 1) := by decide +kernel
theorem d_R_decimalDifference_61 : decode c_R_decimalDifference 61 = .ok (.imul, 1) := by decide +kernel
theorem d_R_decimalDifference_62 : decode c_R_decimalDifference 62 = .ok (.iload_n 2, 1) := by decide +kernel
theorem d_R_decimalDifference_63 : decode c_R_decimalDifference 63 = .ok (.bipush 15, 2) := by decide +kernel
theorem d_R_decimalDifference_65 : decode c_R_decimalDifference 65 = .ok (.iand, 1) := by decide +kernel
theorem d_R_decimalDifference_66 : decode c_R_decimalDifference 66 = .ok (.iadd, 1) := by decide +kernel
theorem d_R_decimalDifference_67 : decode c_R_decimalDifference 67 = .ok (.ireturn, 1) := by decide +kernel
theorem d_R_compare_0 : decode c_R_compare 0 = .ok (.aload_n 0, 1) := by decide +kernel
theorem d_R_compare_1 : decode c_R_compare 1 = .ok (.iconst 1, 1) := by decide +kernel
theorem d_R_compare_2 : decode c_R_compare 2 = .ok (.aload_n 0, 1) := by decide +kernel
theorem d_R_compare_3 : decode c_R_compare 3 = .ok (.getfield 22, 3) := by decide +kernel
theorem d_R_compare_6 : decode c_R_compare 6 = .ok (.iload_n 1, 1) := by decide +kernel
theorem d_R_compare_7 : decode c_R_compare 7 = .ok (.if_icmp .lt 7, 3) := by decide +kernel
theorem d_R_compare_10 : decode c_R_compare 10 = .ok (.iconst 1, 1) := by decide +kernel
theorem d_R_compare_11 : decode c_R_compare 11 = .ok (.goto 4, 3) := by decide +kernel
theorem d_R_compare_14 : decode c_R_compare 14 = .ok (.iconst 0, 1) := by decide +kernel
theorem d_R_compare_15 : decode c_R_compare 15 = .ok (.invokevirtual 57, 3) := by decide +kernel
theorem d_R_compare_18 : decode c_R_compare 18 = .ok (.aload_n 0, 1) := by decide +kernel
theorem d_R_compare_19 : decode c_R_compare 19 = .ok (.aload_n 0, 1) := by decide +kernel
theorem d_R_compare_20 : decode c_R_compare 20 = .ok (.getfield 22, 3) := by decide +kernel
theorem d_R_compare_23 : decode c_R_compare 23 = .ok (.iload_n 1, 1) := by decide +kernel
theorem d_R_compare_24 : decode c_R_compare 24 = .ok (.isub, 1) := by decide +kernel
theorem d_R_compare_25 : decode c_R_compare 25 = .ok (.sipush 255, 3) := by decide +kernel
theorem d_R_compare_28 : decode c_R_compare 28 = .ok (.iand, 1) := by decide +kernel
theorem d_R_compare_29 : decode c_R_compare 29 = .ok (.invokevirtual 25, 3) := by decide +kernel
theorem d_R_compare_32 : decode c_R_compare 32 = .ok (.return_, 1) := by decide +kernel
theorem d_R_loadX_0 : decode c_R_loadX 0 = .ok (.aload_n 0, 1) := by decide +kernel
theorem d_R_loadX_1 : decode c_R_loadX 1 = .ok (.iload_n 1, 1) := by decide +kernel
theorem d_R_loadX_2 : decode c_R_loadX 2 = .ok (.sipush 255, 3) := by decide +kernel
theorem d_R_loadX_5 : decode c_R_loadX 5 = .ok (.iand, 1) := by decide +kernel
theorem d_R_loadX_6 : decode c_R_loadX 6 = .ok (.putfield 29, 3) := by decide +kernel
theorem d_R_loadX_9 : decode c_R_loadX 9 = .ok (.aload_n 0, 1) := by decide +kernel
theorem d_R_loadX_10 : decode c_R_loadX 10 = .ok (.aload_n 0, 1) := by decide +kernel
theorem d_R_loadX_11 : decode c_R_loadX 11 = .ok (.getfield 29, 3) := by decide +kernel
theorem d_R_loadX_14 : decode c_R_loadX 14 = .ok (.invokevirtual 25, 3) := by decide +kernel
theorem d_R_loadX_17 : decode c_R_loadX 17 = .ok (.return_, 1) := by decide +kernel
theorem d_R_loadY_0 : decode c_R_loadY 0 = .ok (.aload_n 0, 1) := by decide +kernel
theorem d_R_loadY_1 : decode c_R_loadY 1 = .ok (.iload_n 1, 1) := by decide +kernel
theorem d_R_loadY_2 : decode c_R_loadY 2 = .ok (.sipush 255, 3) := by decide +kernel
theorem d_R_loadY_5 : decode c_R_loadY 5 = .ok (.iand, 1) := by decide +kernel
theorem d_R_loadY_6 : decode c_R_loadY 6 = .ok (.putfield 32, 3) := by decide +kernel
theorem d_R_loadY_9 : decode c_R_loadY 9 = .ok (.aload_n 0, 1) := by decide +kernel
theorem d_R_loadY_10 : decode c_R_loadY 10 = .ok (.aload_n 0, 1) := by decide +kernel
theorem d_R_loadY_11 : decode c_R_loadY 11 = .ok (.getfield 32, 3) := by decide +kernel
theorem d_R_loadY_14 : decode c_R_loadY 14 = .ok (.invokevirtual 25, 3) := by decide +kernel
theorem d_R_loadY_17 : decode c_R_loadY 17 = .ok (.return_, 1) := by decide +kernel
theorem d_R_takesBranch_0 : decode c_R_takesBranch 0 = .ok (.iload_n 1, 1) := by decide +kernel
theorem d_R_takesBranch_1 : decode c_R_takesBranch 1 = .ok (.iconst 1, 1) := by decide +kernel
theorem d_R_takesBranch_2 : decode c_R_takesBranch 2 = .ok (.iand, 1) := by decide +kernel
theorem d_R_takesBranch_3 : decode c_R_takesBranch 3 = .ok (.iconst 1, 1) := by decide +kernel
theorem d_R_takesBranch_4 : decode c_R_takesBranch 4 = .ok (.if_icmp .ne 7, 3) := by decide +kernel
theorem d_R_takesBranch_7 : decode c_R_takesBranch 7 = .ok (.iconst 1, 1) := by decide +kernel
theorem d_R_takesBranch_8 : decode c_R_takesBranch 8 = .ok (.goto 4, 3) := by decide +kernel
theorem d_R_takesBranch_11 : decode c_R_takesBranch 11 = .ok (.iconst 0, 1) := by decide +kernel
theorem d_R_takesBranch_12 : decode c_R_takesBranch 12 = .ok (.istore_n 2, 1) := by decide +kernel
theorem d_R_takesBranch_13 : decode c_R_takesBranch 13 = .ok (.iload_n 1, 1) := by decide +kernel
theorem d_R_takesBranch_14 : decode c_R_takesBranch 14 = .ok (.bipush 16, 2) := by decide +kernel
theorem d_R_takesBranch_16 : decode c_R_takesBranch 16 = .ok (.isub, 1) := by decide +kernel
theorem d_R_takesBranch_17 : decode c_R_takesBranch 17 = .ok (.iconst 1, 1) := by decide +kernel
theorem d_R_takesBranch_18 : decode c_R_takesBranch 18 = .ok (.ishr, 1) := by decide +kernel
theorem d_R_takesBranch_19 : decode c_R_takesBranch 19 = .ok (.tableswitch 79 0 2 #[25, 44, 62], 25) := by decide +kernel
theorem d_R_takesBranch_44 : decode c_R_takesBranch 44 = .ok (.aload_n 0, 1) := by decide +kernel
theorem d_R_takesBranch_45 : decode c_R_takesBranch 45 = .ok (.sipush 128, 3) := by decide +kernel
theorem d_R_takesBranch_48 : decode c_R_takesBranch 48 = .ok (.invokevirtual 35, 3) := by decide +kernel
theorem d_R_takesBranch_51 : decode c_R_takesBranch 51 = .ok (.iload_n 2, 1) := by decide +kernel
theorem d_R_takesBranch_52 : decode c_R_takesBranch 52 = .ok (.if_icmp .ne 7, 3) := by decide +kernel
theorem d_R_takesBranch_55 : decode c_R_takesBranch 55 = .ok (.iconst 1, 1) := by decide +kernel
theorem d_R_takesBranch_56 : decode c_R_takesBranch 56 = .ok (.goto 56, 3) := by decide +kernel
theorem d_R_takesBranch_59 : decode c_R_takesBranch 59 = .ok (.iconst 0, 1) := by decide +kernel
theorem d_R_takesBranch_60 : decode c_R_takesBranch 60 = .ok (.goto 52, 3) := by decide +kernel
theorem d_R_takesBranch_63 : decode c_R_takesBranch 63 = .ok (.aload_n 0, 1) := by decide +kernel
theorem d_R_takesBranch_64 : decode c_R_takesBranch 64 = .ok (.bipush 64, 2) := by decide +kernel
theorem d_R_takesBranch_66 : decode c_R_takesBranch 66 = .ok (.invokevirtual 35, 3) := by decide +kernel
theorem d_R_takesBranch_69 : decode c_R_takesBranch 69 = .ok (.iload_n 2, 1) := by decide +kernel
theorem d_R_takesBranch_70 : decode c_R_takesBranch 70 = .ok (.if_icmp .ne 7, 3) := by decide +kernel
theorem d_R_takesBranch_73 : decode c_R_takesBranch 73 = .ok (.iconst 1, 1) := by decide +kernel
theorem d_R_takesBranch_74 : decode c_R_takesBranch 74 = .ok (.goto 38, 3) := by decide +kernel
theorem d_R_takesBranch_77 : decode c_R_takesBranch 77 = .ok (.iconst 0, 1) := by decide +kernel
theorem d_R_takesBranch_78 : decode c_R_takesBranch 78 = .ok (.goto 34, 3) := by decide +kernel
theorem d_R_takesBranch_81 : decode c_R_takesBranch 81 = .ok (.aload_n 0, 1) := by decide +kernel
theorem d_R_takesBranch_82 : decode c_R_takesBranch 82 = .ok (.iconst 1, 1) := by decide +kernel
theorem d_R_takesBranch_83 : decode c_R_takesBranch 83 = .ok (.invokevirtual 35, 3) := by decide +kernel
theorem d_R_takesBranch_86 : decode c_R_takesBranch 86 = .ok (.iload_n 2, 1) := by decide +kernel
theorem d_R_takesBranch_87 : decode c_R_takesBranch 87 = .ok (.if_icmp .ne 7, 3) := by decide +kernel
theorem d_R_takesBranch_90 : decode c_R_takesBranch 90 = .ok (.iconst 1, 1) := by decide +kernel
theorem d_R_takesBranch_91 : decode c_R_takesBranch 91 = .ok (.goto 21, 3) := by decide +kernel
theorem d_R_takesBranch_94 : decode c_R_takesBranch 94 = .ok (.iconst 0, 1) := by decide +kernel
theorem d_R_takesBranch_95 : decode c_R_takesBranch 95 = .ok (.goto 17, 3) := by decide +kernel
theorem d_R_takesBranch_98 : decode c_R_takesBranch 98 = .ok (.aload_n 0, 1) := by decide +kernel
theorem d_R_takesBranch_99 : decode c_R_takesBranch 99 = .ok (.iconst 2, 1) := by decide +kernel
theorem d_R_takesBranch_100 : decode c_R_takesBranch 100 = .ok (.invokevirtual 35, 3) := by decide +kernel
theorem d_R_takesBranch_103 : decode c_R_takesBranch 103 = .ok (.iload_n 2, 1) := by decide +kernel
theorem d_R_takesBranch_104 : decode c_R_takesBranch 104 = .ok (.if_icmp .ne 7, 3) := by decide +kernel
theorem d_R_takesBranch_107 : decode c_R_takesBranch 107 = .ok (.iconst 1, 1) := by decide +kernel
theorem d_R_takesBranch_108 : decode c_R_takesBranch 108 = .ok (.goto 4, 3) := by decide +kernel
theorem d_R_takesBranch_111 : decode c_R_takesBranch 111 = .ok (.iconst 0, 1) := by decide +kernel
theorem d_R_takesBranch_112 : decode c_R_takesBranch 112 = .ok (.ireturn, 1) := by decide +kernel
theorem d_R_operateAlone_0 : decode c_R_operateAlone 0 = .ok (.iload_n 1, 1) := by decide +kernel
theorem d_R_operateAlone_1 : decode c_R_operateAlone 1 = .ok (.tableswitch 238 1 15 #[75, 88, 101, 114, 127, 138, 149, 160, 171, 180, 189, 198, 207, 217, 227], 75) := by decide +kernel
theorem d_R_operateAlone_76 : decode c_R_operateAlone 76 = .ok (.aload_n 0, 1) := by decide +kernel
theorem d_R_operateAlone_77 : decode c_R_operateAlone 77 = .ok (.aload_n 0, 1) := by decide +kernel
theorem d_R_operateAlone_78 : decode c_R_operateAlone 78 = .ok (.getfield 29, 3) := by decide +kernel
theorem d_R_operateAlone_81 : decode c_R_operateAlone 81 = .ok (.iconst 1, 1) := by decide +kernel
theorem d_R_operateAlone_82 : decode c_R_operateAlone 82 = .ok (.iadd, 1) := by decide +kernel
theorem d_R_operateAlone_83 : decode c_R_operateAlone 83 = .ok (.invokevirtual 51, 3) := by decide +kernel
theorem d_R_operateAlone_86 : decode c_R_operateAlone 86 = .ok (.goto 153, 3) := by decide +kernel
theorem d_R_operateAlone_89 : decode c_R_operateAlone 89 = .ok (.aload_n 0, 1) := by decide +kernel
theorem d_R_operateAlone_90 : decode c_R_operateAlone 90 = .ok (.aload_n 0, 1) := by decide +kernel
theorem d_R_operateAlone_91 : decode c_R_operateAlone 91 = .ok (.getfield 29, 3) := by decide +kernel
theorem d_R_operateAlone_94 : decode c_R_operateAlone 94 = .ok (.iconst 1, 1) := by decide +kernel
theorem d_R_operateAlone_95 : decode c_R_operateAlone 95 = .ok (.isub, 1) := by decide +kernel
theorem d_R_operateAlone_96 : decode c_R_operateAlone 96 = .ok (.invokevirtual 51, 3) := by decide +kernel
theorem d_R_operateAlone_99 : decode c_R_operateAlone 99 = .ok (.goto 140, 3) := by decide +kernel
theorem d_R_operateAlone_102 : decode c_R_operateAlone 102 = .ok (.aload_n 0, 1) := by decide +kernel
theorem d_R_operateAlone_103 : decode c_R_operateAlone 103 = .ok (.aload_n 0, 1) := by decide +kernel
theorem d_R_operateAlone_104 : decode c_R_operateAlone 104 = .ok (.getfield 32, 3) := by decide +kernel
theorem d_R_operateAlone_107 : decode c_R_operateAlone 107 = .ok (.iconst 1, 1) := by decide +kernel
theorem d_R_operateAlone_108 : decode c_R_operateAlone 108 = .ok (.iadd, 1) := by decide +kernel
theorem d_R_operateAlone_109 : decode c_R_operateAlone 109 = .ok (.invokevirtual 54, 3) := by decide +kernel
theorem d_R_operateAlone_112 : decode c_R_operateAlone 112 = .ok (.goto 127, 3) := by decide +kernel
theorem d_R_operateAlone_115 : decode c_R_operateAlone 115 = .ok (.aload_n 0, 1) := by decide +kernel
theorem d_R_operateAlone_116 : decode c_R_operateAlone 116 = .ok (.aload_n 0, 1) := by decide +kernel
theorem d_R_operateAlone_117 : decode c_R_operateAlone 117 = .ok (.getfield 32, 3) := by decide +kernel
theorem d_R_operateAlone_120 : decode c_R_operateAlone 120 = .ok (.iconst 1, 1) := by decide +kernel
theorem d_R_operateAlone_121 : decode c_R_operateAlone 121 = .ok (.isub, 1) := by decide +kernel
theorem d_R_operateAlone_122 : decode c_R_operateAlone 122 = .ok (.invokevirtual 54, 3) := by decide +kernel
theorem d_R_operateAlone_125 : decode c_R_operateAlone 125 = .ok (.goto 114, 3) := by decide +kernel
theorem d_R_operateAlone_128 : decode c_R_operateAlone 128 = .ok (.aload_n 0, 1) := by decide +kernel
theorem d_R_operateAlone_129 : decode c_R_operateAlone 129 = .ok (.aload_n 0, 1) := by decide +kernel
theorem d_R_operateAlone_130 : decode c_R_operateAlone 130 = .ok (.getfield 22, 3) := by decide +kernel
theorem d_R_operateAlone_133 : decode c_R_operateAlone 133 = .ok (.invokevirtual 51, 3) := by decide +kernel
theorem d_R_operateAlone_136 : decode c_R_operateAlone 136 = .ok (.goto 103, 3) := by decide +kernel
theorem d_R_operateAlone_139 : decode c_R_operateAlone 139 = .ok (.aload_n 0, 1) := by decide +kernel
theorem d_R_operateAlone_140 : decode c_R_operateAlone 140 = .ok (.aload_n 0, 1) := by decide +kernel
theorem d_R_operateAlone_141 : decode c_R_operateAlone 141 = .ok (.getfield 29, 3) := by decide +kernel
theorem d_R_operateAlone_144 : decode c_R_operateAlone 144 = .ok (.invokevirtual 39, 3) := by decide +kernel
theorem d_R_operateAlone_147 : decode c_R_operateAlone 147 = .ok (.goto 92, 3) := by decide +kernel
theorem d_R_operateAlone_150 : decode c_R_operateAlone 150 = .ok (.aload_n 0, 1) := by decide +kernel
theorem d_R_operateAlone_151 : decode c_R_operateAlone 151 = .ok (.aload_n 0, 1) := by decide +kernel
theorem d_R_operateAlone_152 : decode c_R_operateAlone 152 = .ok (.getfield 22, 3) := by decide +kernel
theorem d_R_operateAlone_155 : decode c_R_operateAlone 155 = .ok (.invokevirtual 54, 3) := by decide +kernel
theorem d_R_operateAlone_158 : decode c_R_operateAlone 158 = .ok (.goto 81, 3) := by decide +kernel
theorem d_R_operateAlone_161 : decode c_R_operateAlone 161 = .ok (.aload_n 0, 1) := by decide +kernel
theorem d_R_operateAlone_162 : decode c_R_operateAlone 162 = .ok (.aload_n 0, 1) := by decide +kernel
theorem d_R_operateAlone_163 : decode c_R_operateAlone 163 = .ok (.getfield 32, 3) := by decide +kernel
theorem d_R_operateAlone_166 : decode c_R_operateAlone 166 = .ok (.invokevirtual 39, 3) := by decide +kernel
theorem d_R_operateAlone_169 : decode c_R_operateAlone 169 = .ok (.goto 70, 3) := by decide +kernel
theorem d_R_operateAlone_172 : decode c_R_operateAlone 172 = .ok (.aload_n 0, 1) := by decide +kernel
theorem d_R_operateAlone_173 : decode c_R_operateAlone 173 = .ok (.iconst 1, 1) := by decide +kernel
theorem d_R_operateAlone_174 : decode c_R_operateAlone 174 = .ok (.iconst 0, 1) := by decide +kernel
theorem d_R_operateAlone_175 : decode c_R_operateAlone 175 = .ok (.invokevirtual 57, 3) := by decide +kernel
theorem d_R_operateAlone_178 : decode c_R_operateAlone 178 = .ok (.goto 61, 3) := by decide +kernel
theorem d_R_operateAlone_181 : decode c_R_operateAlone 181 = .ok (.aload_n 0, 1) := by decide +kernel
theorem d_R_operateAlone_182 : decode c_R_operateAlone 182 = .ok (.iconst 1, 1) := by decide +kernel
theorem d_R_operateAlone_183 : decode c_R_operateAlone 183 = .ok (.iconst 1, 1) := by decide +kernel
theorem d_R_operateAlone_184 : decode c_R_operateAlone 184 = .ok (.invokevirtual 57, 3) := by decide +kernel
theorem d_R_operateAlone_187 : decode c_R_operateAlone 187 = .ok (.goto 52, 3) := by decide +kernel
theorem d_R_operateAlone_190 : decode c_R_operateAlone 190 = .ok (.aload_n 0, 1) := by decide +kernel
theorem d_R_operateAlone_191 : decode c_R_operateAlone 191 = .ok (.iconst 4, 1) := by decide +kernel
theorem d_R_operateAlone_192 : decode c_R_operateAlone 192 = .ok (.iconst 0, 1) := by decide +kernel
theorem d_R_operateAlone_193 : decode c_R_operateAlone 193 = .ok (.invokevirtual 57, 3) := by decide +kernel
theorem d_R_operateAlone_196 : decode c_R_operateAlone 196 = .ok (.goto 43, 3) := by decide +kernel
theorem d_R_operateAlone_199 : decode c_R_operateAlone 199 = .ok (.aload_n 0, 1) := by decide +kernel
theorem d_R_operateAlone_200 : decode c_R_operateAlone 200 = .ok (.iconst 4, 1) := by decide +kernel
theorem d_R_operateAlone_201 : decode c_R_operateAlone 201 = .ok (.iconst 1, 1) := by decide +kernel
theorem d_R_operateAlone_202 : decode c_R_operateAlone 202 = .ok (.invokevirtual 57, 3) := by decide +kernel
theorem d_R_operateAlone_205 : decode c_R_operateAlone 205 = .ok (.goto 34, 3) := by decide +kernel
theorem d_R_operateAlone_208 : decode c_R_operateAlone 208 = .ok (.aload_n 0, 1) := by decide +kernel
theorem d_R_operateAlone_209 : decode c_R_operateAlone 209 = .ok (.bipush 8, 2) := by decide +kernel
theorem d_R_operateAlone_211 : decode c_R_operateAlone 211 = .ok (.iconst 0, 1) := by decide +kernel
theorem d_R_operateAlone_212 : decode c_R_operateAlone 212 = .ok (.invokevirtual 57, 3) := by decide +kernel
theorem d_R_operateAlone_215 : decode c_R_operateAlone 215 = .ok (.goto 24, 3) := by decide +kernel
theorem d_R_operateAlone_218 : decode c_R_operateAlone 218 = .ok (.aload_n 0, 1) := by decide +kernel
theorem d_R_operateAlone_219 : decode c_R_operateAlone 219 = .ok (.bipush 8, 2) := by decide +kernel
theorem d_R_operateAlone_221 : decode c_R_operateAlone 221 = .ok (.iconst 1, 1) := by decide +kernel
theorem d_R_operateAlone_222 : decode c_R_operateAlone 222 = .ok (.invokevirtual 57, 3) := by decide +kernel
theorem d_R_operateAlone_225 : decode c_R_operateAlone 225 = .ok (.goto 14, 3) := by decide +kernel
theorem d_R_operateAlone_228 : decode c_R_operateAlone 228 = .ok (.aload_n 0, 1) := by decide +kernel
theorem d_R_operateAlone_229 : decode c_R_operateAlone 229 = .ok (.aload_n 0, 1) := by decide +kernel
theorem d_R_operateAlone_230 : decode c_R_operateAlone 230 = .ok (.getfield 29, 3) := by decide +kernel
theorem d_R_operateAlone_233 : decode c_R_operateAlone 233 = .ok (.putfield 19, 3) := by decide +kernel
theorem d_R_operateAlone_236 : decode c_R_operateAlone 236 = .ok (.goto 3, 3) := by decide +kernel
theorem d_R_operateAlone_239 : decode c_R_operateAlone 239 = .ok (.return_, 1) := by decide +kernel
theorem d_R_takeFlags_0 : decode c_R_takeFlags 0 = .ok (.aload_n 0, 1) := by decide +kernel
theorem d_R_takeFlags_1 : decode c_R_takeFlags 1 = .ok (.iload_n 1, 1) := by decide +kernel
theorem d_R_takeFlags_2 : decode c_R_takeFlags 2 = .ok (.sipush 207, 3) := by decide +kernel
theorem d_R_takeFlags_5 : decode c_R_takeFlags 5 = .ok (.iand, 1) := by decide +kernel
theorem d_R_takeFlags_6 : decode c_R_takeFlags 6 = .ok (.putfield 9, 3) := by decide +kernel
theorem d_R_takeFlags_9 : decode c_R_takeFlags 9 = .ok (.return_, 1) := by decide +kernel
end
section
/-! decode rows (printed by my own program) -/
theorem d_C_init_0 : decode c_C_init 0 = .ok (.aload_n 0, 1) := by decide +kernel
theorem d_C_init_1 : decode c_C_init 1 = .ok (.invokespecial 1, 3) := by decide +kernel
theorem d_C_init_4 : decode c_C_init 4 = .ok (.aload_n 0, 1) := by decide +kernel
theorem d_C_init_5 : decode c_C_init 5 = .ok (.sipush 1024, 3) := by decide +kernel
theorem d_C_init_8 : decode c_C_init 8 = .ok (.newarray .int, 2) := by decide +kernel
theorem d_C_init_10 : decode c_C_init 10 = .ok (.putfield 9, 3) := by decide +kernel
theorem d_C_init_13 : decode c_C_init 13 = .ok (.aload_n 0, 1) := by decide +kernel
theorem d_C_init_14 : decode c_C_init 14 = .ok (.iconst 4, 1) := by decide +kernel
theorem d_C_init_15 : decode c_C_init 15 = .ok (.newarray .boolean, 2) := by decide +kernel
theorem d_C_init_17 : decode c_C_init 17 = .ok (.putfield 13, 3) := by decide +kernel
theorem d_C_init_20 : decode c_C_init 20 = .ok (.aload_n 0, 1) := by decide +kernel
theorem d_C_init_21 : decode c_C_init 21 = .ok (.getfield 13, 3) := by decide +kernel
theorem d_C_init_24 : decode c_C_init 24 = .ok (.iconst 2, 1) := by decide +kernel
theorem d_C_init_25 : decode c_C_init 25 = .ok (.iconst 1, 1) := by decide +kernel
theorem d_C_init_26 : decode c_C_init 26 = .ok (.bastore, 1) := by decide +kernel
theorem d_C_init_27 : decode c_C_init 27 = .ok (.aload_n 0, 1) := by decide +kernel
theorem d_C_init_28 : decode c_C_init 28 = .ok (.new 17, 3) := by decide +kernel
theorem d_C_init_31 : decode c_C_init 31 = .ok (.dup, 1) := by decide +kernel
theorem d_C_init_32 : decode c_C_init 32 = .ok (.invokespecial 19, 3) := by decide +kernel
theorem d_C_init_35 : decode c_C_init 35 = .ok (.putfield 20, 3) := by decide +kernel
theorem d_C_init_38 : decode c_C_init 38 = .ok (.aload_n 0, 1) := by decide +kernel
theorem d_C_init_39 : decode c_C_init 39 = .ok (.getstatic 24, 3) := by decide +kernel
theorem d_C_init_42 : decode c_C_init 42 = .ok (.putfield 30, 3) := by decide +kernel
theorem d_C_init_45 : decode c_C_init 45 = .ok (.aload_n 0, 1) := by decide +kernel
theorem d_C_init_46 : decode c_C_init 46 = .ok (.getstatic 33, 3) := by decide +kernel
theorem d_C_init_49 : decode c_C_init 49 = .ok (.putfield 39, 3) := by decide +kernel
theorem d_C_init_52 : decode c_C_init 52 = .ok (.return_, 1) := by decide +kernel
theorem d_C_poke_0 : decode c_C_poke 0 = .ok (.aload_n 0, 1) := by decide +kernel
theorem d_C_poke_1 : decode c_C_poke 1 = .ok (.getfield 9, 3) := by decide +kernel
theorem d_C_poke_4 : decode c_C_poke 4 = .ok (.iload_n 1, 1) := by decide +kernel
theorem d_C_poke_5 : decode c_C_poke 5 = .ok (.sipush 1023, 3) := by decide +kernel
theorem d_C_poke_8 : decode c_C_poke 8 = .ok (.iand, 1) := by decide +kernel
theorem d_C_poke_9 : decode c_C_poke 9 = .ok (.iaload, 1) := by decide +kernel
theorem d_C_poke_10 : decode c_C_poke 10 = .ok (.istore_n 3, 1) := by decide +kernel
theorem d_C_poke_11 : decode c_C_poke 11 = .ok (.aload_n 0, 1) := by decide +kernel
theorem d_C_poke_12 : decode c_C_poke 12 = .ok (.getfield 9, 3) := by decide +kernel
theorem d_C_poke_15 : decode c_C_poke 15 = .ok (.iload_n 1, 1) := by decide +kernel
theorem d_C_poke_16 : decode c_C_poke 16 = .ok (.sipush 1023, 3) := by decide +kernel
theorem d_C_poke_19 : decode c_C_poke 19 = .ok (.iand, 1) := by decide +kernel
theorem d_C_poke_20 : decode c_C_poke 20 = .ok (.iload_n 2, 1) := by decide +kernel
theorem d_C_poke_21 : decode c_C_poke 21 = .ok (.sipush 255, 3) := by decide +kernel
theorem d_C_poke_24 : decode c_C_poke 24 = .ok (.iand, 1) := by decide +kernel
theorem d_C_poke_25 : decode c_C_poke 25 = .ok (.iastore, 1) := by decide +kernel
theorem d_C_poke_26 : decode c_C_poke 26 = .ok (.iload_n 3, 1) := by decide +kernel
theorem d_C_poke_27 : decode c_C_poke 27 = .ok (.ireturn, 1) := by decide +kernel
theorem d_C_peek_0 : decode c_C_peek 0 = .ok (.aload_n 0, 1) := by decide +kernel
theorem d_C_peek_1 : decode c_C_peek 1 = .ok (.getfield 9, 3) := by decide +kernel
theorem d_C_peek_4 : decode c_C_peek 4 = .ok (.iload_n 1, 1) := by decide +kernel
theorem d_C_peek_5 : decode c_C_peek 5 = .ok (.sipush 1023, 3) := by decide +kernel
theorem d_C_peek_8 : decode c_C_peek 8 = .ok (.iand, 1) := by decide +kernel
theorem d_C_peek_9 : decode c_C_peek 9 = .ok (.iaload, 1) := by decide +kernel
theorem d_C_peek_10 : decode c_C_peek 10 = .ok (.ireturn, 1) := by decide +kernel
theorem d_C_cycle_0 : decode c_C_cycle 0 = .ok (.aload_n 0, 1) := by decide +kernel
theorem d_C_cycle_1 : decode c_C_cycle 1 = .ok (.invokevirtual 42, 3) := by decide +kernel
theorem d_C_cycle_4 : decode c_C_cycle 4 = .ok (.ireturn, 1) := by decide +kernel
theorem d_C_runCycle_0 : decode c_C_runCycle 0 = .ok (.aload_n 0, 1) := by decide +kernel
theorem d_C_runCycle_1 : decode c_C_runCycle 1 = .ok (.invokevirtual 109, 3) := by decide +kernel
theorem d_C_runCycle_4 : decode c_C_runCycle 4 = .ok (.istore_n 1, 1) := by decide +kernel
theorem d_C_runCycle_5 : decode c_C_runCycle 5 = .ok (.aload_n 0, 1) := by decide +kernel
theorem d_C_runCycle_6 : decode c_C_runCycle 6 = .ok (.getfield 30, 3) := by decide +kernel
theorem d_C_runCycle_9 : decode c_C_runCycle 9 = .ok (.getfield 112, 3) := by decide +kernel
theorem d_C_runCycle_12 : decode c_C_runCycle 12 = .ok (.ifCond .eq 45, 3) := by decide +kernel
theorem d_C_runCycle_15 : decode c_C_runCycle 15 = .ok (.aload_n 0, 1) := by decide +kernel
theorem d_C_runCycle_16 : decode c_C_runCycle 16 = .ok (.invokevirtual 115, 3) := by decide +kernel
theorem d_C_runCycle_19 : decode c_C_runCycle 19 = .ok (.istore_n 2, 1) := by decide +kernel
theorem d_C_runCycle_20 : decode c_C_runCycle 20 = .ok (.aload_n 0, 1) := by decide +kernel
theorem d_C_runCycle_21 : decode c_C_runCycle 21 = .ok (.getfield 9, 3) := by decide +kernel
theorem d_C_runCycle_24 : decode c_C_runCycle 24 = .ok (.iload_n 1, 1) := by decide +kernel
theorem d_C_runCycle_25 : decode c_C_runCycle 25 = .ok (.sipush 1023, 3) := by decide +kernel
theorem d_C_runCycle_28 : decode c_C_runCycle 28 = .ok (.iand, 1) := by decide +kernel
theorem d_C_runCycle_29 : decode c_C_runCycle 29 = .ok (.iload_n 2, 1) := by decide +kernel
theorem d_C_runCycle_30 : decode c_C_runCycle 30 = .ok (.iastore, 1) := by decide +kernel
theorem d_C_runCycle_31 : decode c_C_runCycle 31 = .ok (.aload_n 0, 1) := by decide +kernel
theorem d_C_runCycle_32 : decode c_C_runCycle 32 = .ok (.dup, 1) := by decide +kernel
theorem d_C_runCycle_33 : decode c_C_runCycle 33 = .ok (.getfield 95, 3) := by decide +kernel
theorem d_C_runCycle_36 : decode c_C_runCycle 36 = .ok (.iconst 1, 1) := by decide +kernel
theorem d_C_runCycle_37 : decode c_C_runCycle 37 = .ok (.iadd, 1) := by decide +kernel
theorem d_C_runCycle_38 : decode c_C_runCycle 38 = .ok (.putfield 95, 3) := by decide +kernel
theorem d_C_runCycle_41 : decode c_C_runCycle 41 = .ok (.aload_n 0, 1) := by decide +kernel
theorem d_C_runCycle_42 : decode c_C_runCycle 42 = .ok (.invokevirtual 118, 3) := by decide +kernel
theorem d_C_runCycle_45 : decode c_C_runCycle 45 = .ok (.sipush 512, 3) := by decide +kernel
theorem d_C_runCycle_48 : decode c_C_runCycle 48 = .ok (.iload_n 1, 1) := by decide +kernel
theorem d_C_runCycle_49 : decode c_C_runCycle 49 = .ok (.imul, 1) := by decide +kernel
theorem d_C_runCycle_50 : decode c_C_runCycle 50 = .ok (.sipush 256, 3) := by decide +kernel
theorem d_C_runCycle_53 : decode c_C_runCycle 53 = .ok (.iadd, 1) := by decide +kernel
theorem d_C_runCycle_54 : decode c_C_runCycle 54 = .ok (.iload_n 2, 1) := by decide +kernel
theorem d_C_runCycle_55 : decode c_C_runCycle 55 = .ok (.iadd, 1) := by decide +kernel
theorem d_C_runCycle_56 : decode c_C_runCycle 56 = .ok (.ireturn, 1) := by decide +kernel
theorem d_C_runCycle_57 : decode c_C_runCycle 57 = .ok (.aload_n 0, 1) := by decide +kernel
theorem d_C_runCycle_58 : decode c_C_runCycle 58 = .ok (.getfield 9, 3) := by decide +kernel
theorem d_C_runCycle_61 : decode c_C_runCycle 61 = .ok (.iload_n 1, 1) := by decide +kernel
theorem d_C_runCycle_62 : decode c_C_runCycle 62 = .ok (.sipush 1023, 3) := by decide +kernel
theorem d_C_runCycle_65 : decode c_C_runCycle 65 = .ok (.iand, 1) := by decide +kernel
theorem d_C_runCycle_66 : decode c_C_runCycle 66 = .ok (.iaload, 1) := by decide +kernel
theorem d_C_runCycle_67 : decode c_C_runCycle 67 = .ok (.istore_n 2, 1) := by decide +kernel
theorem d_C_runCycle_68 : decode c_C_runCycle 68 = .ok (.aload_n 0, 1) := by decide +kernel
theorem d_C_runCycle_69 : decode c_C_runCycle 69 = .ok (.getfield 13, 3) := by decide +kernel
theorem d_C_runCycle_72 : decode c_C_runCycle 72 = .ok (.iconst 2, 1) := by decide +kernel
theorem d_C_runCycle_73 : decode c_C_runCycle 73 = .ok (.baload, 1) := by decide +kernel
theorem d_C_runCycle_74 : decode c_C_runCycle 74 = .ok (.ifCond .eq 18, 3) := by decide +kernel
theorem d_C_runCycle_77 : decode c_C_runCycle 77 = .ok (.aload_n 0, 1) := by decide +kernel
theorem d_C_runCycle_78 : decode c_C_runCycle 78 = .ok (.dup, 1) := by decide +kernel
theorem d_C_runCycle_79 : decode c_C_runCycle 79 = .ok (.getfield 95, 3) := by decide +kernel
theorem d_C_runCycle_82 : decode c_C_runCycle 82 = .ok (.iconst 1, 1) := by decide +kernel
theorem d_C_runCycle_83 : decode c_C_runCycle 83 = .ok (.iadd, 1) := by decide +kernel
theorem d_C_runCycle_84 : decode c_C_runCycle 84 = .ok (.putfield 95, 3) := by decide +kernel
theorem d_C_runCycle_87 : decode c_C_runCycle 87 = .ok (.aload_n 0, 1) := by decide +kernel
theorem d_C_runCycle_88 : decode c_C_runCycle 88 = .ok (.iload_n 2, 1) := by decide +kernel
theorem d_C_runCycle_89 : decode c_C_runCycle 89 = .ok (.invokevirtual 121, 3) := by decide +kernel
theorem d_C_runCycle_92 : decode c_C_runCycle 92 = .ok (.sipush 512, 3) := by decide +kernel
theorem d_C_runCycle_95 : decode c_C_runCycle 95 = .ok (.iload_n 1, 1) := by decide +kernel
theorem d_C_runCycle_96 : decode c_C_runCycle 96 = .ok (.imul, 1) := by decide +kernel
theorem d_C_runCycle_97 : decode c_C_runCycle 97 = .ok (.iload_n 2, 1) := by decide +kernel
theorem d_C_runCycle_98 : decode c_C_runCycle 98 = .ok (.iadd, 1) := by decide +kernel
theorem d_C_runCycle_99 : decode c_C_runCycle 99 = .ok (.ireturn, 1) := by decide +kernel
theorem d_C_addressOfStep_0 : decode c_C_addressOfStep 0 = .ok (.aload_n 0, 1) := by decide +kernel
theorem d_C_addressOfStep_1 : decode c_C_addressOfStep 1 = .ok (.getfield 30, 3) := by decide +kernel
theorem d_C_addressOfStep_4 : decode c_C_addressOfStep 4 = .ok (.getfield 124, 3) := by decide +kernel
theorem d_C_addressOfStep_7 : decode c_C_addressOfStep 7 = .ok (.tableswitch 105 1 6 #[37, 44, 58, 78, 95, 100], 37) := by decide +kernel
theorem d_C_addressOfStep_44 : decode c_C_addressOfStep 44 = .ok (.aload_n 0, 1) := by decide +kernel
theorem d_C_addressOfStep_45 : decode c_C_addressOfStep 45 = .ok (.getfield 127, 3) := by decide +kernel
theorem d_C_addressOfStep_48 : decode c_C_addressOfStep 48 = .ok (.goto 71, 3) := by decide +kernel
theorem d_C_addressOfStep_51 : decode c_C_addressOfStep 51 = .ok (.sipush 256, 3) := by decide +kernel
theorem d_C_addressOfStep_54 : decode c_C_addressOfStep 54 = .ok (.aload_n 0, 1) := by decide +kernel
theorem d_C_addressOfStep_55 : decode c_C_addressOfStep 55 = .ok (.getfield 20, 3) := by decide +kernel
theorem d_C_addressOfStep_58 : decode c_C_addressOfStep 58 = .ok (.getfield 83, 3) := by decide +kernel
theorem d_C_addressOfStep_61 : decode c_C_addressOfStep 61 = .ok (.iadd, 1) := by decide +kernel
theorem d_C_addressOfStep_62 : decode c_C_addressOfStep 62 = .ok (.goto 57, 3) := by decide +kernel
theorem d_C_addressOfStep_65 : decode c_C_addressOfStep 65 = .ok (.sipush 256, 3) := by decide +kernel
theorem d_C_addressOfStep_68 : decode c_C_addressOfStep 68 = .ok (.aload_n 0, 1) := by decide +kernel
theorem d_C_addressOfStep_69 : decode c_C_addressOfStep 69 = .ok (.getfield 20, 3) := by decide +kernel
theorem d_C_addressOfStep_72 : decode c_C_addressOfStep 72 = .ok (.getfield 83, 3) := by decide +kernel
theorem d_C_addressOfStep_75 : decode c_C_addressOfStep 75 = .ok (.iconst 1, 1) := by decide +kernel
theorem d_C_addressOfStep_76 : decode c_C_addressOfStep 76 = .ok (.iadd, 1) := by decide +kernel
theorem d_C_addressOfStep_77 : decode c_C_addressOfStep 77 = .ok (.sipush 255, 3) := by decide +kernel
theorem d_C_addressOfStep_80 : decode c_C_addressOfStep 80 = .ok (.iand, 1) := by decide +kernel
theorem d_C_addressOfStep_81 : decode c_C_addressOfStep 81 = .ok (.iadd, 1) := by decide +kernel
theorem d_C_addressOfStep_82 : decode c_C_addressOfStep 82 = .ok (.goto 37, 3) := by decide +kernel
theorem d_C_addressOfStep_85 : decode c_C_addressOfStep 85 = .ok (.aload_n 0, 1) := by decide +kernel
theorem d_C_addressOfStep_86 : decode c_C_addressOfStep 86 = .ok (.getfield 60, 3) := by decide +kernel
theorem d_C_addressOfStep_89 : decode c_C_addressOfStep 89 = .ok (.ifCond .eq 8, 3) := by decide +kernel
theorem d_C_addressOfStep_92 : decode c_C_addressOfStep 92 = .ok (.ldc 130, 2) := by decide +kernel
theorem d_C_addressOfStep_94 : decode c_C_addressOfStep 94 = .ok (.goto 25, 3) := by decide +kernel
theorem d_C_addressOfStep_97 : decode c_C_addressOfStep 97 = .ok (.ldc 131, 2) := by decide +kernel
theorem d_C_addressOfStep_99 : decode c_C_addressOfStep 99 = .ok (.goto 20, 3) := by decide +kernel
theorem d_C_addressOfStep_102 : decode c_C_addressOfStep 102 = .ok (.ldc 132, 2) := by decide +kernel
theorem d_C_addressOfStep_104 : decode c_C_addressOfStep 104 = .ok (.goto 15, 3) := by decide +kernel
theorem d_C_addressOfStep_107 : decode c_C_addressOfStep 107 = .ok (.ldc 101, 2) := by decide +kernel
theorem d_C_addressOfStep_109 : decode c_C_addressOfStep 109 = .ok (.goto 10, 3) := by decide +kernel
theorem d_C_addressOfStep_112 : decode c_C_addressOfStep 112 = .ok (.aload_n 0, 1) := by decide +kernel
theorem d_C_addressOfStep_113 : decode c_C_addressOfStep 113 = .ok (.getfield 20, 3) := by decide +kernel
theorem d_C_addressOfStep_116 : decode c_C_addressOfStep 116 = .ok (.getfield 86, 3) := by decide +kernel
theorem d_C_addressOfStep_119 : decode c_C_addressOfStep 119 = .ok (.ireturn, 1) := by decide +kernel
theorem d_C_byteToWrite_0 : decode c_C_byteToWrite 0 = .ok (.getstatic 133, 3) := by decide +kernel
theorem d_C_byteToWrite_3 : decode c_C_byteToWrite 3 = .ok (.aload_n 0, 1) := by decide +kernel
theorem d_C_byteToWrite_4 : decode c_C_byteToWrite 4 = .ok (.getfield 30, 3) := by decide +kernel
theorem d_C_byteToWrite_7 : decode c_C_byteToWrite 7 = .ok (.invokevirtual 138, 3) := by decide +kernel
theorem d_C_byteToWrite_10 : decode c_C_byteToWrite 10 = .ok (.iaload, 1) := by decide +kernel
theorem d_C_byteToWrite_11 : decode c_C_byteToWrite 11 = .ok (.tableswitch 165 1 7 #[41, 51, 58, 76, 105, 118, 132], 41) := by decide +kernel
theorem d_C_byteToWrite_52 : decode c_C_byteToWrite 52 = .ok (.aload_n 0, 1) := by decide +kernel
theorem d_C_byteToWrite_53 : decode c_C_byteToWrite 53 = .ok (.getfield 20, 3) := by decide +kernel
theorem d_C_byteToWrite_56 : decode c_C_byteToWrite 56 = .ok (.getfield 74, 3) := by decide +kernel
theorem d_C_byteToWrite_59 : decode c_C_byteToWrite 59 = .ok (.goto 118, 3) := by decide +kernel
theorem d_C_byteToWrite_62 : decode c_C_byteToWrite 62 = .ok (.aload_n 0, 1) := by decide +kernel
theorem d_C_byteToWrite_63 : decode c_C_byteToWrite 63 = .ok (.getfield 141, 3) := by decide +kernel
theorem d_C_byteToWrite_66 : decode c_C_byteToWrite 66 = .ok (.goto 111, 3) := by decide +kernel
theorem d_C_byteToWrite_69 : decode c_C_byteToWrite 69 = .ok (.aload_n 0, 1) := by decide +kernel
theorem d_C_byteToWrite_70 : decode c_C_byteToWrite 70 = .ok (.getfield 20, 3) := by decide +kernel
theorem d_C_byteToWrite_73 : decode c_C_byteToWrite 73 = .ok (.aload_n 0, 1) := by decide +kernel
theorem d_C_byteToWrite_74 : decode c_C_byteToWrite 74 = .ok (.getfield 144, 3) := by decide +kernel
theorem d_C_byteToWrite_77 : decode c_C_byteToWrite 77 = .ok (.aload_n 0, 1) := by decide +kernel
theorem d_C_byteToWrite_78 : decode c_C_byteToWrite 78 = .ok (.getfield 141, 3) := by decide +kernel
theorem d_C_byteToWrite_81 : decode c_C_byteToWrite 81 = .ok (.invokevirtual 147, 3) := by decide +kernel
theorem d_C_byteToWrite_84 : decode c_C_byteToWrite 84 = .ok (.goto 93, 3) := by decide +kernel
theorem d_C_byteToWrite_87 : decode c_C_byteToWrite 87 = .ok (.aload_n 0, 1) := by decide +kernel
theorem d_C_byteToWrite_88 : decode c_C_byteToWrite 88 = .ok (.getfield 144, 3) := by decide +kernel
theorem d_C_byteToWrite_91 : decode c_C_byteToWrite 91 = .ok (.bipush 16, 2) := by decide +kernel
theorem d_C_byteToWrite_93 : decode c_C_byteToWrite 93 = .ok (.if_icmp .ne 13, 3) := by decide +kernel
theorem d_C_byteToWrite_96 : decode c_C_byteToWrite 96 = .ok (.aload_n 0, 1) := by decide +kernel
theorem d_C_byteToWrite_97 : decode c_C_byteToWrite 97 = .ok (.getfield 20, 3) := by decide +kernel
theorem d_C_byteToWrite_100 : decode c_C_byteToWrite 100 = .ok (.getfield 74, 3) := by decide +kernel
theorem d_C_byteToWrite_103 : decode c_C_byteToWrite 103 = .ok (.goto 74, 3) := by decide +kernel
theorem d_C_byteToWrite_106 : decode c_C_byteToWrite 106 = .ok (.aload_n 0, 1) := by decide +kernel
theorem d_C_byteToWrite_107 : decode c_C_byteToWrite 107 = .ok (.getfield 20, 3) := by decide +kernel
theorem d_C_byteToWrite_110 : decode c_C_byteToWrite 110 = .ok (.invokevirtual 89, 3) := by decide +kernel
theorem d_C_byteToWrite_113 : decode c_C_byteToWrite 113 = .ok (.goto 64, 3) := by decide +kernel
theorem d_C_byteToWrite_116 : decode c_C_byteToWrite 116 = .ok (.aload_n 0, 1) := by decide +kernel
theorem d_C_byteToWrite_117 : decode c_C_byteToWrite 117 = .ok (.getfield 20, 3) := by decide +kernel
theorem d_C_byteToWrite_120 : decode c_C_byteToWrite 120 = .ok (.getfield 86, 3) := by decide +kernel
theorem d_C_byteToWrite_123 : decode c_C_byteToWrite 123 = .ok (.bipush 8, 2) := by decide +kernel
theorem d_C_byteToWrite_125 : decode c_C_byteToWrite 125 = .ok (.ishr, 1) := by decide +kernel
theorem d_C_byteToWrite_126 : decode c_C_byteToWrite 126 = .ok (.goto 51, 3) := by decide +kernel
theorem d_C_byteToWrite_129 : decode c_C_byteToWrite 129 = .ok (.aload_n 0, 1) := by decide +kernel
theorem d_C_byteToWrite_130 : decode c_C_byteToWrite 130 = .ok (.getfield 20, 3) := by decide +kernel
theorem d_C_byteToWrite_133 : decode c_C_byteToWrite 133 = .ok (.getfield 86, 3) := by decide +kernel
theorem d_C_byteToWrite_136 : decode c_C_byteToWrite 136 = .ok (.sipush 255, 3) := by decide +kernel
theorem d_C_byteToWrite_139 : decode c_C_byteToWrite 139 = .ok (.iand, 1) := by decide +kernel
theorem d_C_byteToWrite_140 : decode c_C_byteToWrite 140 = .ok (.goto 37, 3) := by decide +kernel
theorem d_C_byteToWrite_143 : decode c_C_byteToWrite 143 = .ok (.aload_n 0, 1) := by decide +kernel
theorem d_C_byteToWrite_144 : decode c_C_byteToWrite 144 = .ok (.getfield 39, 3) := by decide +kernel
theorem d_C_byteToWrite_147 : decode c_C_byteToWrite 147 = .ok (.getstatic 151, 3) := by decide +kernel
theorem d_C_byteToWrite_150 : decode c_C_byteToWrite 150 = .ok (.if_acmp .ne 16, 3) := by decide +kernel
theorem d_C_byteToWrite_153 : decode c_C_byteToWrite 153 = .ok (.aload_n 0, 1) := by decide +kernel
theorem d_C_byteToWrite_154 : decode c_C_byteToWrite 154 = .ok (.getfield 20, 3) := by decide +kernel
theorem d_C_byteToWrite_157 : decode c_C_byteToWrite 157 = .ok (.invokevirtual 89, 3) := by decide +kernel
theorem d_C_byteToWrite_160 : decode c_C_byteToWrite 160 = .ok (.bipush 16, 2) := by decide +kernel
theorem d_C_byteToWrite_162 : decode c_C_byteToWrite 162 = .ok (.iadd, 1) := by decide +kernel
theorem d_C_byteToWrite_163 : decode c_C_byteToWrite 163 = .ok (.goto 14, 3) := by decide +kernel
theorem d_C_byteToWrite_166 : decode c_C_byteToWrite 166 = .ok (.aload_n 0, 1) := by decide +kernel
theorem d_C_byteToWrite_167 : decode c_C_byteToWrite 167 = .ok (.getfield 20, 3) := by decide +kernel
theorem d_C_byteToWrite_170 : decode c_C_byteToWrite 170 = .ok (.invokevirtual 89, 3) := by decide +kernel
theorem d_C_byteToWrite_173 : decode c_C_byteToWrite 173 = .ok (.goto 4, 3) := by decide +kernel
theorem d_C_byteToWrite_176 : decode c_C_byteToWrite 176 = .ok (.iconst 0, 1) := by decide +kernel
theorem d_C_byteToWrite_177 : decode c_C_byteToWrite 177 = .ok (.ireturn, 1) := by decide +kernel
theorem d_C_afterWrite_0 : decode c_C_afterWrite 0 = .ok (.getstatic 133, 3) := by decide +kernel
theorem d_C_afterWrite_3 : decode c_C_afterWrite 3 = .ok (.aload_n 0, 1) := by decide +kernel
theorem d_C_afterWrite_4 : decode c_C_afterWrite 4 = .ok (.getfield 30, 3) := by decide +kernel
theorem d_C_afterWrite_7 : decode c_C_afterWrite 7 = .ok (.invokevirtual 138, 3) := by decide +kernel
theorem d_C_afterWrite_10 : decode c_C_afterWrite 10 = .ok (.iaload, 1) := by decide +kernel
theorem d_C_afterWrite_11 : decode c_C_afterWrite 11 = .ok (.tableswitch 163 2 7 #[37, 47, 69, 84, 102, 136], 37) := by decide +kernel
theorem d_C_afterWrite_48 : decode c_C_afterWrite 48 = .ok (.aload_n 0, 1) := by decide +kernel
theorem d_C_afterWrite_49 : decode c_C_afterWrite 49 = .ok (.getstatic 154, 3) := by decide +kernel
theorem d_C_afterWrite_52 : decode c_C_afterWrite 52 = .ok (.putfield 30, 3) := by decide +kernel
theorem d_C_afterWrite_55 : decode c_C_afterWrite 55 = .ok (.goto 123, 3) := by decide +kernel
theorem d_C_afterWrite_58 : decode c_C_afterWrite 58 = .ok (.aload_n 0, 1) := by decide +kernel
theorem d_C_afterWrite_59 : decode c_C_afterWrite 59 = .ok (.getfield 20, 3) := by decide +kernel
theorem d_C_afterWrite_62 : decode c_C_afterWrite 62 = .ok (.aload_n 0, 1) := by decide +kernel
theorem d_C_afterWrite_63 : decode c_C_afterWrite 63 = .ok (.getfield 144, 3) := by decide +kernel
theorem d_C_afterWrite_66 : decode c_C_afterWrite 66 = .ok (.aload_n 0, 1) := by decide +kernel
theorem d_C_afterWrite_67 : decode c_C_afterWrite 67 = .ok (.getfield 141, 3) := by decide +kernel
theorem d_C_afterWrite_70 : decode c_C_afterWrite 70 = .ok (.invokevirtual 157, 3) := by decide +kernel
theorem d_C_afterWrite_73 : decode c_C_afterWrite 73 = .ok (.aload_n 0, 1) := by decide +kernel
theorem d_C_afterWrite_74 : decode c_C_afterWrite 74 = .ok (.invokevirtual 161, 3) := by decide +kernel
theorem d_C_afterWrite_77 : decode c_C_afterWrite 77 = .ok (.goto 101, 3) := by decide +kernel
theorem d_C_afterWrite_80 : decode c_C_afterWrite 80 = .ok (.aload_n 0, 1) := by decide +kernel
theorem d_C_afterWrite_81 : decode c_C_afterWrite 81 = .ok (.getfield 20, 3) := by decide +kernel
theorem d_C_afterWrite_84 : decode c_C_afterWrite 84 = .ok (.iconst (-1), 1) := by decide +kernel
theorem d_C_afterWrite_85 : decode c_C_afterWrite 85 = .ok (.invokevirtual 164, 3) := by decide +kernel
theorem d_C_afterWrite_88 : decode c_C_afterWrite 88 = .ok (.aload_n 0, 1) := by decide +kernel
theorem d_C_afterWrite_89 : decode c_C_afterWrite 89 = .ok (.invokevirtual 161, 3) := by decide +kernel
theorem d_C_afterWrite_92 : decode c_C_afterWrite 92 = .ok (.goto 86, 3) := by decide +kernel
theorem d_C_afterWrite_95 : decode c_C_afterWrite 95 = .ok (.aload_n 0, 1) := by decide +kernel
theorem d_C_afterWrite_96 : decode c_C_afterWrite 96 = .ok (.getfield 20, 3) := by decide +kernel
theorem d_C_afterWrite_99 : decode c_C_afterWrite 99 = .ok (.iconst (-1), 1) := by decide +kernel
theorem d_C_afterWrite_100 : decode c_C_afterWrite 100 = .ok (.invokevirtual 164, 3) := by decide +kernel
theorem d_C_afterWrite_103 : decode c_C_afterWrite 103 = .ok (.aload_n 0, 1) := by decide +kernel
theorem d_C_afterWrite_104 : decode c_C_afterWrite 104 = .ok (.getstatic 167, 3) := by decide +kernel
theorem d_C_afterWrite_107 : decode c_C_afterWrite 107 = .ok (.putfield 30, 3) := by decide +kernel
theorem d_C_afterWrite_110 : decode c_C_afterWrite 110 = .ok (.goto 68, 3) := by decide +kernel
theorem d_C_afterWrite_113 : decode c_C_afterWrite 113 = .ok (.aload_n 0, 1) := by decide +kernel
theorem d_C_afterWrite_114 : decode c_C_afterWrite 114 = .ok (.getfield 20, 3) := by decide +kernel
theorem d_C_afterWrite_117 : decode c_C_afterWrite 117 = .ok (.iconst (-1), 1) := by decide +kernel
theorem d_C_afterWrite_118 : decode c_C_afterWrite 118 = .ok (.invokevirtual 164, 3) := by decide +kernel
theorem d_C_afterWrite_121 : decode c_C_afterWrite 121 = .ok (.aload_n 0, 1) := by decide +kernel
theorem d_C_afterWrite_122 : decode c_C_afterWrite 122 = .ok (.aload_n 0, 1) := by decide +kernel
theorem d_C_afterWrite_123 : decode c_C_afterWrite 123 = .ok (.getfield 39, 3) := by decide +kernel
theorem d_C_afterWrite_126 : decode c_C_afterWrite 126 = .ok (.getstatic 170, 3) := by decide +kernel
theorem d_C_afterWrite_129 : decode c_C_afterWrite 129 = .ok (.if_acmp .ne 9, 3) := by decide +kernel
theorem d_C_afterWrite_132 : decode c_C_afterWrite 132 = .ok (.getstatic 173, 3) := by decide +kernel
theorem d_C_afterWrite_135 : decode c_C_afterWrite 135 = .ok (.goto 6, 3) := by decide +kernel
theorem d_C_afterWrite_138 : decode c_C_afterWrite 138 = .ok (.getstatic 176, 3) := by decide +kernel
theorem d_C_afterWrite_141 : decode c_C_afterWrite 141 = .ok (.putfield 30, 3) := by decide +kernel
theorem d_C_afterWrite_144 : decode c_C_afterWrite 144 = .ok (.goto 34, 3) := by decide +kernel
theorem d_C_afterWrite_147 : decode c_C_afterWrite 147 = .ok (.aload_n 0, 1) := by decide +kernel
theorem d_C_afterWrite_148 : decode c_C_afterWrite 148 = .ok (.getfield 20, 3) := by decide +kernel
theorem d_C_afterWrite_151 : decode c_C_afterWrite 151 = .ok (.iconst (-1), 1) := by decide +kernel
theorem d_C_afterWrite_152 : decode c_C_afterWrite 152 = .ok (.invokevirtual 164, 3) := by decide +kernel
theorem d_C_afterWrite_155 : decode c_C_afterWrite 155 = .ok (.aload_n 0, 1) := by decide +kernel
theorem d_C_afterWrite_156 : decode c_C_afterWrite 156 = .ok (.getfield 20, 3) := by decide +kernel
theorem d_C_afterWrite_159 : decode c_C_afterWrite 159 = .ok (.iconst 4, 1) := by decide +kernel
theorem d_C_afterWrite_160 : decode c_C_afterWrite 160 = .ok (.iconst 1, 1) := by decide +kernel
theorem d_C_afterWrite_161 : decode c_C_afterWrite 161 = .ok (.invokevirtual 105, 3) := by decide +kernel
theorem d_C_afterWrite_164 : decode c_C_afterWrite 164 = .ok (.aload_n 0, 1) := by decide +kernel
theorem d_C_afterWrite_165 : decode c_C_afterWrite 165 = .ok (.getstatic 179, 3) := by decide +kernel
theorem d_C_afterWrite_168 : decode c_C_afterWrite 168 = .ok (.putfield 30, 3) := by decide +kernel
theorem d_C_afterWrite_171 : decode c_C_afterWrite 171 = .ok (.goto 7, 3) := by decide +kernel
theorem d_C_afterWrite_174 : decode c_C_afterWrite 174 = .ok (.aload_n 0, 1) := by decide +kernel
theorem d_C_afterWrite_175 : decode c_C_afterWrite 175 = .ok (.invokevirtual 161, 3) := by decide +kernel
theorem d_C_afterWrite_178 : decode c_C_afterWrite 178 = .ok (.return_, 1) := by decide +kernel
theorem d_C_end_0 : decode c_C_end 0 = .ok (.aload_n 0, 1) := by decide +kernel
theorem d_C_end_1 : decode c_C_end 1 = .ok (.dup, 1) := by decide +kernel
theorem d_C_end_2 : decode c_C_end 2 = .ok (.getfield 49, 3) := by decide +kernel
theorem d_C_end_5 : decode c_C_end 5 = .ok (.iconst 1, 1) := by decide +kernel
theorem d_C_end_6 : decode c_C_end 6 = .ok (.iadd, 1) := by decide +kernel
theorem d_C_end_7 : decode c_C_end 7 = .ok (.putfield 49, 3) := by decide +kernel
theorem d_C_end_10 : decode c_C_end 10 = .ok (.aload_n 0, 1) := by decide +kernel
theorem d_C_end_11 : decode c_C_end 11 = .ok (.getfield 13, 3) := by decide +kernel
theorem d_C_end_14 : decode c_C_end 14 = .ok (.iconst 1, 1) := by decide +kernel
theorem d_C_end_15 : decode c_C_end 15 = .ok (.baload, 1) := by decide +kernel
theorem d_C_end_16 : decode c_C_end 16 = .ok (.ifCond .eq 18, 3) := by decide +kernel
theorem d_C_end_19 : decode c_C_end 19 = .ok (.aload_n 0, 1) := by decide +kernel
theorem d_C_end_20 : decode c_C_end 20 = .ok (.getfield 20, 3) := by decide +kernel
theorem d_C_end_23 : decode c_C_end 23 = .ok (.iconst 4, 1) := by decide +kernel
theorem d_C_end_24 : decode c_C_end 24 = .ok (.invokevirtual 267, 3) := by decide +kernel
theorem d_C_end_27 : decode c_C_end 27 = .ok (.ifCond .ne 7, 3) := by decide +kernel
theorem d_C_end_30 : decode c_C_end 30 = .ok (.iconst 1, 1) := by decide +kernel
theorem d_C_end_31 : decode c_C_end 31 = .ok (.goto 4, 3) := by decide +kernel
theorem d_C_end_34 : decode c_C_end 34 = .ok (.iconst 0, 1) := by decide +kernel
theorem d_C_end_35 : decode c_C_end 35 = .ok (.istore_n 1, 1) := by decide +kernel
theorem d_C_end_36 : decode c_C_end 36 = .ok (.aload_n 0, 1) := by decide +kernel
theorem d_C_end_37 : decode c_C_end 37 = .ok (.getfield 60, 3) := by decide +kernel
theorem d_C_end_40 : decode c_C_end 40 = .ok (.ifCond .ne 7, 3) := by decide +kernel
theorem d_C_end_43 : decode c_C_end 43 = .ok (.iload_n 1, 1) := by decide +kernel
theorem d_C_end_44 : decode c_C_end 44 = .ok (.ifCond .eq 16, 3) := by decide +kernel
theorem d_C_end_47 : decode c_C_end 47 = .ok (.aload_n 0, 1) := by decide +kernel
theorem d_C_end_48 : decode c_C_end 48 = .ok (.getstatic 271, 3) := by decide +kernel
theorem d_C_end_51 : decode c_C_end 51 = .ok (.getstatic 249, 3) := by decide +kernel
theorem d_C_end_54 : decode c_C_end 54 = .ok (.invokevirtual 70, 3) := by decide +kernel
theorem d_C_end_57 : decode c_C_end 57 = .ok (.goto 13, 3) := by decide +kernel
theorem d_C_end_60 : decode c_C_end 60 = .ok (.aload_n 0, 1) := by decide +kernel
theorem d_C_end_61 : decode c_C_end 61 = .ok (.getstatic 33, 3) := by decide +kernel
theorem d_C_end_64 : decode c_C_end 64 = .ok (.getstatic 24, 3) := by decide +kernel
theorem d_C_end_67 : decode c_C_end 67 = .ok (.invokevirtual 70, 3) := by decide +kernel
theorem d_C_end_70 : decode c_C_end 70 = .ok (.return_, 1) := by decide +kernel
theorem d_C_begin_0 : decode c_C_begin 0 = .ok (.aload_n 0, 1) := by decide +kernel
theorem d_C_begin_1 : decode c_C_begin 1 = .ok (.aload_n 1, 1) := by decide +kernel
theorem d_C_begin_2 : decode c_C_begin 2 = .ok (.putfield 39, 3) := by decide +kernel
theorem d_C_begin_5 : decode c_C_begin 5 = .ok (.aload_n 0, 1) := by decide +kernel
theorem d_C_begin_6 : decode c_C_begin 6 = .ok (.aload_n 2, 1) := by decide +kernel
theorem d_C_begin_7 : decode c_C_begin 7 = .ok (.putfield 30, 3) := by decide +kernel
theorem d_C_begin_10 : decode c_C_begin 10 = .ok (.aload_n 0, 1) := by decide +kernel
theorem d_C_begin_11 : decode c_C_begin 11 = .ok (.iconst 0, 1) := by decide +kernel
theorem d_C_begin_12 : decode c_C_begin 12 = .ok (.putfield 95, 3) := by decide +kernel
theorem d_C_begin_15 : decode c_C_begin 15 = .ok (.return_, 1) := by decide +kernel
theorem d_C_afterRead_0 : decode c_C_afterRead 0 = .ok (.getstatic 133, 3) := by decide +kernel
theorem d_C_afterRead_3 : decode c_C_afterRead 3 = .ok (.aload_n 0, 1) := by decide +kernel
theorem d_C_afterRead_4 : decode c_C_afterRead 4 = .ok (.getfield 30, 3) := by decide +kernel
theorem d_C_afterRead_7 : decode c_C_afterRead 7 = .ok (.invokevirtual 138, 3) := by decide +kernel
theorem d_C_afterRead_10 : decode c_C_afterRead 10 = .ok (.iaload, 1) := by decide +kernel
theorem d_C_afterRead_11 : decode c_C_afterRead 11 = .ok (.tableswitch 248 8 24 #[81, 89, 115, 123, 130, 138, 146, 154, 162, 173, 192, 200, 208, 215, 226, 233, 240], 81) := by decide +kernel
theorem d_C_afterRead_92 : decode c_C_afterRead 92 = .ok (.aload_n 0, 1) := by decide +kernel
theorem d_C_afterRead_93 : decode c_C_afterRead 93 = .ok (.iload_n 1, 1) := by decide +kernel
theorem d_C_afterRead_94 : decode c_C_afterRead 94 = .ok (.invokevirtual 182, 3) := by decide +kernel
theorem d_C_afterRead_97 : decode c_C_afterRead 97 = .ok (.goto 167, 3) := by decide +kernel
theorem d_C_afterRead_100 : decode c_C_afterRead 100 = .ok (.aload_n 0, 1) := by decide +kernel
theorem d_C_afterRead_101 : decode c_C_afterRead 101 = .ok (.getfield 20, 3) := by decide +kernel
theorem d_C_afterRead_104 : decode c_C_afterRead 104 = .ok (.invokevirtual 185, 3) := by decide +kernel
theorem d_C_afterRead_107 : decode c_C_afterRead 107 = .ok (.aload_n 0, 1) := by decide +kernel
theorem d_C_afterRead_108 : decode c_C_afterRead 108 = .ok (.getfield 20, 3) := by decide +kernel
theorem d_C_afterRead_111 : decode c_C_afterRead 111 = .ok (.aload_n 0, 1) := by decide +kernel
theorem d_C_afterRead_112 : decode c_C_afterRead 112 = .ok (.getfield 144, 3) := by decide +kernel
theorem d_C_afterRead_115 : decode c_C_afterRead 115 = .ok (.iload_n 1, 1) := by decide +kernel
theorem d_C_afterRead_116 : decode c_C_afterRead 116 = .ok (.invokevirtual 188, 3) := by decide +kernel
theorem d_C_afterRead_119 : decode c_C_afterRead 119 = .ok (.aload_n 0, 1) := by decide +kernel
theorem d_C_afterRead_120 : decode c_C_afterRead 120 = .ok (.invokevirtual 161, 3) := by decide +kernel
theorem d_C_afterRead_123 : decode c_C_afterRead 123 = .ok (.goto 141, 3) := by decide +kernel
theorem d_C_afterRead_126 : decode c_C_afterRead 126 = .ok (.aload_n 0, 1) := by decide +kernel
theorem d_C_afterRead_127 : decode c_C_afterRead 127 = .ok (.iload_n 1, 1) := by decide +kernel
theorem d_C_afterRead_128 : decode c_C_afterRead 128 = .ok (.invokevirtual 191, 3) := by decide +kernel
theorem d_C_afterRead_131 : decode c_C_afterRead 131 = .ok (.goto 133, 3) := by decide +kernel
theorem d_C_afterRead_134 : decode c_C_afterRead 134 = .ok (.aload_n 0, 1) := by decide +kernel
theorem d_C_afterRead_135 : decode c_C_afterRead 135 = .ok (.invokevirtual 194, 3) := by decide +kernel
theorem d_C_afterRead_138 : decode c_C_afterRead 138 = .ok (.goto 126, 3) := by decide +kernel
theorem d_C_afterRead_141 : decode c_C_afterRead 141 = .ok (.aload_n 0, 1) := by decide +kernel
theorem d_C_afterRead_142 : decode c_C_afterRead 142 = .ok (.iload_n 1, 1) := by decide +kernel
theorem d_C_afterRead_143 : decode c_C_afterRead 143 = .ok (.invokevirtual 197, 3) := by decide +kernel
theorem d_C_afterRead_146 : decode c_C_afterRead 146 = .ok (.goto 118, 3) := by decide +kernel
theorem d_C_afterRead_149 : decode c_C_afterRead 149 = .ok (.aload_n 0, 1) := by decide +kernel
theorem d_C_afterRead_150 : decode c_C_afterRead 150 = .ok (.iload_n 1, 1) := by decide +kernel
theorem d_C_afterRead_151 : decode c_C_afterRead 151 = .ok (.invokevirtual 200, 3) := by decide +kernel
theorem d_C_afterRead_154 : decode c_C_afterRead 154 = .ok (.goto 110, 3) := by decide +kernel
theorem d_C_afterRead_157 : decode c_C_afterRead 157 = .ok (.aload_n 0, 1) := by decide +kernel
theorem d_C_afterRead_158 : decode c_C_afterRead 158 = .ok (.iload_n 1, 1) := by decide +kernel
theorem d_C_afterRead_159 : decode c_C_afterRead 159 = .ok (.invokevirtual 203, 3) := by decide +kernel
theorem d_C_afterRead_162 : decode c_C_afterRead 162 = .ok (.goto 102, 3) := by decide +kernel
theorem d_C_afterRead_165 : decode c_C_afterRead 165 = .ok (.aload_n 0, 1) := by decide +kernel
theorem d_C_afterRead_166 : decode c_C_afterRead 166 = .ok (.iload_n 1, 1) := by decide +kernel
theorem d_C_afterRead_167 : decode c_C_afterRead 167 = .ok (.invokevirtual 206, 3) := by decide +kernel
theorem d_C_afterRead_170 : decode c_C_afterRead 170 = .ok (.goto 94, 3) := by decide +kernel
theorem d_C_afterRead_173 : decode c_C_afterRead 173 = .ok (.aload_n 0, 1) := by decide +kernel
theorem d_C_afterRead_174 : decode c_C_afterRead 174 = .ok (.aload_n 0, 1) := by decide +kernel
theorem d_C_afterRead_175 : decode c_C_afterRead 175 = .ok (.getfield 209, 3) := by decide +kernel
theorem d_C_afterRead_178 : decode c_C_afterRead 178 = .ok (.invokevirtual 212, 3) := by decide +kernel
theorem d_C_afterRead_181 : decode c_C_afterRead 181 = .ok (.goto 83, 3) := by decide +kernel
theorem d_C_afterRead_184 : decode c_C_afterRead 184 = .ok (.aload_n 0, 1) := by decide +kernel
theorem d_C_afterRead_185 : decode c_C_afterRead 185 = .ok (.getfield 20, 3) := by decide +kernel
theorem d_C_afterRead_188 : decode c_C_afterRead 188 = .ok (.aload_n 0, 1) := by decide +kernel
theorem d_C_afterRead_189 : decode c_C_afterRead 189 = .ok (.getfield 144, 3) := by decide +kernel
theorem d_C_afterRead_192 : decode c_C_afterRead 192 = .ok (.iload_n 1, 1) := by decide +kernel
theorem d_C_afterRead_193 : decode c_C_afterRead 193 = .ok (.invokevirtual 188, 3) := by decide +kernel
theorem d_C_afterRead_196 : decode c_C_afterRead 196 = .ok (.aload_n 0, 1) := by decide +kernel
theorem d_C_afterRead_197 : decode c_C_afterRead 197 = .ok (.invokevirtual 161, 3) := by decide +kernel
theorem d_C_afterRead_200 : decode c_C_afterRead 200 = .ok (.goto 64, 3) := by decide +kernel
theorem d_C_afterRead_203 : decode c_C_afterRead 203 = .ok (.aload_n 0, 1) := by decide +kernel
theorem d_C_afterRead_204 : decode c_C_afterRead 204 = .ok (.iload_n 1, 1) := by decide +kernel
theorem d_C_afterRead_205 : decode c_C_afterRead 205 = .ok (.invokevirtual 215, 3) := by decide +kernel
theorem d_C_afterRead_208 : decode c_C_afterRead 208 = .ok (.goto 56, 3) := by decide +kernel
theorem d_C_afterRead_211 : decode c_C_afterRead 211 = .ok (.aload_n 0, 1) := by decide +kernel
theorem d_C_afterRead_212 : decode c_C_afterRead 212 = .ok (.iload_n 1, 1) := by decide +kernel
theorem d_C_afterRead_213 : decode c_C_afterRead 213 = .ok (.invokevirtual 218, 3) := by decide +kernel
theorem d_C_afterRead_216 : decode c_C_afterRead 216 = .ok (.goto 48, 3) := by decide +kernel
theorem d_C_afterRead_219 : decode c_C_afterRead 219 = .ok (.aload_n 0, 1) := by decide +kernel
theorem d_C_afterRead_220 : decode c_C_afterRead 220 = .ok (.invokevirtual 221, 3) := by decide +kernel
theorem d_C_afterRead_223 : decode c_C_afterRead 223 = .ok (.goto 41, 3) := by decide +kernel
theorem d_C_afterRead_226 : decode c_C_afterRead 226 = .ok (.aload_n 0, 1) := by decide +kernel
theorem d_C_afterRead_227 : decode c_C_afterRead 227 = .ok (.aload_n 0, 1) := by decide +kernel
theorem d_C_afterRead_228 : decode c_C_afterRead 228 = .ok (.getfield 209, 3) := by decide +kernel
theorem d_C_afterRead_231 : decode c_C_afterRead 231 = .ok (.invokevirtual 224, 3) := by decide +kernel
theorem d_C_afterRead_234 : decode c_C_afterRead 234 = .ok (.goto 30, 3) := by decide +kernel
theorem d_C_afterRead_237 : decode c_C_afterRead 237 = .ok (.aload_n 0, 1) := by decide +kernel
theorem d_C_afterRead_238 : decode c_C_afterRead 238 = .ok (.invokevirtual 227, 3) := by decide +kernel
theorem d_C_afterRead_241 : decode c_C_afterRead 241 = .ok (.goto 23, 3) := by decide +kernel
theorem d_C_afterRead_244 : decode c_C_afterRead 244 = .ok (.aload_n 0, 1) := by decide +kernel
theorem d_C_afterRead_245 : decode c_C_afterRead 245 = .ok (.invokevirtual 230, 3) := by decide +kernel
theorem d_C_afterRead_248 : decode c_C_afterRead 248 = .ok (.goto 16, 3) := by decide +kernel
theorem d_C_afterRead_251 : decode c_C_afterRead 251 = .ok (.aload_n 0, 1) := by decide +kernel
theorem d_C_afterRead_252 : decode c_C_afterRead 252 = .ok (.iconst 1, 1) := by decide +kernel
theorem d_C_afterRead_253 : decode c_C_afterRead 253 = .ok (.putfield 95, 3) := by decide +kernel
theorem d_C_afterRead_256 : decode c_C_afterRead 256 = .ok (.goto 8, 3) := by decide +kernel
theorem d_C_afterRead_259 : decode c_C_afterRead 259 = .ok (.aload_n 0, 1) := by decide +kernel
theorem d_C_afterRead_260 : decode c_C_afterRead 260 = .ok (.iload_n 1, 1) := by decide +kernel
theorem d_C_afterRead_261 : decode c_C_afterRead 261 = .ok (.invokevirtual 233, 3) := by decide +kernel
theorem d_C_afterRead_264 : decode c_C_afterRead 264 = .ok (.return_, 1) := by decide +kernel
theorem d_C_afterFetch_0 : decode c_C_afterFetch 0 = .ok (.aload_n 0, 1) := by decide +kernel
theorem d_C_afterFetch_1 : decode c_C_afterFetch 1 = .ok (.getfield 20, 3) := by decide +kernel
theorem d_C_afterFetch_4 : decode c_C_afterFetch 4 = .ok (.invokevirtual 185, 3) := by decide +kernel
theorem d_C_afterFetch_7 : decode c_C_afterFetch 7 = .ok (.aload_n 0, 1) := by decide +kernel
theorem d_C_afterFetch_8 : decode c_C_afterFetch 8 = .ok (.iload_n 1, 1) := by decide +kernel
theorem d_C_afterFetch_9 : decode c_C_afterFetch 9 = .ok (.iconst 3, 1) := by decide +kernel
theorem d_C_afterFetch_10 : decode c_C_afterFetch 10 = .ok (.ishr, 1) := by decide +kernel
theorem d_C_afterFetch_11 : decode c_C_afterFetch 11 = .ok (.putfield 144, 3) := by decide +kernel
theorem d_C_afterFetch_14 : decode c_C_afterFetch 14 = .ok (.aload_n 0, 1) := by decide +kernel
theorem d_C_afterFetch_15 : decode c_C_afterFetch 15 = .ok (.iload_n 1, 1) := by decide +kernel
theorem d_C_afterFetch_16 : decode c_C_afterFetch 16 = .ok (.bipush 7, 2) := by decide +kernel
theorem d_C_afterFetch_18 : decode c_C_afterFetch 18 = .ok (.iand, 1) := by decide +kernel
theorem d_C_afterFetch_19 : decode c_C_afterFetch 19 = .ok (.putfield 274, 3) := by decide +kernel
theorem d_C_afterFetch_22 : decode c_C_afterFetch 22 = .ok (.aload_n 0, 1) := by decide +kernel
theorem d_C_afterFetch_23 : decode c_C_afterFetch 23 = .ok (.aload_n 0, 1) := by decide +kernel
theorem d_C_afterFetch_24 : decode c_C_afterFetch 24 = .ok (.getfield 274, 3) := by decide +kernel
theorem d_C_afterFetch_27 : decode c_C_afterFetch 27 = .ok (.bipush 7, 2) := by decide +kernel
theorem d_C_afterFetch_29 : decode c_C_afterFetch 29 = .ok (.if_icmp .ne 10, 3) := by decide +kernel
theorem d_C_afterFetch_32 : decode c_C_afterFetch 32 = .ok (.aload_n 0, 1) := by decide +kernel
theorem d_C_afterFetch_33 : decode c_C_afterFetch 33 = .ok (.invokevirtual 277, 3) := by decide +kernel
theorem d_C_afterFetch_36 : decode c_C_afterFetch 36 = .ok (.goto 7, 3) := by decide +kernel
theorem d_C_afterFetch_39 : decode c_C_afterFetch 39 = .ok (.aload_n 0, 1) := by decide +kernel
theorem d_C_afterFetch_40 : decode c_C_afterFetch 40 = .ok (.invokevirtual 281, 3) := by decide +kernel
theorem d_C_afterFetch_43 : decode c_C_afterFetch 43 = .ok (.putfield 39, 3) := by decide +kernel
theorem d_C_afterFetch_46 : decode c_C_afterFetch 46 = .ok (.aload_n 0, 1) := by decide +kernel
theorem d_C_afterFetch_47 : decode c_C_afterFetch 47 = .ok (.aload_n 0, 1) := by decide +kernel
theorem d_C_afterFetch_48 : decode c_C_afterFetch 48 = .ok (.invokevirtual 284, 3) := by decide +kernel
theorem d_C_afterFetch_51 : decode c_C_afterFetch 51 = .ok (.putfield 30, 3) := by decide +kernel
theorem d_C_afterFetch_54 : decode c_C_afterFetch 54 = .ok (.return_, 1) := by decide +kernel
theorem d_C_kindWithoutOperand_0 : decode c_C_kindWithoutOperand 0 = .ok (.aload_n 0, 1) := by decide +kernel
theorem d_C_kindWithoutOperand_1 : decode c_C_kindWithoutOperand 1 = .ok (.getfield 144, 3) := by decide +kernel
theorem d_C_kindWithoutOperand_4 : decode c_C_kindWithoutOperand 4 = .ok (.bipush 15, 2) := by decide +kernel
theorem d_C_kindWithoutOperand_6 : decode c_C_kindWithoutOperand 6 = .ok (.if_icmp .gt 7, 3) := by decide +kernel
theorem d_C_kindWithoutOperand_9 : decode c_C_kindWithoutOperand 9 = .ok (.getstatic 305, 3) := by decide +kernel
theorem d_C_kindWithoutOperand_12 : decode c_C_kindWithoutOperand 12 = .ok (.areturn, 1) := by decide +kernel
theorem d_C_kindWithoutOperand_13 : decode c_C_kindWithoutOperand 13 = .ok (.aload_n 0, 1) := by decide +kernel
theorem d_C_kindWithoutOperand_14 : decode c_C_kindWithoutOperand 14 = .ok (.getfield 144, 3) := by decide +kernel
theorem d_C_kindWithoutOperand_17 : decode c_C_kindWithoutOperand 17 = .ok (.tableswitch 73 16 22 #[43, 49, 43, 49, 55, 61, 67], 43) := by decide +kernel
theorem d_C_kindWithoutOperand_60 : decode c_C_kindWithoutOperand 60 = .ok (.getstatic 308, 3) := by decide +kernel
theorem d_C_kindWithoutOperand_63 : decode c_C_kindWithoutOperand 63 = .ok (.goto 30, 3) := by decide +kernel
theorem d_C_kindWithoutOperand_66 : decode c_C_kindWithoutOperand 66 = .ok (.getstatic 311, 3) := by decide +kernel
theorem d_C_kindWithoutOperand_69 : decode c_C_kindWithoutOperand 69 = .ok (.goto 24, 3) := by decide +kernel
theorem d_C_kindWithoutOperand_72 : decode c_C_kindWithoutOperand 72 = .ok (.getstatic 314, 3) := by decide +kernel
theorem d_C_kindWithoutOperand_75 : decode c_C_kindWithoutOperand 75 = .ok (.goto 18, 3) := by decide +kernel
theorem d_C_kindWithoutOperand_78 : decode c_C_kindWithoutOperand 78 = .ok (.getstatic 317, 3) := by decide +kernel
theorem d_C_kindWithoutOperand_81 : decode c_C_kindWithoutOperand 81 = .ok (.goto 12, 3) := by decide +kernel
theorem d_C_kindWithoutOperand_84 : decode c_C_kindWithoutOperand 84 = .ok (.getstatic 151, 3) := by decide +kernel
theorem d_C_kindWithoutOperand_87 : decode c_C_kindWithoutOperand 87 = .ok (.goto 6, 3) := by decide +kernel
theorem d_C_kindWithoutOperand_90 : decode c_C_kindWithoutOperand 90 = .ok (.getstatic 287, 3) := by decide +kernel
theorem d_C_kindWithoutOperand_93 : decode c_C_kindWithoutOperand 93 = .ok (.areturn, 1) := by decide +kernel
theorem d_C_kindWithOperand_0 : decode c_C_kindWithOperand 0 = .ok (.aload_n 0, 1) := by decide +kernel
theorem d_C_kindWithOperand_1 : decode c_C_kindWithOperand 1 = .ok (.getfield 144, 3) := by decide +kernel
theorem d_C_kindWithOperand_4 : decode c_C_kindWithOperand 4 = .ok (.iconst 1, 1) := by decide +kernel
theorem d_C_kindWithOperand_5 : decode c_C_kindWithOperand 5 = .ok (.if_icmp .ne 20, 3) := by decide +kernel
theorem d_C_kindWithOperand_8 : decode c_C_kindWithOperand 8 = .ok (.aload_n 0, 1) := by decide +kernel
theorem d_C_kindWithOperand_9 : decode c_C_kindWithOperand 9 = .ok (.getfield 274, 3) := by decide +kernel
theorem d_C_kindWithOperand_12 : decode c_C_kindWithOperand 12 = .ok (.ifCond .ne 9, 3) := by decide +kernel
theorem d_C_kindWithOperand_15 : decode c_C_kindWithOperand 15 = .ok (.getstatic 287, 3) := by decide +kernel
theorem d_C_kindWithOperand_18 : decode c_C_kindWithOperand 18 = .ok (.goto 6, 3) := by decide +kernel
theorem d_C_kindWithOperand_21 : decode c_C_kindWithOperand 21 = .ok (.getstatic 290, 3) := by decide +kernel
theorem d_C_kindWithOperand_24 : decode c_C_kindWithOperand 24 = .ok (.areturn, 1) := by decide +kernel
theorem d_C_kindWithOperand_25 : decode c_C_kindWithOperand 25 = .ok (.aload_n 0, 1) := by decide +kernel
theorem d_C_kindWithOperand_26 : decode c_C_kindWithOperand 26 = .ok (.getfield 144, 3) := by decide +kernel
theorem d_C_kindWithOperand_29 : decode c_C_kindWithOperand 29 = .ok (.bipush 9, 2) := by decide +kernel
theorem d_C_kindWithOperand_31 : decode c_C_kindWithOperand 31 = .ok (.if_icmp .gt 7, 3) := by decide +kernel
theorem d_C_kindWithOperand_34 : decode c_C_kindWithOperand 34 = .ok (.getstatic 293, 3) := by decide +kernel
theorem d_C_kindWithOperand_37 : decode c_C_kindWithOperand 37 = .ok (.areturn, 1) := by decide +kernel
theorem d_C_kindWithOperand_38 : decode c_C_kindWithOperand 38 = .ok (.aload_n 0, 1) := by decide +kernel
theorem d_C_kindWithOperand_39 : decode c_C_kindWithOperand 39 = .ok (.getfield 144, 3) := by decide +kernel
theorem d_C_kindWithOperand_42 : decode c_C_kindWithOperand 42 = .ok (.bipush 13, 2) := by decide +kernel
theorem d_C_kindWithOperand_44 : decode c_C_kindWithOperand 44 = .ok (.if_icmp .gt 29, 3) := by decide +kernel
theorem d_C_kindWithOperand_47 : decode c_C_kindWithOperand 47 = .ok (.aload_n 0, 1) := by decide +kernel
theorem d_C_kindWithOperand_48 : decode c_C_kindWithOperand 48 = .ok (.getfield 274, 3) := by decide +kernel
theorem d_C_kindWithOperand_51 : decode c_C_kindWithOperand 51 = .ok (.iconst 1, 1) := by decide +kernel
theorem d_C_kindWithOperand_52 : decode c_C_kindWithOperand 52 = .ok (.if_icmp .lt 17, 3) := by decide +kernel
theorem d_C_kindWithOperand_55 : decode c_C_kindWithOperand 55 = .ok (.aload_n 0, 1) := by decide +kernel
theorem d_C_kindWithOperand_56 : decode c_C_kindWithOperand 56 = .ok (.getfield 274, 3) := by decide +kernel
theorem d_C_kindWithOperand_59 : decode c_C_kindWithOperand 59 = .ok (.iconst 4, 1) := by decide +kernel
theorem d_C_kindWithOperand_60 : decode c_C_kindWithOperand 60 = .ok (.if_icmp .gt 9, 3) := by decide +kernel
theorem d_C_kindWithOperand_63 : decode c_C_kindWithOperand 63 = .ok (.getstatic 296, 3) := by decide +kernel
theorem d_C_kindWithOperand_66 : decode c_C_kindWithOperand 66 = .ok (.goto 6, 3) := by decide +kernel
theorem d_C_kindWithOperand_69 : decode c_C_kindWithOperand 69 = .ok (.getstatic 287, 3) := by decide +kernel
theorem d_C_kindWithOperand_72 : decode c_C_kindWithOperand 72 = .ok (.areturn, 1) := by decide +kernel
theorem d_C_kindWithOperand_73 : decode c_C_kindWithOperand 73 = .ok (.aload_n 0, 1) := by decide +kernel
theorem d_C_kindWithOperand_74 : decode c_C_kindWithOperand 74 = .ok (.getfield 274, 3) := by decide +kernel
theorem d_C_kindWithOperand_77 : decode c_C_kindWithOperand 77 = .ok (.ifCond .ne 25, 3) := by decide +kernel
theorem d_C_kindWithOperand_80 : decode c_C_kindWithOperand 80 = .ok (.aload_n 0, 1) := by decide +kernel
theorem d_C_kindWithOperand_81 : decode c_C_kindWithOperand 81 = .ok (.getfield 144, 3) := by decide +kernel
theorem d_C_kindWithOperand_84 : decode c_C_kindWithOperand 84 = .ok (.bipush 16, 2) := by decide +kernel
theorem d_C_kindWithOperand_86 : decode c_C_kindWithOperand 86 = .ok (.if_icmp .lt 16, 3) := by decide +kernel
theorem d_C_kindWithOperand_89 : decode c_C_kindWithOperand 89 = .ok (.aload_n 0, 1) := by decide +kernel
theorem d_C_kindWithOperand_90 : decode c_C_kindWithOperand 90 = .ok (.getfield 144, 3) := by decide +kernel
theorem d_C_kindWithOperand_93 : decode c_C_kindWithOperand 93 = .ok (.bipush 23, 2) := by decide +kernel
theorem d_C_kindWithOperand_95 : decode c_C_kindWithOperand 95 = .ok (.if_icmp .gt 7, 3) := by decide +kernel
theorem d_C_kindWithOperand_98 : decode c_C_kindWithOperand 98 = .ok (.getstatic 299, 3) := by decide +kernel
theorem d_C_kindWithOperand_101 : decode c_C_kindWithOperand 101 = .ok (.areturn, 1) := by decide +kernel
theorem d_C_kindWithOperand_102 : decode c_C_kindWithOperand 102 = .ok (.aload_n 0, 1) := by decide +kernel
theorem d_C_kindWithOperand_103 : decode c_C_kindWithOperand 103 = .ok (.getfield 274, 3) := by decide +kernel
theorem d_C_kindWithOperand_106 : decode c_C_kindWithOperand 106 = .ok (.iconst 3, 1) := by decide +kernel
theorem d_C_kindWithOperand_107 : decode c_C_kindWithOperand 107 = .ok (.if_icmp .ne 16, 3) := by decide +kernel
theorem d_C_kindWithOperand_110 : decode c_C_kindWithOperand 110 = .ok (.aload_n 0, 1) := by decide +kernel
theorem d_C_kindWithOperand_111 : decode c_C_kindWithOperand 111 = .ok (.getfield 144, 3) := by decide +kernel
theorem d_C_kindWithOperand_114 : decode c_C_kindWithOperand 114 = .ok (.bipush 24, 2) := by decide +kernel
theorem d_C_kindWithOperand_116 : decode c_C_kindWithOperand 116 = .ok (.if_icmp .ne 7, 3) := by decide +kernel
theorem d_C_kindWithOperand_119 : decode c_C_kindWithOperand 119 = .ok (.getstatic 302, 3) := by decide +kernel
theorem d_C_kindWithOperand_122 : decode c_C_kindWithOperand 122 = .ok (.areturn, 1) := by decide +kernel
theorem d_C_kindWithOperand_123 : decode c_C_kindWithOperand 123 = .ok (.aload_n 0, 1) := by decide +kernel
theorem d_C_kindWithOperand_124 : decode c_C_kindWithOperand 124 = .ok (.getfield 274, 3) := by decide +kernel
theorem d_C_kindWithOperand_127 : decode c_C_kindWithOperand 127 = .ok (.iconst 3, 1) := by decide +kernel
theorem d_C_kindWithOperand_128 : decode c_C_kindWithOperand 128 = .ok (.if_icmp .ne 18, 3) := by decide +kernel
theorem d_C_kindWithOperand_131 : decode c_C_kindWithOperand 131 = .ok (.aload_n 0, 1) := by decide +kernel
theorem d_C_kindWithOperand_132 : decode c_C_kindWithOperand 132 = .ok (.getfield 144, 3) := by decide +kernel
theorem d_C_kindWithOperand_135 : decode c_C_kindWithOperand 135 = .ok (.bipush 25, 2) := by decide +kernel
theorem d_C_kindWithOperand_137 : decode c_C_kindWithOperand 137 = .ok (.if_icmp .ne 9, 3) := by decide +kernel
theorem d_C_kindWithOperand_140 : decode c_C_kindWithOperand 140 = .ok (.getstatic 170, 3) := by decide +kernel
theorem d_C_kindWithOperand_143 : decode c_C_kindWithOperand 143 = .ok (.goto 6, 3) := by decide +kernel
theorem d_C_kindWithOperand_146 : decode c_C_kindWithOperand 146 = .ok (.getstatic 287, 3) := by decide +kernel
theorem d_C_kindWithOperand_149 : decode c_C_kindWithOperand 149 = .ok (.areturn, 1) := by decide +kernel
theorem d_C_secondStep_0 : decode c_C_secondStep 0 = .ok (.getstatic 320, 3) := by decide +kernel
theorem d_C_secondStep_3 : decode c_C_secondStep 3 = .ok (.aload_n 0, 1) := by decide +kernel
theorem d_C_secondStep_4 : decode c_C_secondStep 4 = .ok (.getfield 39, 3) := by decide +kernel
theorem d_C_secondStep_7 : decode c_C_secondStep 7 = .ok (.invokevirtual 323, 3) := by decide +kernel
theorem d_C_secondStep_10 : decode c_C_secondStep 10 = .ok (.iaload, 1) := by decide +kernel
theorem d_C_secondStep_11 : decode c_C_secondStep 11 = .ok (.tableswitch 76 1 8 #[45, 45, 45, 52, 58, 58, 64, 70], 45) := by decide +kernel
theorem d_C_secondStep_56 : decode c_C_secondStep 56 = .ok (.aload_n 0, 1) := by decide +kernel
theorem d_C_secondStep_57 : decode c_C_secondStep 57 = .ok (.invokevirtual 324, 3) := by decide +kernel
theorem d_C_secondStep_60 : decode c_C_secondStep 60 = .ok (.goto 30, 3) := by decide +kernel
theorem d_C_secondStep_63 : decode c_C_secondStep 63 = .ok (.getstatic 327, 3) := by decide +kernel
theorem d_C_secondStep_66 : decode c_C_secondStep 66 = .ok (.goto 24, 3) := by decide +kernel
theorem d_C_secondStep_69 : decode c_C_secondStep 69 = .ok (.getstatic 330, 3) := by decide +kernel
theorem d_C_secondStep_72 : decode c_C_secondStep 72 = .ok (.goto 18, 3) := by decide +kernel
theorem d_C_secondStep_75 : decode c_C_secondStep 75 = .ok (.getstatic 333, 3) := by decide +kernel
theorem d_C_secondStep_78 : decode c_C_secondStep 78 = .ok (.goto 12, 3) := by decide +kernel
theorem d_C_secondStep_81 : decode c_C_secondStep 81 = .ok (.getstatic 92, 3) := by decide +kernel
theorem d_C_secondStep_84 : decode c_C_secondStep 84 = .ok (.goto 6, 3) := by decide +kernel
theorem d_C_secondStep_87 : decode c_C_secondStep 87 = .ok (.getstatic 336, 3) := by decide +kernel
theorem d_C_secondStep_90 : decode c_C_secondStep 90 = .ok (.areturn, 1) := by decide +kernel
theorem d_C_secondStepByMode_0 : decode c_C_secondStepByMode 0 = .ok (.aload_n 0, 1) := by decide +kernel
theorem d_C_secondStepByMode_1 : decode c_C_secondStepByMode 1 = .ok (.getfield 274, 3) := by decide +kernel
theorem d_C_secondStepByMode_4 : decode c_C_secondStepByMode 4 = .ok (.tableswitch 48 0 4 #[36, 48, 48, 42, 42], 36) := by decide +kernel
theorem d_C_secondStepByMode_40 : decode c_C_secondStepByMode 40 = .ok (.getstatic 339, 3) := by decide +kernel
theorem d_C_secondStepByMode_43 : decode c_C_secondStepByMode 43 = .ok (.goto 12, 3) := by decide +kernel
theorem d_C_secondStepByMode_46 : decode c_C_secondStepByMode 46 = .ok (.getstatic 330, 3) := by decide +kernel
theorem d_C_secondStepByMode_49 : decode c_C_secondStepByMode 49 = .ok (.goto 6, 3) := by decide +kernel
theorem d_C_secondStepByMode_52 : decode c_C_secondStepByMode 52 = .ok (.getstatic 342, 3) := by decide +kernel
theorem d_C_secondStepByMode_55 : decode c_C_secondStepByMode 55 = .ok (.areturn, 1) := by decide +kernel
theorem d_C_afterZeroByte_0 : decode c_C_afterZeroByte 0 = .ok (.aload_n 0, 1) := by decide +kernel
theorem d_C_afterZeroByte_1 : decode c_C_afterZeroByte 1 = .ok (.getfield 20, 3) := by decide +kernel
theorem d_C_afterZeroByte_4 : decode c_C_afterZeroByte 4 = .ok (.invokevirtual 185, 3) := by decide +kernel
theorem d_C_afterZeroByte_7 : decode c_C_afterZeroByte 7 = .ok (.aload_n 0, 1) := by decide +kernel
theorem d_C_afterZeroByte_8 : decode c_C_afterZeroByte 8 = .ok (.getfield 274, 3) := by decide +kernel
theorem d_C_afterZeroByte_11 : decode c_C_afterZeroByte 11 = .ok (.iconst 1, 1) := by decide +kernel
theorem d_C_afterZeroByte_12 : decode c_C_afterZeroByte 12 = .ok (.if_icmp .ne 11, 3) := by decide +kernel
theorem d_C_afterZeroByte_15 : decode c_C_afterZeroByte 15 = .ok (.aload_n 0, 1) := by decide +kernel
theorem d_C_afterZeroByte_16 : decode c_C_afterZeroByte 16 = .ok (.iload_n 1, 1) := by decide +kernel
theorem d_C_afterZeroByte_17 : decode c_C_afterZeroByte 17 = .ok (.invokevirtual 212, 3) := by decide +kernel
theorem d_C_afterZeroByte_20 : decode c_C_afterZeroByte 20 = .ok (.goto 37, 3) := by decide +kernel
theorem d_C_afterZeroByte_23 : decode c_C_afterZeroByte 23 = .ok (.aload_n 0, 1) := by decide +kernel
theorem d_C_afterZeroByte_24 : decode c_C_afterZeroByte 24 = .ok (.iload_n 1, 1) := by decide +kernel
theorem d_C_afterZeroByte_25 : decode c_C_afterZeroByte 25 = .ok (.putfield 127, 3) := by decide +kernel
theorem d_C_afterZeroByte_28 : decode c_C_afterZeroByte 28 = .ok (.aload_n 0, 1) := by decide +kernel
theorem d_C_afterZeroByte_29 : decode c_C_afterZeroByte 29 = .ok (.aload_n 0, 1) := by decide +kernel
theorem d_C_afterZeroByte_30 : decode c_C_afterZeroByte 30 = .ok (.getfield 274, 3) := by decide +kernel
theorem d_C_afterZeroByte_33 : decode c_C_afterZeroByte 33 = .ok (.iconst 2, 1) := by decide +kernel
theorem d_C_afterZeroByte_34 : decode c_C_afterZeroByte 34 = .ok (.if_icmp .eq 11, 3) := by decide +kernel
theorem d_C_afterZeroByte_37 : decode c_C_afterZeroByte 37 = .ok (.aload_n 0, 1) := by decide +kernel
theorem d_C_afterZeroByte_38 : decode c_C_afterZeroByte 38 = .ok (.getfield 274, 3) := by decide +kernel
theorem d_C_afterZeroByte_41 : decode c_C_afterZeroByte 41 = .ok (.iconst 5, 1) := by decide +kernel
theorem d_C_afterZeroByte_42 : decode c_C_afterZeroByte 42 = .ok (.if_icmp .ne 9, 3) := by decide +kernel
theorem d_C_afterZeroByte_45 : decode c_C_afterZeroByte 45 = .ok (.getstatic 345, 3) := by decide +kernel
theorem d_C_afterZeroByte_48 : decode c_C_afterZeroByte 48 = .ok (.goto 6, 3) := by decide +kernel
theorem d_C_afterZeroByte_51 : decode c_C_afterZeroByte 51 = .ok (.getstatic 348, 3) := by decide +kernel
theorem d_C_afterZeroByte_54 : decode c_C_afterZeroByte 54 = .ok (.putfield 30, 3) := by decide +kernel
theorem d_C_afterZeroByte_57 : decode c_C_afterZeroByte 57 = .ok (.return_, 1) := by decide +kernel
theorem d_C_accessOperandAt_0 : decode c_C_accessOperandAt 0 = .ok (.aload_n 0, 1) := by decide +kernel
theorem d_C_accessOperandAt_1 : decode c_C_accessOperandAt 1 = .ok (.iload_n 1, 1) := by decide +kernel
theorem d_C_accessOperandAt_2 : decode c_C_accessOperandAt 2 = .ok (.putfield 127, 3) := by decide +kernel
theorem d_C_accessOperandAt_5 : decode c_C_accessOperandAt 5 = .ok (.aload_n 0, 1) := by decide +kernel
theorem d_C_accessOperandAt_6 : decode c_C_accessOperandAt 6 = .ok (.getstatic 320, 3) := by decide +kernel
theorem d_C_accessOperandAt_9 : decode c_C_accessOperandAt 9 = .ok (.aload_n 0, 1) := by decide +kernel
theorem d_C_accessOperandAt_10 : decode c_C_accessOperandAt 10 = .ok (.getfield 39, 3) := by decide +kernel
theorem d_C_accessOperandAt_13 : decode c_C_accessOperandAt 13 = .ok (.invokevirtual 323, 3) := by decide +kernel
theorem d_C_accessOperandAt_16 : decode c_C_accessOperandAt 16 = .ok (.iaload, 1) := by decide +kernel
theorem d_C_accessOperandAt_17 : decode c_C_accessOperandAt 17 = .ok (.lookupswitch 39 #[(2, 27), (3, 33)], 27) := by decide +kernel
theorem d_C_accessOperandAt_44 : decode c_C_accessOperandAt 44 = .ok (.getstatic 363, 3) := by decide +kernel
theorem d_C_accessOperandAt_47 : decode c_C_accessOperandAt 47 = .ok (.goto 12, 3) := by decide +kernel
theorem d_C_accessOperandAt_50 : decode c_C_accessOperandAt 50 = .ok (.getstatic 365, 3) := by decide +kernel
theorem d_C_accessOperandAt_53 : decode c_C_accessOperandAt 53 = .ok (.goto 6, 3) := by decide +kernel
theorem d_C_accessOperandAt_56 : decode c_C_accessOperandAt 56 = .ok (.getstatic 368, 3) := by decide +kernel
theorem d_C_accessOperandAt_59 : decode c_C_accessOperandAt 59 = .ok (.putfield 30, 3) := by decide +kernel
theorem d_C_accessOperandAt_62 : decode c_C_accessOperandAt 62 = .ok (.return_, 1) := by decide +kernel
theorem d_C_afterZeroIdle_0 : decode c_C_afterZeroIdle 0 = .ok (.aload_n 0, 1) := by decide +kernel
theorem d_C_afterZeroIdle_1 : decode c_C_afterZeroIdle 1 = .ok (.getfield 127, 3) := by decide +kernel
theorem d_C_afterZeroIdle_4 : decode c_C_afterZeroIdle 4 = .ok (.aload_n 0, 1) := by decide +kernel
theorem d_C_afterZeroIdle_5 : decode c_C_afterZeroIdle 5 = .ok (.getfield 20, 3) := by decide +kernel
theorem d_C_afterZeroIdle_8 : decode c_C_afterZeroIdle 8 = .ok (.getfield 77, 3) := by decide +kernel
theorem d_C_afterZeroIdle_11 : decode c_C_afterZeroIdle 11 = .ok (.iadd, 1) := by decide +kernel
theorem d_C_afterZeroIdle_12 : decode c_C_afterZeroIdle 12 = .ok (.sipush 255, 3) := by decide +kernel
theorem d_C_afterZeroIdle_15 : decode c_C_afterZeroIdle 15 = .ok (.iand, 1) := by decide +kernel
theorem d_C_afterZeroIdle_16 : decode c_C_afterZeroIdle 16 = .ok (.istore_n 1, 1) := by decide +kernel
theorem d_C_afterZeroIdle_17 : decode c_C_afterZeroIdle 17 = .ok (.aload_n 0, 1) := by decide +kernel
theorem d_C_afterZeroIdle_18 : decode c_C_afterZeroIdle 18 = .ok (.getfield 274, 3) := by decide +kernel
theorem d_C_afterZeroIdle_21 : decode c_C_afterZeroIdle 21 = .ok (.iconst 2, 1) := by decide +kernel
theorem d_C_afterZeroIdle_22 : decode c_C_afterZeroIdle 22 = .ok (.if_icmp .ne 11, 3) := by decide +kernel
theorem d_C_afterZeroIdle_25 : decode c_C_afterZeroIdle 25 = .ok (.aload_n 0, 1) := by decide +kernel
theorem d_C_afterZeroIdle_26 : decode c_C_afterZeroIdle 26 = .ok (.iload_n 1, 1) := by decide +kernel
theorem d_C_afterZeroIdle_27 : decode c_C_afterZeroIdle 27 = .ok (.invokevirtual 212, 3) := by decide +kernel
theorem d_C_afterZeroIdle_30 : decode c_C_afterZeroIdle 30 = .ok (.goto 15, 3) := by decide +kernel
theorem d_C_afterZeroIdle_33 : decode c_C_afterZeroIdle 33 = .ok (.aload_n 0, 1) := by decide +kernel
theorem d_C_afterZeroIdle_34 : decode c_C_afterZeroIdle 34 = .ok (.iload_n 1, 1) := by decide +kernel
theorem d_C_afterZeroIdle_35 : decode c_C_afterZeroIdle 35 = .ok (.putfield 127, 3) := by decide +kernel
theorem d_C_afterZeroIdle_38 : decode c_C_afterZeroIdle 38 = .ok (.aload_n 0, 1) := by decide +kernel
theorem d_C_afterZeroIdle_39 : decode c_C_afterZeroIdle 39 = .ok (.getstatic 348, 3) := by decide +kernel
theorem d_C_afterZeroIdle_42 : decode c_C_afterZeroIdle 42 = .ok (.putfield 30, 3) := by decide +kernel
theorem d_C_afterZeroIdle_45 : decode c_C_afterZeroIdle 45 = .ok (.return_, 1) := by decide +kernel
theorem d_C_afterPointerLow_0 : decode c_C_afterPointerLow 0 = .ok (.aload_n 0, 1) := by decide +kernel
theorem d_C_afterPointerLow_1 : decode c_C_afterPointerLow 1 = .ok (.iload_n 1, 1) := by decide +kernel
theorem d_C_afterPointerLow_2 : decode c_C_afterPointerLow 2 = .ok (.putfield 141, 3) := by decide +kernel
theorem d_C_afterPointerLow_5 : decode c_C_afterPointerLow 5 = .ok (.aload_n 0, 1) := by decide +kernel
theorem d_C_afterPointerLow_6 : decode c_C_afterPointerLow 6 = .ok (.aload_n 0, 1) := by decide +kernel
theorem d_C_afterPointerLow_7 : decode c_C_afterPointerLow 7 = .ok (.getfield 127, 3) := by decide +kernel
theorem d_C_afterPointerLow_10 : decode c_C_afterPointerLow 10 = .ok (.iconst 1, 1) := by decide +kernel
theorem d_C_afterPointerLow_11 : decode c_C_afterPointerLow 11 = .ok (.iadd, 1) := by decide +kernel
theorem d_C_afterPointerLow_12 : decode c_C_afterPointerLow 12 = .ok (.sipush 255, 3) := by decide +kernel
theorem d_C_afterPointerLow_15 : decode c_C_afterPointerLow 15 = .ok (.iand, 1) := by decide +kernel
theorem d_C_afterPointerLow_16 : decode c_C_afterPointerLow 16 = .ok (.putfield 127, 3) := by decide +kernel
theorem d_C_afterPointerLow_19 : decode c_C_afterPointerLow 19 = .ok (.aload_n 0, 1) := by decide +kernel
theorem d_C_afterPointerLow_20 : decode c_C_afterPointerLow 20 = .ok (.getstatic 351, 3) := by decide +kernel
theorem d_C_afterPointerLow_23 : decode c_C_afterPointerLow 23 = .ok (.putfield 30, 3) := by decide +kernel
theorem d_C_afterPointerLow_26 : decode c_C_afterPointerLow 26 = .ok (.return_, 1) := by decide +kernel
theorem d_C_afterPointerPage_0 : decode c_C_afterPointerPage 0 = .ok (.aload_n 0, 1) := by decide +kernel
theorem d_C_afterPointerPage_1 : decode c_C_afterPointerPage 1 = .ok (.getfield 274, 3) := by decide +kernel
theorem d_C_afterPointerPage_4 : decode c_C_afterPointerPage 4 = .ok (.iconst 5, 1) := by decide +kernel
theorem d_C_afterPointerPage_5 : decode c_C_afterPointerPage 5 = .ok (.if_icmp .ne 20, 3) := by decide +kernel
theorem d_C_afterPointerPage_8 : decode c_C_afterPointerPage 8 = .ok (.aload_n 0, 1) := by decide +kernel
theorem d_C_afterPointerPage_9 : decode c_C_afterPointerPage 9 = .ok (.aload_n 0, 1) := by decide +kernel
theorem d_C_afterPointerPage_10 : decode c_C_afterPointerPage 10 = .ok (.getfield 141, 3) := by decide +kernel
theorem d_C_afterPointerPage_13 : decode c_C_afterPointerPage 13 = .ok (.sipush 256, 3) := by decide +kernel
theorem d_C_afterPointerPage_16 : decode c_C_afterPointerPage 16 = .ok (.iload_n 1, 1) := by decide +kernel
theorem d_C_afterPointerPage_17 : decode c_C_afterPointerPage 17 = .ok (.imul, 1) := by decide +kernel
theorem d_C_afterPointerPage_18 : decode c_C_afterPointerPage 18 = .ok (.iadd, 1) := by decide +kernel
theorem d_C_afterPointerPage_19 : decode c_C_afterPointerPage 19 = .ok (.invokevirtual 212, 3) := by decide +kernel
theorem d_C_afterPointerPage_22 : decode c_C_afterPointerPage 22 = .ok (.goto 15, 3) := by decide +kernel
theorem d_C_afterPointerPage_25 : decode c_C_afterPointerPage 25 = .ok (.aload_n 0, 1) := by decide +kernel
theorem d_C_afterPointerPage_26 : decode c_C_afterPointerPage 26 = .ok (.iload_n 1, 1) := by decide +kernel
theorem d_C_afterPointerPage_27 : decode c_C_afterPointerPage 27 = .ok (.aload_n 0, 1) := by decide +kernel
theorem d_C_afterPointerPage_28 : decode c_C_afterPointerPage 28 = .ok (.getfield 20, 3) := by decide +kernel
theorem d_C_afterPointerPage_31 : decode c_C_afterPointerPage 31 = .ok (.getfield 80, 3) := by decide +kernel
theorem d_C_afterPointerPage_34 : decode c_C_afterPointerPage 34 = .ok (.invokevirtual 354, 3) := by decide +kernel
theorem d_C_afterPointerPage_37 : decode c_C_afterPointerPage 37 = .ok (.return_, 1) := by decide +kernel
theorem d_C_accessIndexed_0 : decode c_C_accessIndexed 0 = .ok (.aload_n 0, 1) := by decide +kernel
theorem d_C_accessIndexed_1 : decode c_C_accessIndexed 1 = .ok (.getfield 141, 3) := by decide +kernel
theorem d_C_accessIndexed_4 : decode c_C_accessIndexed 4 = .ok (.sipush 256, 3) := by decide +kernel
theorem d_C_accessIndexed_7 : decode c_C_accessIndexed 7 = .ok (.iload_n 1, 1) := by decide +kernel
theorem d_C_accessIndexed_8 : decode c_C_accessIndexed 8 = .ok (.imul, 1) := by decide +kernel
theorem d_C_accessIndexed_9 : decode c_C_accessIndexed 9 = .ok (.iadd, 1) := by decide +kernel
theorem d_C_accessIndexed_10 : decode c_C_accessIndexed 10 = .ok (.iload_n 2, 1) := by decide +kernel
theorem d_C_accessIndexed_11 : decode c_C_accessIndexed 11 = .ok (.iadd, 1) := by decide +kernel
theorem d_C_accessIndexed_12 : decode c_C_accessIndexed 12 = .ok (.ldc 101, 2) := by decide +kernel
theorem d_C_accessIndexed_14 : decode c_C_accessIndexed 14 = .ok (.iand, 1) := by decide +kernel
theorem d_C_accessIndexed_15 : decode c_C_accessIndexed 15 = .ok (.istore_n 3, 1) := by decide +kernel
theorem d_C_accessIndexed_16 : decode c_C_accessIndexed 16 = .ok (.sipush 256, 3) := by decide +kernel
theorem d_C_accessIndexed_19 : decode c_C_accessIndexed 19 = .ok (.iload_n 1, 1) := by decide +kernel
theorem d_C_accessIndexed_20 : decode c_C_accessIndexed 20 = .ok (.imul, 1) := by decide +kernel
theorem d_C_accessIndexed_21 : decode c_C_accessIndexed 21 = .ok (.iload_n 3, 1) := by decide +kernel
theorem d_C_accessIndexed_22 : decode c_C_accessIndexed 22 = .ok (.sipush 255, 3) := by decide +kernel
theorem d_C_accessIndexed_25 : decode c_C_accessIndexed 25 = .ok (.iand, 1) := by decide +kernel
theorem d_C_accessIndexed_26 : decode c_C_accessIndexed 26 = .ok (.iadd, 1) := by decide +kernel
theorem d_C_accessIndexed_27 : decode c_C_accessIndexed 27 = .ok (.istore 4, 2) := by decide +kernel
theorem d_C_accessIndexed_29 : decode c_C_accessIndexed 29 = .ok (.aload_n 0, 1) := by decide +kernel
theorem d_C_accessIndexed_30 : decode c_C_accessIndexed 30 = .ok (.getfield 39, 3) := by decide +kernel
theorem d_C_accessIndexed_33 : decode c_C_accessIndexed 33 = .ok (.getstatic 293, 3) := by decide +kernel
theorem d_C_accessIndexed_36 : decode c_C_accessIndexed 36 = .ok (.if_acmp .ne 17, 3) := by decide +kernel
theorem d_C_accessIndexed_39 : decode c_C_accessIndexed 39 = .ok (.iload_n 3, 1) := by decide +kernel
theorem d_C_accessIndexed_40 : decode c_C_accessIndexed 40 = .ok (.iload 4, 2) := by decide +kernel
theorem d_C_accessIndexed_42 : decode c_C_accessIndexed 42 = .ok (.if_icmp .ne 11, 3) := by decide +kernel
theorem d_C_accessIndexed_45 : decode c_C_accessIndexed 45 = .ok (.aload_n 0, 1) := by decide +kernel
theorem d_C_accessIndexed_46 : decode c_C_accessIndexed 46 = .ok (.iload_n 3, 1) := by decide +kernel
theorem d_C_accessIndexed_47 : decode c_C_accessIndexed 47 = .ok (.invokevirtual 212, 3) := by decide +kernel
theorem d_C_accessIndexed_50 : decode c_C_accessIndexed 50 = .ok (.goto 21, 3) := by decide +kernel
theorem d_C_accessIndexed_53 : decode c_C_accessIndexed 53 = .ok (.aload_n 0, 1) := by decide +kernel
theorem d_C_accessIndexed_54 : decode c_C_accessIndexed 54 = .ok (.iload_n 3, 1) := by decide +kernel
theorem d_C_accessIndexed_55 : decode c_C_accessIndexed 55 = .ok (.putfield 209, 3) := by decide +kernel
theorem d_C_accessIndexed_58 : decode c_C_accessIndexed 58 = .ok (.aload_n 0, 1) := by decide +kernel
theorem d_C_accessIndexed_59 : decode c_C_accessIndexed 59 = .ok (.iload 4, 2) := by decide +kernel
theorem d_C_accessIndexed_61 : decode c_C_accessIndexed 61 = .ok (.putfield 127, 3) := by decide +kernel
theorem d_C_accessIndexed_64 : decode c_C_accessIndexed 64 = .ok (.aload_n 0, 1) := by decide +kernel
end
section
/-! decode rows (printed by my own program) -/
theorem d_C_accessIndexed_65 : decode c_C_accessIndexed 65 = .ok (.getstatic 360, 3) := by decide +kernel
theorem d_C_accessIndexed_68 : decode c_C_accessIndexed 68 = .ok (.putfield 30, 3) := by decide +kernel
theorem d_C_accessIndexed_71 : decode c_C_accessIndexed 71 = .ok (.return_, 1) := by decide +kernel
theorem d_C_afterFarLow_0 : decode c_C_afterFarLow 0 = .ok (.aload_n 0, 1) := by decide +kernel
theorem d_C_afterFarLow_1 : decode c_C_afterFarLow 1 = .ok (.getfield 20, 3) := by decide +kernel
theorem d_C_afterFarLow_4 : decode c_C_afterFarLow 4 = .ok (.invokevirtual 185, 3) := by decide +kernel
theorem d_C_afterFarLow_7 : decode c_C_afterFarLow 7 = .ok (.aload_n 0, 1) := by decide +kernel
theorem d_C_afterFarLow_8 : decode c_C_afterFarLow 8 = .ok (.iload_n 1, 1) := by decide +kernel
theorem d_C_afterFarLow_9 : decode c_C_afterFarLow 9 = .ok (.putfield 141, 3) := by decide +kernel
theorem d_C_afterFarLow_12 : decode c_C_afterFarLow 12 = .ok (.aload_n 0, 1) := by decide +kernel
theorem d_C_afterFarLow_13 : decode c_C_afterFarLow 13 = .ok (.aload_n 0, 1) := by decide +kernel
theorem d_C_afterFarLow_14 : decode c_C_afterFarLow 14 = .ok (.getfield 39, 3) := by decide +kernel
theorem d_C_afterFarLow_17 : decode c_C_afterFarLow 17 = .ok (.getstatic 170, 3) := by decide +kernel
theorem d_C_afterFarLow_20 : decode c_C_afterFarLow 20 = .ok (.if_acmp .ne 9, 3) := by decide +kernel
theorem d_C_afterFarLow_23 : decode c_C_afterFarLow 23 = .ok (.getstatic 357, 3) := by decide +kernel
theorem d_C_afterFarLow_26 : decode c_C_afterFarLow 26 = .ok (.goto 6, 3) := by decide +kernel
theorem d_C_afterFarLow_29 : decode c_C_afterFarLow 29 = .ok (.getstatic 173, 3) := by decide +kernel
theorem d_C_afterFarLow_32 : decode c_C_afterFarLow 32 = .ok (.putfield 30, 3) := by decide +kernel
theorem d_C_afterFarLow_35 : decode c_C_afterFarLow 35 = .ok (.return_, 1) := by decide +kernel
theorem d_C_afterFarPage_0 : decode c_C_afterFarPage 0 = .ok (.aload_n 0, 1) := by decide +kernel
theorem d_C_afterFarPage_1 : decode c_C_afterFarPage 1 = .ok (.getfield 39, 3) := by decide +kernel
theorem d_C_afterFarPage_4 : decode c_C_afterFarPage 4 = .ok (.getstatic 302, 3) := by decide +kernel
theorem d_C_afterFarPage_7 : decode c_C_afterFarPage 7 = .ok (.if_acmp .eq 13, 3) := by decide +kernel
theorem d_C_afterFarPage_10 : decode c_C_afterFarPage 10 = .ok (.aload_n 0, 1) := by decide +kernel
theorem d_C_afterFarPage_11 : decode c_C_afterFarPage 11 = .ok (.getfield 39, 3) := by decide +kernel
theorem d_C_afterFarPage_14 : decode c_C_afterFarPage 14 = .ok (.getstatic 170, 3) := by decide +kernel
theorem d_C_afterFarPage_17 : decode c_C_afterFarPage 17 = .ok (.if_acmp .ne 18, 3) := by decide +kernel
theorem d_C_afterFarPage_20 : decode c_C_afterFarPage 20 = .ok (.aload_n 0, 1) := by decide +kernel
theorem d_C_afterFarPage_21 : decode c_C_afterFarPage 21 = .ok (.aload_n 0, 1) := by decide +kernel
theorem d_C_afterFarPage_22 : decode c_C_afterFarPage 22 = .ok (.getfield 141, 3) := by decide +kernel
theorem d_C_afterFarPage_25 : decode c_C_afterFarPage 25 = .ok (.sipush 256, 3) := by decide +kernel
theorem d_C_afterFarPage_28 : decode c_C_afterFarPage 28 = .ok (.iload_n 1, 1) := by decide +kernel
theorem d_C_afterFarPage_29 : decode c_C_afterFarPage 29 = .ok (.imul, 1) := by decide +kernel
theorem d_C_afterFarPage_30 : decode c_C_afterFarPage 30 = .ok (.iadd, 1) := by decide +kernel
theorem d_C_afterFarPage_31 : decode c_C_afterFarPage 31 = .ok (.invokevirtual 224, 3) := by decide +kernel
theorem d_C_afterFarPage_34 : decode c_C_afterFarPage 34 = .ok (.return_, 1) := by decide +kernel
theorem d_C_afterFarPage_35 : decode c_C_afterFarPage 35 = .ok (.aload_n 0, 1) := by decide +kernel
theorem d_C_afterFarPage_36 : decode c_C_afterFarPage 36 = .ok (.getfield 20, 3) := by decide +kernel
theorem d_C_afterFarPage_39 : decode c_C_afterFarPage 39 = .ok (.invokevirtual 185, 3) := by decide +kernel
theorem d_C_afterFarPage_42 : decode c_C_afterFarPage 42 = .ok (.aload_n 0, 1) := by decide +kernel
theorem d_C_afterFarPage_43 : decode c_C_afterFarPage 43 = .ok (.getfield 274, 3) := by decide +kernel
theorem d_C_afterFarPage_46 : decode c_C_afterFarPage 46 = .ok (.iconst 3, 1) := by decide +kernel
theorem d_C_afterFarPage_47 : decode c_C_afterFarPage 47 = .ok (.if_icmp .ne 20, 3) := by decide +kernel
theorem d_C_afterFarPage_50 : decode c_C_afterFarPage 50 = .ok (.aload_n 0, 1) := by decide +kernel
theorem d_C_afterFarPage_51 : decode c_C_afterFarPage 51 = .ok (.aload_n 0, 1) := by decide +kernel
theorem d_C_afterFarPage_52 : decode c_C_afterFarPage 52 = .ok (.getfield 141, 3) := by decide +kernel
theorem d_C_afterFarPage_55 : decode c_C_afterFarPage 55 = .ok (.sipush 256, 3) := by decide +kernel
theorem d_C_afterFarPage_58 : decode c_C_afterFarPage 58 = .ok (.iload_n 1, 1) := by decide +kernel
theorem d_C_afterFarPage_59 : decode c_C_afterFarPage 59 = .ok (.imul, 1) := by decide +kernel
theorem d_C_afterFarPage_60 : decode c_C_afterFarPage 60 = .ok (.iadd, 1) := by decide +kernel
theorem d_C_afterFarPage_61 : decode c_C_afterFarPage 61 = .ok (.invokevirtual 212, 3) := by decide +kernel
theorem d_C_afterFarPage_64 : decode c_C_afterFarPage 64 = .ok (.goto 15, 3) := by decide +kernel
theorem d_C_afterFarPage_67 : decode c_C_afterFarPage 67 = .ok (.aload_n 0, 1) := by decide +kernel
theorem d_C_afterFarPage_68 : decode c_C_afterFarPage 68 = .ok (.iload_n 1, 1) := by decide +kernel
theorem d_C_afterFarPage_69 : decode c_C_afterFarPage 69 = .ok (.aload_n 0, 1) := by decide +kernel
theorem d_C_afterFarPage_70 : decode c_C_afterFarPage 70 = .ok (.getfield 20, 3) := by decide +kernel
theorem d_C_afterFarPage_73 : decode c_C_afterFarPage 73 = .ok (.getfield 77, 3) := by decide +kernel
theorem d_C_afterFarPage_76 : decode c_C_afterFarPage 76 = .ok (.invokevirtual 354, 3) := by decide +kernel
theorem d_C_afterFarPage_79 : decode c_C_afterFarPage 79 = .ok (.return_, 1) := by decide +kernel
theorem d_C_goTo_0 : decode c_C_goTo 0 = .ok (.aload_n 0, 1) := by decide +kernel
theorem d_C_goTo_1 : decode c_C_goTo 1 = .ok (.getfield 20, 3) := by decide +kernel
theorem d_C_goTo_4 : decode c_C_goTo 4 = .ok (.iload_n 1, 1) := by decide +kernel
theorem d_C_goTo_5 : decode c_C_goTo 5 = .ok (.ldc 101, 2) := by decide +kernel
theorem d_C_goTo_7 : decode c_C_goTo 7 = .ok (.iand, 1) := by decide +kernel
theorem d_C_goTo_8 : decode c_C_goTo 8 = .ok (.putfield 86, 3) := by decide +kernel
theorem d_C_goTo_11 : decode c_C_goTo 11 = .ok (.aload_n 0, 1) := by decide +kernel
theorem d_C_goTo_12 : decode c_C_goTo 12 = .ok (.invokevirtual 161, 3) := by decide +kernel
theorem d_C_goTo_15 : decode c_C_goTo 15 = .ok (.return_, 1) := by decide +kernel
theorem d_C_afterChangeRead_0 : decode c_C_afterChangeRead 0 = .ok (.aload_n 0, 1) := by decide +kernel
theorem d_C_afterChangeRead_1 : decode c_C_afterChangeRead 1 = .ok (.iload_n 1, 1) := by decide +kernel
theorem d_C_afterChangeRead_2 : decode c_C_afterChangeRead 2 = .ok (.putfield 141, 3) := by decide +kernel
theorem d_C_afterChangeRead_5 : decode c_C_afterChangeRead 5 = .ok (.aload_n 0, 1) := by decide +kernel
theorem d_C_afterChangeRead_6 : decode c_C_afterChangeRead 6 = .ok (.getstatic 371, 3) := by decide +kernel
theorem d_C_afterChangeRead_9 : decode c_C_afterChangeRead 9 = .ok (.putfield 30, 3) := by decide +kernel
theorem d_C_afterChangeRead_12 : decode c_C_afterChangeRead 12 = .ok (.return_, 1) := by decide +kernel
theorem d_C_afterBranchDistance_0 : decode c_C_afterBranchDistance 0 = .ok (.aload_n 0, 1) := by decide +kernel
theorem d_C_afterBranchDistance_1 : decode c_C_afterBranchDistance 1 = .ok (.getfield 20, 3) := by decide +kernel
theorem d_C_afterBranchDistance_4 : decode c_C_afterBranchDistance 4 = .ok (.invokevirtual 185, 3) := by decide +kernel
theorem d_C_afterBranchDistance_7 : decode c_C_afterBranchDistance 7 = .ok (.aload_n 0, 1) := by decide +kernel
theorem d_C_afterBranchDistance_8 : decode c_C_afterBranchDistance 8 = .ok (.getfield 20, 3) := by decide +kernel
theorem d_C_afterBranchDistance_11 : decode c_C_afterBranchDistance 11 = .ok (.aload_n 0, 1) := by decide +kernel
theorem d_C_afterBranchDistance_12 : decode c_C_afterBranchDistance 12 = .ok (.getfield 144, 3) := by decide +kernel
theorem d_C_afterBranchDistance_15 : decode c_C_afterBranchDistance 15 = .ok (.invokevirtual 374, 3) := by decide +kernel
theorem d_C_afterBranchDistance_18 : decode c_C_afterBranchDistance 18 = .ok (.ifCond .eq 46, 3) := by decide +kernel
theorem d_C_afterBranchDistance_21 : decode c_C_afterBranchDistance 21 = .ok (.iload_n 1, 1) := by decide +kernel
theorem d_C_afterBranchDistance_22 : decode c_C_afterBranchDistance 22 = .ok (.sipush 128, 3) := by decide +kernel
theorem d_C_afterBranchDistance_25 : decode c_C_afterBranchDistance 25 = .ok (.if_icmp .ge 7, 3) := by decide +kernel
theorem d_C_afterBranchDistance_28 : decode c_C_afterBranchDistance 28 = .ok (.iload_n 1, 1) := by decide +kernel
theorem d_C_afterBranchDistance_29 : decode c_C_afterBranchDistance 29 = .ok (.goto 8, 3) := by decide +kernel
theorem d_C_afterBranchDistance_32 : decode c_C_afterBranchDistance 32 = .ok (.iload_n 1, 1) := by decide +kernel
theorem d_C_afterBranchDistance_33 : decode c_C_afterBranchDistance 33 = .ok (.sipush 256, 3) := by decide +kernel
theorem d_C_afterBranchDistance_36 : decode c_C_afterBranchDistance 36 = .ok (.isub, 1) := by decide +kernel
theorem d_C_afterBranchDistance_37 : decode c_C_afterBranchDistance 37 = .ok (.istore_n 2, 1) := by decide +kernel
theorem d_C_afterBranchDistance_38 : decode c_C_afterBranchDistance 38 = .ok (.aload_n 0, 1) := by decide +kernel
theorem d_C_afterBranchDistance_39 : decode c_C_afterBranchDistance 39 = .ok (.aload_n 0, 1) := by decide +kernel
theorem d_C_afterBranchDistance_40 : decode c_C_afterBranchDistance 40 = .ok (.getfield 20, 3) := by decide +kernel
theorem d_C_afterBranchDistance_43 : decode c_C_afterBranchDistance 43 = .ok (.getfield 86, 3) := by decide +kernel
theorem d_C_afterBranchDistance_46 : decode c_C_afterBranchDistance 46 = .ok (.iload_n 2, 1) := by decide +kernel
theorem d_C_afterBranchDistance_47 : decode c_C_afterBranchDistance 47 = .ok (.iadd, 1) := by decide +kernel
theorem d_C_afterBranchDistance_48 : decode c_C_afterBranchDistance 48 = .ok (.ldc 101, 2) := by decide +kernel
theorem d_C_afterBranchDistance_50 : decode c_C_afterBranchDistance 50 = .ok (.iand, 1) := by decide +kernel
theorem d_C_afterBranchDistance_51 : decode c_C_afterBranchDistance 51 = .ok (.putfield 209, 3) := by decide +kernel
theorem d_C_afterBranchDistance_54 : decode c_C_afterBranchDistance 54 = .ok (.aload_n 0, 1) := by decide +kernel
theorem d_C_afterBranchDistance_55 : decode c_C_afterBranchDistance 55 = .ok (.getstatic 377, 3) := by decide +kernel
theorem d_C_afterBranchDistance_58 : decode c_C_afterBranchDistance 58 = .ok (.putfield 30, 3) := by decide +kernel
theorem d_C_afterBranchDistance_61 : decode c_C_afterBranchDistance 61 = .ok (.goto 7, 3) := by decide +kernel
theorem d_C_afterBranchDistance_64 : decode c_C_afterBranchDistance 64 = .ok (.aload_n 0, 1) := by decide +kernel
theorem d_C_afterBranchDistance_65 : decode c_C_afterBranchDistance 65 = .ok (.invokevirtual 161, 3) := by decide +kernel
theorem d_C_afterBranchDistance_68 : decode c_C_afterBranchDistance 68 = .ok (.return_, 1) := by decide +kernel
theorem d_C_afterBranchIdle_0 : decode c_C_afterBranchIdle 0 = .ok (.aload_n 0, 1) := by decide +kernel
theorem d_C_afterBranchIdle_1 : decode c_C_afterBranchIdle 1 = .ok (.getfield 20, 3) := by decide +kernel
theorem d_C_afterBranchIdle_4 : decode c_C_afterBranchIdle 4 = .ok (.getfield 86, 3) := by decide +kernel
theorem d_C_afterBranchIdle_7 : decode c_C_afterBranchIdle 7 = .ok (.ldc_w 380, 3) := by decide +kernel
theorem d_C_afterBranchIdle_10 : decode c_C_afterBranchIdle 10 = .ok (.iand, 1) := by decide +kernel
theorem d_C_afterBranchIdle_11 : decode c_C_afterBranchIdle 11 = .ok (.aload_n 0, 1) := by decide +kernel
theorem d_C_afterBranchIdle_12 : decode c_C_afterBranchIdle 12 = .ok (.getfield 209, 3) := by decide +kernel
theorem d_C_afterBranchIdle_15 : decode c_C_afterBranchIdle 15 = .ok (.sipush 255, 3) := by decide +kernel
theorem d_C_afterBranchIdle_18 : decode c_C_afterBranchIdle 18 = .ok (.iand, 1) := by decide +kernel
theorem d_C_afterBranchIdle_19 : decode c_C_afterBranchIdle 19 = .ok (.iadd, 1) := by decide +kernel
theorem d_C_afterBranchIdle_20 : decode c_C_afterBranchIdle 20 = .ok (.istore_n 1, 1) := by decide +kernel
theorem d_C_afterBranchIdle_21 : decode c_C_afterBranchIdle 21 = .ok (.iload_n 1, 1) := by decide +kernel
theorem d_C_afterBranchIdle_22 : decode c_C_afterBranchIdle 22 = .ok (.aload_n 0, 1) := by decide +kernel
theorem d_C_afterBranchIdle_23 : decode c_C_afterBranchIdle 23 = .ok (.getfield 209, 3) := by decide +kernel
theorem d_C_afterBranchIdle_26 : decode c_C_afterBranchIdle 26 = .ok (.if_icmp .ne 14, 3) := by decide +kernel
theorem d_C_afterBranchIdle_29 : decode c_C_afterBranchIdle 29 = .ok (.aload_n 0, 1) := by decide +kernel
theorem d_C_afterBranchIdle_30 : decode c_C_afterBranchIdle 30 = .ok (.aload_n 0, 1) := by decide +kernel
theorem d_C_afterBranchIdle_31 : decode c_C_afterBranchIdle 31 = .ok (.getfield 209, 3) := by decide +kernel
theorem d_C_afterBranchIdle_34 : decode c_C_afterBranchIdle 34 = .ok (.invokevirtual 224, 3) := by decide +kernel
theorem d_C_afterBranchIdle_37 : decode c_C_afterBranchIdle 37 = .ok (.goto 15, 3) := by decide +kernel
theorem d_C_afterBranchIdle_40 : decode c_C_afterBranchIdle 40 = .ok (.aload_n 0, 1) := by decide +kernel
theorem d_C_afterBranchIdle_41 : decode c_C_afterBranchIdle 41 = .ok (.iload_n 1, 1) := by decide +kernel
theorem d_C_afterBranchIdle_42 : decode c_C_afterBranchIdle 42 = .ok (.putfield 127, 3) := by decide +kernel
theorem d_C_afterBranchIdle_45 : decode c_C_afterBranchIdle 45 = .ok (.aload_n 0, 1) := by decide +kernel
theorem d_C_afterBranchIdle_46 : decode c_C_afterBranchIdle 46 = .ok (.getstatic 381, 3) := by decide +kernel
theorem d_C_afterBranchIdle_49 : decode c_C_afterBranchIdle 49 = .ok (.putfield 30, 3) := by decide +kernel
theorem d_C_afterBranchIdle_52 : decode c_C_afterBranchIdle 52 = .ok (.return_, 1) := by decide +kernel
theorem d_C_afterBreakNext_0 : decode c_C_afterBreakNext 0 = .ok (.aload_n 0, 1) := by decide +kernel
theorem d_C_afterBreakNext_1 : decode c_C_afterBreakNext 1 = .ok (.getfield 20, 3) := by decide +kernel
theorem d_C_afterBreakNext_4 : decode c_C_afterBreakNext 4 = .ok (.invokevirtual 185, 3) := by decide +kernel
theorem d_C_afterBreakNext_7 : decode c_C_afterBreakNext 7 = .ok (.aload_n 0, 1) := by decide +kernel
theorem d_C_afterBreakNext_8 : decode c_C_afterBreakNext 8 = .ok (.getstatic 252, 3) := by decide +kernel
theorem d_C_afterBreakNext_11 : decode c_C_afterBreakNext 11 = .ok (.putfield 30, 3) := by decide +kernel
theorem d_C_afterBreakNext_14 : decode c_C_afterBreakNext 14 = .ok (.return_, 1) := by decide +kernel
theorem d_C_afterPcIdle_0 : decode c_C_afterPcIdle 0 = .ok (.aload_n 0, 1) := by decide +kernel
theorem d_C_afterPcIdle_1 : decode c_C_afterPcIdle 1 = .ok (.getfield 39, 3) := by decide +kernel
theorem d_C_afterPcIdle_4 : decode c_C_afterPcIdle 4 = .ok (.getstatic 305, 3) := by decide +kernel
theorem d_C_afterPcIdle_7 : decode c_C_afterPcIdle 7 = .ok (.if_acmp .ne 21, 3) := by decide +kernel
theorem d_C_afterPcIdle_10 : decode c_C_afterPcIdle 10 = .ok (.aload_n 0, 1) := by decide +kernel
theorem d_C_afterPcIdle_11 : decode c_C_afterPcIdle 11 = .ok (.getfield 20, 3) := by decide +kernel
theorem d_C_afterPcIdle_14 : decode c_C_afterPcIdle 14 = .ok (.aload_n 0, 1) := by decide +kernel
theorem d_C_afterPcIdle_15 : decode c_C_afterPcIdle 15 = .ok (.getfield 144, 3) := by decide +kernel
theorem d_C_afterPcIdle_18 : decode c_C_afterPcIdle 18 = .ok (.invokevirtual 384, 3) := by decide +kernel
theorem d_C_afterPcIdle_21 : decode c_C_afterPcIdle 21 = .ok (.aload_n 0, 1) := by decide +kernel
theorem d_C_afterPcIdle_22 : decode c_C_afterPcIdle 22 = .ok (.invokevirtual 161, 3) := by decide +kernel
theorem d_C_afterPcIdle_25 : decode c_C_afterPcIdle 25 = .ok (.goto 26, 3) := by decide +kernel
theorem d_C_afterPcIdle_28 : decode c_C_afterPcIdle 28 = .ok (.aload_n 0, 1) := by decide +kernel
theorem d_C_afterPcIdle_29 : decode c_C_afterPcIdle 29 = .ok (.aload_n 0, 1) := by decide +kernel
theorem d_C_afterPcIdle_30 : decode c_C_afterPcIdle 30 = .ok (.getfield 39, 3) := by decide +kernel
theorem d_C_afterPcIdle_33 : decode c_C_afterPcIdle 33 = .ok (.getstatic 308, 3) := by decide +kernel
theorem d_C_afterPcIdle_36 : decode c_C_afterPcIdle 36 = .ok (.if_acmp .ne 9, 3) := by decide +kernel
theorem d_C_afterPcIdle_39 : decode c_C_afterPcIdle 39 = .ok (.getstatic 387, 3) := by decide +kernel
theorem d_C_afterPcIdle_42 : decode c_C_afterPcIdle 42 = .ok (.goto 6, 3) := by decide +kernel
theorem d_C_afterPcIdle_45 : decode c_C_afterPcIdle 45 = .ok (.getstatic 357, 3) := by decide +kernel
theorem d_C_afterPcIdle_48 : decode c_C_afterPcIdle 48 = .ok (.putfield 30, 3) := by decide +kernel
theorem d_C_afterPcIdle_51 : decode c_C_afterPcIdle 51 = .ok (.return_, 1) := by decide +kernel
theorem d_C_afterStackOrVectorRead_0 : decode c_C_afterStackOrVectorRead 0 = .ok (.getstatic 133, 3) := by decide +kernel
theorem d_C_afterStackOrVectorRead_3 : decode c_C_afterStackOrVectorRead 3 = .ok (.aload_n 0, 1) := by decide +kernel
theorem d_C_afterStackOrVectorRead_4 : decode c_C_afterStackOrVectorRead 4 = .ok (.getfield 30, 3) := by decide +kernel
theorem d_C_afterStackOrVectorRead_7 : decode c_C_afterStackOrVectorRead 7 = .ok (.invokevirtual 138, 3) := by decide +kernel
theorem d_C_afterStackOrVectorRead_10 : decode c_C_afterStackOrVectorRead 10 = .ok (.iaload, 1) := by decide +kernel
theorem d_C_afterStackOrVectorRead_11 : decode c_C_afterStackOrVectorRead 11 = .ok (.tableswitch 184 25 34 #[53, 64, 72, 80, 88, 104, 128, 136, 153, 177], 53) := by decide +kernel
theorem d_C_afterStackOrVectorRead_64 : decode c_C_afterStackOrVectorRead 64 = .ok (.aload_n 0, 1) := by decide +kernel
theorem d_C_afterStackOrVectorRead_65 : decode c_C_afterStackOrVectorRead 65 = .ok (.aload_n 0, 1) := by decide +kernel
theorem d_C_afterStackOrVectorRead_66 : decode c_C_afterStackOrVectorRead 66 = .ok (.invokevirtual 236, 3) := by decide +kernel
theorem d_C_afterStackOrVectorRead_69 : decode c_C_afterStackOrVectorRead 69 = .ok (.putfield 30, 3) := by decide +kernel
theorem d_C_afterStackOrVectorRead_72 : decode c_C_afterStackOrVectorRead 72 = .ok (.goto 128, 3) := by decide +kernel
theorem d_C_afterStackOrVectorRead_75 : decode c_C_afterStackOrVectorRead 75 = .ok (.aload_n 0, 1) := by decide +kernel
theorem d_C_afterStackOrVectorRead_76 : decode c_C_afterStackOrVectorRead 76 = .ok (.iload_n 1, 1) := by decide +kernel
theorem d_C_afterStackOrVectorRead_77 : decode c_C_afterStackOrVectorRead 77 = .ok (.invokevirtual 240, 3) := by decide +kernel
theorem d_C_afterStackOrVectorRead_80 : decode c_C_afterStackOrVectorRead 80 = .ok (.goto 120, 3) := by decide +kernel
theorem d_C_afterStackOrVectorRead_83 : decode c_C_afterStackOrVectorRead 83 = .ok (.aload_n 0, 1) := by decide +kernel
theorem d_C_afterStackOrVectorRead_84 : decode c_C_afterStackOrVectorRead 84 = .ok (.iload_n 1, 1) := by decide +kernel
theorem d_C_afterStackOrVectorRead_85 : decode c_C_afterStackOrVectorRead 85 = .ok (.invokevirtual 243, 3) := by decide +kernel
theorem d_C_afterStackOrVectorRead_88 : decode c_C_afterStackOrVectorRead 88 = .ok (.goto 112, 3) := by decide +kernel
theorem d_C_afterStackOrVectorRead_91 : decode c_C_afterStackOrVectorRead 91 = .ok (.aload_n 0, 1) := by decide +kernel
theorem d_C_afterStackOrVectorRead_92 : decode c_C_afterStackOrVectorRead 92 = .ok (.iload_n 1, 1) := by decide +kernel
theorem d_C_afterStackOrVectorRead_93 : decode c_C_afterStackOrVectorRead 93 = .ok (.invokevirtual 246, 3) := by decide +kernel
theorem d_C_afterStackOrVectorRead_96 : decode c_C_afterStackOrVectorRead 96 = .ok (.goto 104, 3) := by decide +kernel
theorem d_C_afterStackOrVectorRead_99 : decode c_C_afterStackOrVectorRead 99 = .ok (.aload_n 0, 1) := by decide +kernel
theorem d_C_afterStackOrVectorRead_100 : decode c_C_afterStackOrVectorRead 100 = .ok (.aload_n 0, 1) := by decide +kernel
theorem d_C_afterStackOrVectorRead_101 : decode c_C_afterStackOrVectorRead 101 = .ok (.getfield 20, 3) := by decide +kernel
theorem d_C_afterStackOrVectorRead_104 : decode c_C_afterStackOrVectorRead 104 = .ok (.getfield 86, 3) := by decide +kernel
theorem d_C_afterStackOrVectorRead_107 : decode c_C_afterStackOrVectorRead 107 = .ok (.iconst 1, 1) := by decide +kernel
theorem d_C_afterStackOrVectorRead_108 : decode c_C_afterStackOrVectorRead 108 = .ok (.iadd, 1) := by decide +kernel
theorem d_C_afterStackOrVectorRead_109 : decode c_C_afterStackOrVectorRead 109 = .ok (.invokevirtual 224, 3) := by decide +kernel
theorem d_C_afterStackOrVectorRead_112 : decode c_C_afterStackOrVectorRead 112 = .ok (.goto 88, 3) := by decide +kernel
theorem d_C_afterStackOrVectorRead_115 : decode c_C_afterStackOrVectorRead 115 = .ok (.aload_n 0, 1) := by decide +kernel
theorem d_C_afterStackOrVectorRead_116 : decode c_C_afterStackOrVectorRead 116 = .ok (.aload_n 0, 1) := by decide +kernel
theorem d_C_afterStackOrVectorRead_117 : decode c_C_afterStackOrVectorRead 117 = .ok (.getfield 95, 3) := by decide +kernel
theorem d_C_afterStackOrVectorRead_120 : decode c_C_afterStackOrVectorRead 120 = .ok (.iconst 2, 1) := by decide +kernel
theorem d_C_afterStackOrVectorRead_121 : decode c_C_afterStackOrVectorRead 121 = .ok (.if_icmp .ge 9, 3) := by decide +kernel
theorem d_C_afterStackOrVectorRead_124 : decode c_C_afterStackOrVectorRead 124 = .ok (.getstatic 249, 3) := by decide +kernel
theorem d_C_afterStackOrVectorRead_127 : decode c_C_afterStackOrVectorRead 127 = .ok (.goto 6, 3) := by decide +kernel
theorem d_C_afterStackOrVectorRead_130 : decode c_C_afterStackOrVectorRead 130 = .ok (.getstatic 252, 3) := by decide +kernel
theorem d_C_afterStackOrVectorRead_133 : decode c_C_afterStackOrVectorRead 133 = .ok (.putfield 30, 3) := by decide +kernel
theorem d_C_afterStackOrVectorRead_136 : decode c_C_afterStackOrVectorRead 136 = .ok (.goto 64, 3) := by decide +kernel
theorem d_C_afterStackOrVectorRead_139 : decode c_C_afterStackOrVectorRead 139 = .ok (.aload_n 0, 1) := by decide +kernel
theorem d_C_afterStackOrVectorRead_140 : decode c_C_afterStackOrVectorRead 140 = .ok (.iload_n 1, 1) := by decide +kernel
theorem d_C_afterStackOrVectorRead_141 : decode c_C_afterStackOrVectorRead 141 = .ok (.invokevirtual 255, 3) := by decide +kernel
theorem d_C_afterStackOrVectorRead_144 : decode c_C_afterStackOrVectorRead 144 = .ok (.goto 56, 3) := by decide +kernel
theorem d_C_afterStackOrVectorRead_147 : decode c_C_afterStackOrVectorRead 147 = .ok (.aload_n 0, 1) := by decide +kernel
theorem d_C_afterStackOrVectorRead_148 : decode c_C_afterStackOrVectorRead 148 = .ok (.aload_n 0, 1) := by decide +kernel
theorem d_C_afterStackOrVectorRead_149 : decode c_C_afterStackOrVectorRead 149 = .ok (.getfield 141, 3) := by decide +kernel
theorem d_C_afterStackOrVectorRead_152 : decode c_C_afterStackOrVectorRead 152 = .ok (.sipush 256, 3) := by decide +kernel
theorem d_C_afterStackOrVectorRead_155 : decode c_C_afterStackOrVectorRead 155 = .ok (.iload_n 1, 1) := by decide +kernel
theorem d_C_afterStackOrVectorRead_156 : decode c_C_afterStackOrVectorRead 156 = .ok (.imul, 1) := by decide +kernel
theorem d_C_afterStackOrVectorRead_157 : decode c_C_afterStackOrVectorRead 157 = .ok (.iadd, 1) := by decide +kernel
theorem d_C_afterStackOrVectorRead_158 : decode c_C_afterStackOrVectorRead 158 = .ok (.invokevirtual 224, 3) := by decide +kernel
theorem d_C_afterStackOrVectorRead_161 : decode c_C_afterStackOrVectorRead 161 = .ok (.goto 39, 3) := by decide +kernel
theorem d_C_afterStackOrVectorRead_164 : decode c_C_afterStackOrVectorRead 164 = .ok (.aload_n 0, 1) := by decide +kernel
theorem d_C_afterStackOrVectorRead_165 : decode c_C_afterStackOrVectorRead 165 = .ok (.aload_n 0, 1) := by decide +kernel
theorem d_C_afterStackOrVectorRead_166 : decode c_C_afterStackOrVectorRead 166 = .ok (.getfield 95, 3) := by decide +kernel
theorem d_C_afterStackOrVectorRead_169 : decode c_C_afterStackOrVectorRead 169 = .ok (.iconst 2, 1) := by decide +kernel
theorem d_C_afterStackOrVectorRead_170 : decode c_C_afterStackOrVectorRead 170 = .ok (.if_icmp .ge 9, 3) := by decide +kernel
theorem d_C_afterStackOrVectorRead_173 : decode c_C_afterStackOrVectorRead 173 = .ok (.getstatic 67, 3) := by decide +kernel
theorem d_C_afterStackOrVectorRead_176 : decode c_C_afterStackOrVectorRead 176 = .ok (.goto 6, 3) := by decide +kernel
theorem d_C_afterStackOrVectorRead_179 : decode c_C_afterStackOrVectorRead 179 = .ok (.getstatic 258, 3) := by decide +kernel
theorem d_C_afterStackOrVectorRead_182 : decode c_C_afterStackOrVectorRead 182 = .ok (.putfield 30, 3) := by decide +kernel
theorem d_C_afterStackOrVectorRead_185 : decode c_C_afterStackOrVectorRead 185 = .ok (.goto 15, 3) := by decide +kernel
theorem d_C_afterStackOrVectorRead_188 : decode c_C_afterStackOrVectorRead 188 = .ok (.aload_n 0, 1) := by decide +kernel
theorem d_C_afterStackOrVectorRead_189 : decode c_C_afterStackOrVectorRead 189 = .ok (.invokevirtual 261, 3) := by decide +kernel
theorem d_C_afterStackOrVectorRead_192 : decode c_C_afterStackOrVectorRead 192 = .ok (.goto 8, 3) := by decide +kernel
theorem d_C_afterStackOrVectorRead_195 : decode c_C_afterStackOrVectorRead 195 = .ok (.aload_n 0, 1) := by decide +kernel
theorem d_C_afterStackOrVectorRead_196 : decode c_C_afterStackOrVectorRead 196 = .ok (.iload_n 1, 1) := by decide +kernel
theorem d_C_afterStackOrVectorRead_197 : decode c_C_afterStackOrVectorRead 197 = .ok (.invokevirtual 264, 3) := by decide +kernel
theorem d_C_afterStackOrVectorRead_200 : decode c_C_afterStackOrVectorRead 200 = .ok (.return_, 1) := by decide +kernel
theorem d_C_stepAfterStackIdle_0 : decode c_C_stepAfterStackIdle 0 = .ok (.getstatic 320, 3) := by decide +kernel
theorem d_C_stepAfterStackIdle_3 : decode c_C_stepAfterStackIdle 3 = .ok (.aload_n 0, 1) := by decide +kernel
theorem d_C_stepAfterStackIdle_4 : decode c_C_stepAfterStackIdle 4 = .ok (.getfield 39, 3) := by decide +kernel
theorem d_C_stepAfterStackIdle_7 : decode c_C_stepAfterStackIdle 7 = .ok (.invokevirtual 323, 3) := by decide +kernel
theorem d_C_stepAfterStackIdle_10 : decode c_C_stepAfterStackIdle 10 = .ok (.iaload, 1) := by decide +kernel
theorem d_C_stepAfterStackIdle_11 : decode c_C_stepAfterStackIdle 11 = .ok (.lookupswitch 37 #[(6, 25), (9, 31)], 25) := by decide +kernel
theorem d_C_stepAfterStackIdle_36 : decode c_C_stepAfterStackIdle 36 = .ok (.getstatic 252, 3) := by decide +kernel
theorem d_C_stepAfterStackIdle_39 : decode c_C_stepAfterStackIdle 39 = .ok (.goto 12, 3) := by decide +kernel
theorem d_C_stepAfterStackIdle_42 : decode c_C_stepAfterStackIdle 42 = .ok (.getstatic 390, 3) := by decide +kernel
theorem d_C_stepAfterStackIdle_45 : decode c_C_stepAfterStackIdle 45 = .ok (.goto 6, 3) := by decide +kernel
theorem d_C_stepAfterStackIdle_48 : decode c_C_stepAfterStackIdle 48 = .ok (.getstatic 393, 3) := by decide +kernel
theorem d_C_stepAfterStackIdle_51 : decode c_C_stepAfterStackIdle 51 = .ok (.areturn, 1) := by decide +kernel
theorem d_C_afterPullByte_0 : decode c_C_afterPullByte 0 = .ok (.aload_n 0, 1) := by decide +kernel
theorem d_C_afterPullByte_1 : decode c_C_afterPullByte 1 = .ok (.getfield 20, 3) := by decide +kernel
theorem d_C_afterPullByte_4 : decode c_C_afterPullByte 4 = .ok (.iconst 1, 1) := by decide +kernel
theorem d_C_afterPullByte_5 : decode c_C_afterPullByte 5 = .ok (.invokevirtual 164, 3) := by decide +kernel
theorem d_C_afterPullByte_8 : decode c_C_afterPullByte 8 = .ok (.aload_n 0, 1) := by decide +kernel
theorem d_C_afterPullByte_9 : decode c_C_afterPullByte 9 = .ok (.getfield 39, 3) := by decide +kernel
theorem d_C_afterPullByte_12 : decode c_C_afterPullByte 12 = .ok (.getstatic 317, 3) := by decide +kernel
theorem d_C_afterPullByte_15 : decode c_C_afterPullByte 15 = .ok (.if_acmp .ne 19, 3) := by decide +kernel
theorem d_C_afterPullByte_18 : decode c_C_afterPullByte 18 = .ok (.aload_n 0, 1) := by decide +kernel
theorem d_C_afterPullByte_19 : decode c_C_afterPullByte 19 = .ok (.getfield 20, 3) := by decide +kernel
theorem d_C_afterPullByte_22 : decode c_C_afterPullByte 22 = .ok (.iload_n 1, 1) := by decide +kernel
theorem d_C_afterPullByte_23 : decode c_C_afterPullByte 23 = .ok (.invokevirtual 102, 3) := by decide +kernel
theorem d_C_afterPullByte_26 : decode c_C_afterPullByte 26 = .ok (.aload_n 0, 1) := by decide +kernel
theorem d_C_afterPullByte_27 : decode c_C_afterPullByte 27 = .ok (.getstatic 390, 3) := by decide +kernel
theorem d_C_afterPullByte_30 : decode c_C_afterPullByte 30 = .ok (.putfield 30, 3) := by decide +kernel
theorem d_C_afterPullByte_33 : decode c_C_afterPullByte 33 = .ok (.return_, 1) := by decide +kernel
theorem d_C_afterPullByte_34 : decode c_C_afterPullByte 34 = .ok (.aload_n 0, 1) := by decide +kernel
theorem d_C_afterPullByte_35 : decode c_C_afterPullByte 35 = .ok (.getfield 144, 3) := by decide +kernel
theorem d_C_afterPullByte_38 : decode c_C_afterPullByte 38 = .ok (.bipush 17, 2) := by decide +kernel
theorem d_C_afterPullByte_40 : decode c_C_afterPullByte 40 = .ok (.if_icmp .ne 14, 3) := by decide +kernel
theorem d_C_afterPullByte_43 : decode c_C_afterPullByte 43 = .ok (.aload_n 0, 1) := by decide +kernel
theorem d_C_afterPullByte_44 : decode c_C_afterPullByte 44 = .ok (.getfield 20, 3) := by decide +kernel
theorem d_C_afterPullByte_47 : decode c_C_afterPullByte 47 = .ok (.iload_n 1, 1) := by decide +kernel
theorem d_C_afterPullByte_48 : decode c_C_afterPullByte 48 = .ok (.invokevirtual 396, 3) := by decide +kernel
theorem d_C_afterPullByte_51 : decode c_C_afterPullByte 51 = .ok (.goto 11, 3) := by decide +kernel
theorem d_C_afterPullByte_54 : decode c_C_afterPullByte 54 = .ok (.aload_n 0, 1) := by decide +kernel
theorem d_C_afterPullByte_55 : decode c_C_afterPullByte 55 = .ok (.getfield 20, 3) := by decide +kernel
theorem d_C_afterPullByte_58 : decode c_C_afterPullByte 58 = .ok (.iload_n 1, 1) := by decide +kernel
theorem d_C_afterPullByte_59 : decode c_C_afterPullByte 59 = .ok (.invokevirtual 102, 3) := by decide +kernel
theorem d_C_afterPullByte_62 : decode c_C_afterPullByte 62 = .ok (.aload_n 0, 1) := by decide +kernel
theorem d_C_afterPullByte_63 : decode c_C_afterPullByte 63 = .ok (.invokevirtual 161, 3) := by decide +kernel
theorem d_C_afterPullByte_66 : decode c_C_afterPullByte 66 = .ok (.return_, 1) := by decide +kernel
theorem d_C_afterPullLow_0 : decode c_C_afterPullLow 0 = .ok (.aload_n 0, 1) := by decide +kernel
theorem d_C_afterPullLow_1 : decode c_C_afterPullLow 1 = .ok (.getfield 20, 3) := by decide +kernel
theorem d_C_afterPullLow_4 : decode c_C_afterPullLow 4 = .ok (.iconst 1, 1) := by decide +kernel
theorem d_C_afterPullLow_5 : decode c_C_afterPullLow 5 = .ok (.invokevirtual 164, 3) := by decide +kernel
theorem d_C_afterPullLow_8 : decode c_C_afterPullLow 8 = .ok (.aload_n 0, 1) := by decide +kernel
theorem d_C_afterPullLow_9 : decode c_C_afterPullLow 9 = .ok (.iload_n 1, 1) := by decide +kernel
theorem d_C_afterPullLow_10 : decode c_C_afterPullLow 10 = .ok (.putfield 141, 3) := by decide +kernel
theorem d_C_afterPullLow_13 : decode c_C_afterPullLow 13 = .ok (.aload_n 0, 1) := by decide +kernel
theorem d_C_afterPullLow_14 : decode c_C_afterPullLow 14 = .ok (.getstatic 399, 3) := by decide +kernel
theorem d_C_afterPullLow_17 : decode c_C_afterPullLow 17 = .ok (.putfield 30, 3) := by decide +kernel
theorem d_C_afterPullLow_20 : decode c_C_afterPullLow 20 = .ok (.return_, 1) := by decide +kernel
theorem d_C_afterPullPage_0 : decode c_C_afterPullPage 0 = .ok (.aload_n 0, 1) := by decide +kernel
theorem d_C_afterPullPage_1 : decode c_C_afterPullPage 1 = .ok (.getfield 20, 3) := by decide +kernel
theorem d_C_afterPullPage_4 : decode c_C_afterPullPage 4 = .ok (.iconst 1, 1) := by decide +kernel
theorem d_C_afterPullPage_5 : decode c_C_afterPullPage 5 = .ok (.invokevirtual 164, 3) := by decide +kernel
theorem d_C_afterPullPage_8 : decode c_C_afterPullPage 8 = .ok (.aload_n 0, 1) := by decide +kernel
theorem d_C_afterPullPage_9 : decode c_C_afterPullPage 9 = .ok (.getfield 20, 3) := by decide +kernel
theorem d_C_afterPullPage_12 : decode c_C_afterPullPage 12 = .ok (.aload_n 0, 1) := by decide +kernel
theorem d_C_afterPullPage_13 : decode c_C_afterPullPage 13 = .ok (.getfield 141, 3) := by decide +kernel
theorem d_C_afterPullPage_16 : decode c_C_afterPullPage 16 = .ok (.sipush 256, 3) := by decide +kernel
theorem d_C_afterPullPage_19 : decode c_C_afterPullPage 19 = .ok (.iload_n 1, 1) := by decide +kernel
theorem d_C_afterPullPage_20 : decode c_C_afterPullPage 20 = .ok (.imul, 1) := by decide +kernel
theorem d_C_afterPullPage_21 : decode c_C_afterPullPage 21 = .ok (.iadd, 1) := by decide +kernel
theorem d_C_afterPullPage_22 : decode c_C_afterPullPage 22 = .ok (.putfield 86, 3) := by decide +kernel
theorem d_C_afterPullPage_25 : decode c_C_afterPullPage 25 = .ok (.aload_n 0, 1) := by decide +kernel
theorem d_C_afterPullPage_26 : decode c_C_afterPullPage 26 = .ok (.getfield 39, 3) := by decide +kernel
theorem d_C_afterPullPage_29 : decode c_C_afterPullPage 29 = .ok (.getstatic 314, 3) := by decide +kernel
theorem d_C_afterPullPage_32 : decode c_C_afterPullPage 32 = .ok (.if_acmp .ne 13, 3) := by decide +kernel
theorem d_C_afterPullPage_35 : decode c_C_afterPullPage 35 = .ok (.aload_n 0, 1) := by decide +kernel
theorem d_C_afterPullPage_36 : decode c_C_afterPullPage 36 = .ok (.getstatic 402, 3) := by decide +kernel
theorem d_C_afterPullPage_39 : decode c_C_afterPullPage 39 = .ok (.putfield 30, 3) := by decide +kernel
theorem d_C_afterPullPage_42 : decode c_C_afterPullPage 42 = .ok (.goto 7, 3) := by decide +kernel
theorem d_C_afterPullPage_45 : decode c_C_afterPullPage 45 = .ok (.aload_n 0, 1) := by decide +kernel
theorem d_C_afterPullPage_46 : decode c_C_afterPullPage 46 = .ok (.invokevirtual 161, 3) := by decide +kernel
theorem d_C_afterPullPage_49 : decode c_C_afterPullPage 49 = .ok (.return_, 1) := by decide +kernel
theorem d_C_afterVectorLow_0 : decode c_C_afterVectorLow 0 = .ok (.aload_n 0, 1) := by decide +kernel
theorem d_C_afterVectorLow_1 : decode c_C_afterVectorLow 1 = .ok (.iload_n 1, 1) := by decide +kernel
theorem d_C_afterVectorLow_2 : decode c_C_afterVectorLow 2 = .ok (.putfield 141, 3) := by decide +kernel
theorem d_C_afterVectorLow_5 : decode c_C_afterVectorLow 5 = .ok (.aload_n 0, 1) := by decide +kernel
theorem d_C_afterVectorLow_6 : decode c_C_afterVectorLow 6 = .ok (.aload_n 0, 1) := by decide +kernel
theorem d_C_afterVectorLow_7 : decode c_C_afterVectorLow 7 = .ok (.invokevirtual 109, 3) := by decide +kernel
theorem d_C_afterVectorLow_10 : decode c_C_afterVectorLow 10 = .ok (.iconst 1, 1) := by decide +kernel
theorem d_C_afterVectorLow_11 : decode c_C_afterVectorLow 11 = .ok (.iadd, 1) := by decide +kernel
theorem d_C_afterVectorLow_12 : decode c_C_afterVectorLow 12 = .ok (.putfield 127, 3) := by decide +kernel
theorem d_C_afterVectorLow_15 : decode c_C_afterVectorLow 15 = .ok (.aload_n 0, 1) := by decide +kernel
theorem d_C_afterVectorLow_16 : decode c_C_afterVectorLow 16 = .ok (.iconst 0, 1) := by decide +kernel
theorem d_C_afterVectorLow_17 : decode c_C_afterVectorLow 17 = .ok (.putfield 60, 3) := by decide +kernel
theorem d_C_afterVectorLow_20 : decode c_C_afterVectorLow 20 = .ok (.aload_n 0, 1) := by decide +kernel
theorem d_C_afterVectorLow_21 : decode c_C_afterVectorLow 21 = .ok (.getstatic 405, 3) := by decide +kernel
theorem d_C_afterVectorLow_24 : decode c_C_afterVectorLow 24 = .ok (.putfield 30, 3) := by decide +kernel
theorem d_C_afterVectorLow_27 : decode c_C_afterVectorLow 27 = .ok (.return_, 1) := by decide +kernel
theorem d_C_afterResetStack_0 : decode c_C_afterResetStack 0 = .ok (.aload_n 0, 1) := by decide +kernel
theorem d_C_afterResetStack_1 : decode c_C_afterResetStack 1 = .ok (.getfield 20, 3) := by decide +kernel
theorem d_C_afterResetStack_4 : decode c_C_afterResetStack 4 = .ok (.iconst (-1), 1) := by decide +kernel
theorem d_C_afterResetStack_5 : decode c_C_afterResetStack 5 = .ok (.invokevirtual 164, 3) := by decide +kernel
theorem d_C_afterResetStack_8 : decode c_C_afterResetStack 8 = .ok (.aload_n 0, 1) := by decide +kernel
theorem d_C_afterResetStack_9 : decode c_C_afterResetStack 9 = .ok (.aload_n 0, 1) := by decide +kernel
theorem d_C_afterResetStack_10 : decode c_C_afterResetStack 10 = .ok (.getfield 95, 3) := by decide +kernel
theorem d_C_afterResetStack_13 : decode c_C_afterResetStack 13 = .ok (.iconst 5, 1) := by decide +kernel
theorem d_C_afterResetStack_14 : decode c_C_afterResetStack 14 = .ok (.if_icmp .ge 9, 3) := by decide +kernel
theorem d_C_afterResetStack_17 : decode c_C_afterResetStack 17 = .ok (.getstatic 258, 3) := by decide +kernel
theorem d_C_afterResetStack_20 : decode c_C_afterResetStack 20 = .ok (.goto 6, 3) := by decide +kernel
theorem d_C_afterResetStack_23 : decode c_C_afterResetStack 23 = .ok (.getstatic 408, 3) := by decide +kernel
theorem d_C_afterResetStack_26 : decode c_C_afterResetStack 26 = .ok (.putfield 30, 3) := by decide +kernel
theorem d_C_afterResetStack_29 : decode c_C_afterResetStack 29 = .ok (.return_, 1) := by decide +kernel
theorem d_C_afterResetLow_0 : decode c_C_afterResetLow 0 = .ok (.aload_n 0, 1) := by decide +kernel
theorem d_C_afterResetLow_1 : decode c_C_afterResetLow 1 = .ok (.getfield 20, 3) := by decide +kernel
theorem d_C_afterResetLow_4 : decode c_C_afterResetLow 4 = .ok (.iconst 4, 1) := by decide +kernel
theorem d_C_afterResetLow_5 : decode c_C_afterResetLow 5 = .ok (.iconst 1, 1) := by decide +kernel
theorem d_C_afterResetLow_6 : decode c_C_afterResetLow 6 = .ok (.invokevirtual 105, 3) := by decide +kernel
theorem d_C_afterResetLow_9 : decode c_C_afterResetLow 9 = .ok (.aload_n 0, 1) := by decide +kernel
theorem d_C_afterResetLow_10 : decode c_C_afterResetLow 10 = .ok (.iload_n 1, 1) := by decide +kernel
theorem d_C_afterResetLow_11 : decode c_C_afterResetLow 11 = .ok (.putfield 141, 3) := by decide +kernel
theorem d_C_afterResetLow_14 : decode c_C_afterResetLow 14 = .ok (.aload_n 0, 1) := by decide +kernel
theorem d_C_afterResetLow_15 : decode c_C_afterResetLow 15 = .ok (.ldc_w 411, 3) := by decide +kernel
theorem d_C_afterResetLow_18 : decode c_C_afterResetLow 18 = .ok (.putfield 127, 3) := by decide +kernel
theorem d_C_afterResetLow_21 : decode c_C_afterResetLow 21 = .ok (.aload_n 0, 1) := by decide +kernel
theorem d_C_afterResetLow_22 : decode c_C_afterResetLow 22 = .ok (.getstatic 405, 3) := by decide +kernel
theorem d_C_afterResetLow_25 : decode c_C_afterResetLow 25 = .ok (.putfield 30, 3) := by decide +kernel
theorem d_C_afterResetLow_28 : decode c_C_afterResetLow 28 = .ok (.return_, 1) := by decide +kernel
theorem d_C_reset_0 : decode c_C_reset 0 = .ok (.aload_n 0, 1) := by decide +kernel
theorem d_C_reset_1 : decode c_C_reset 1 = .ok (.iconst 0, 1) := by decide +kernel
theorem d_C_reset_2 : decode c_C_reset 2 = .ok (.putfield 60, 3) := by decide +kernel
theorem d_C_reset_5 : decode c_C_reset 5 = .ok (.aload_n 0, 1) := by decide +kernel
theorem d_C_reset_6 : decode c_C_reset 6 = .ok (.getstatic 64, 3) := by decide +kernel
theorem d_C_reset_9 : decode c_C_reset 9 = .ok (.getstatic 67, 3) := by decide +kernel
theorem d_C_reset_12 : decode c_C_reset 12 = .ok (.invokevirtual 70, 3) := by decide +kernel
theorem d_C_reset_15 : decode c_C_reset 15 = .ok (.return_, 1) := by decide +kernel
theorem d_C_cycles_0 : decode c_C_cycles 0 = .ok (.iload_n 1, 1) := by decide +kernel
theorem d_C_cycles_1 : decode c_C_cycles 1 = .ok (.ifCond .lt 10, 3) := by decide +kernel
theorem d_C_cycles_4 : decode c_C_cycles 4 = .ok (.iload_n 1, 1) := by decide +kernel
theorem d_C_cycles_5 : decode c_C_cycles 5 = .ok (.sipush 200, 3) := by decide +kernel
theorem d_C_cycles_8 : decode c_C_cycles 8 = .ok (.if_icmp .le 11, 3) := by decide +kernel
theorem d_C_cycles_11 : decode c_C_cycles 11 = .ok (.new 46, 3) := by decide +kernel
theorem d_C_cycles_14 : decode c_C_cycles 14 = .ok (.dup, 1) := by decide +kernel
theorem d_C_cycles_15 : decode c_C_cycles 15 = .ok (.invokespecial 48, 3) := by decide +kernel
theorem d_C_cycles_18 : decode c_C_cycles 18 = .ok (.athrow, 1) := by decide +kernel
theorem d_C_cycles_19 : decode c_C_cycles 19 = .ok (.aload_n 0, 1) := by decide +kernel
theorem d_C_cycles_20 : decode c_C_cycles 20 = .ok (.getfield 49, 3) := by decide +kernel
theorem d_C_cycles_23 : decode c_C_cycles 23 = .ok (.istore_n 2, 1) := by decide +kernel
theorem d_C_cycles_24 : decode c_C_cycles 24 = .ok (.iconst 0, 1) := by decide +kernel
theorem d_C_cycles_25 : decode c_C_cycles 25 = .ok (.istore_n 3, 1) := by decide +kernel
theorem d_C_cycles_26 : decode c_C_cycles 26 = .ok (.iload_n 3, 1) := by decide +kernel
theorem d_C_cycles_27 : decode c_C_cycles 27 = .ok (.iload_n 1, 1) := by decide +kernel
theorem d_C_cycles_28 : decode c_C_cycles 28 = .ok (.if_icmp .ge 14, 3) := by decide +kernel
theorem d_C_cycles_31 : decode c_C_cycles 31 = .ok (.aload_n 0, 1) := by decide +kernel
theorem d_C_cycles_32 : decode c_C_cycles 32 = .ok (.invokevirtual 42, 3) := by decide +kernel
theorem d_C_cycles_35 : decode c_C_cycles 35 = .ok (.pop, 1) := by decide +kernel
theorem d_C_cycles_36 : decode c_C_cycles 36 = .ok (.iinc 3 1, 3) := by decide +kernel
theorem d_C_cycles_39 : decode c_C_cycles 39 = .ok (.goto (-13), 3) := by decide +kernel
theorem d_C_cycles_42 : decode c_C_cycles 42 = .ok (.aload_n 0, 1) := by decide +kernel
theorem d_C_cycles_43 : decode c_C_cycles 43 = .ok (.getfield 49, 3) := by decide +kernel
theorem d_C_cycles_46 : decode c_C_cycles 46 = .ok (.iload_n 2, 1) := by decide +kernel
theorem d_C_cycles_47 : decode c_C_cycles 47 = .ok (.isub, 1) := by decide +kernel
theorem d_C_cycles_48 : decode c_C_cycles 48 = .ok (.ireturn, 1) := by decide +kernel
theorem d_C_pin_0 : decode c_C_pin 0 = .ok (.iload_n 1, 1) := by decide +kernel
theorem d_C_pin_1 : decode c_C_pin 1 = .ok (.ifCond .lt 8, 3) := by decide +kernel
theorem d_C_pin_4 : decode c_C_pin 4 = .ok (.iload_n 1, 1) := by decide +kernel
theorem d_C_pin_5 : decode c_C_pin 5 = .ok (.iconst 4, 1) := by decide +kernel
theorem d_C_pin_6 : decode c_C_pin 6 = .ok (.if_icmp .lt 11, 3) := by decide +kernel
theorem d_C_pin_9 : decode c_C_pin 9 = .ok (.new 53, 3) := by decide +kernel
theorem d_C_pin_12 : decode c_C_pin 12 = .ok (.dup, 1) := by decide +kernel
theorem d_C_pin_13 : decode c_C_pin 13 = .ok (.invokespecial 55, 3) := by decide +kernel
theorem d_C_pin_16 : decode c_C_pin 16 = .ok (.athrow, 1) := by decide +kernel
theorem d_C_pin_17 : decode c_C_pin 17 = .ok (.aload_n 0, 1) := by decide +kernel
theorem d_C_pin_18 : decode c_C_pin 18 = .ok (.getfield 13, 3) := by decide +kernel
theorem d_C_pin_21 : decode c_C_pin 21 = .ok (.iload_n 1, 1) := by decide +kernel
theorem d_C_pin_22 : decode c_C_pin 22 = .ok (.baload, 1) := by decide +kernel
theorem d_C_pin_23 : decode c_C_pin 23 = .ok (.istore_n 3, 1) := by decide +kernel
theorem d_C_pin_24 : decode c_C_pin 24 = .ok (.aload_n 0, 1) := by decide +kernel
theorem d_C_pin_25 : decode c_C_pin 25 = .ok (.getfield 13, 3) := by decide +kernel
theorem d_C_pin_28 : decode c_C_pin 28 = .ok (.iload_n 1, 1) := by decide +kernel
theorem d_C_pin_29 : decode c_C_pin 29 = .ok (.iload_n 2, 1) := by decide +kernel
theorem d_C_pin_30 : decode c_C_pin 30 = .ok (.bastore, 1) := by decide +kernel
theorem d_C_pin_31 : decode c_C_pin 31 = .ok (.iload_n 2, 1) := by decide +kernel
theorem d_C_pin_32 : decode c_C_pin 32 = .ok (.ifCond .eq 12, 3) := by decide +kernel
theorem d_C_pin_35 : decode c_C_pin 35 = .ok (.iload_n 3, 1) := by decide +kernel
theorem d_C_pin_36 : decode c_C_pin 36 = .ok (.ifCond .ne 8, 3) := by decide +kernel
theorem d_C_pin_39 : decode c_C_pin 39 = .ok (.aload_n 0, 1) := by decide +kernel
theorem d_C_pin_40 : decode c_C_pin 40 = .ok (.iload_n 1, 1) := by decide +kernel
theorem d_C_pin_41 : decode c_C_pin 41 = .ok (.invokevirtual 56, 3) := by decide +kernel
theorem d_C_pin_44 : decode c_C_pin 44 = .ok (.iload_n 3, 1) := by decide +kernel
theorem d_C_pin_45 : decode c_C_pin 45 = .ok (.ireturn, 1) := by decide +kernel
theorem d_C_pinWentOn_0 : decode c_C_pinWentOn 0 = .ok (.iload_n 1, 1) := by decide +kernel
theorem d_C_pinWentOn_1 : decode c_C_pinWentOn 1 = .ok (.ifCond .ne 11, 3) := by decide +kernel
theorem d_C_pinWentOn_4 : decode c_C_pinWentOn 4 = .ok (.aload_n 0, 1) := by decide +kernel
theorem d_C_pinWentOn_5 : decode c_C_pinWentOn 5 = .ok (.iconst 1, 1) := by decide +kernel
theorem d_C_pinWentOn_6 : decode c_C_pinWentOn 6 = .ok (.putfield 60, 3) := by decide +kernel
theorem d_C_pinWentOn_9 : decode c_C_pinWentOn 9 = .ok (.goto 18, 3) := by decide +kernel
theorem d_C_pinWentOn_12 : decode c_C_pinWentOn 12 = .ok (.iload_n 1, 1) := by decide +kernel
theorem d_C_pinWentOn_13 : decode c_C_pinWentOn 13 = .ok (.iconst 3, 1) := by decide +kernel
theorem d_C_pinWentOn_14 : decode c_C_pinWentOn 14 = .ok (.if_icmp .ne 13, 3) := by decide +kernel
theorem d_C_pinWentOn_17 : decode c_C_pinWentOn 17 = .ok (.aload_n 0, 1) := by decide +kernel
theorem d_C_pinWentOn_18 : decode c_C_pinWentOn 18 = .ok (.getfield 20, 3) := by decide +kernel
theorem d_C_pinWentOn_21 : decode c_C_pinWentOn 21 = .ok (.bipush 64, 2) := by decide +kernel
theorem d_C_pinWentOn_23 : decode c_C_pinWentOn 23 = .ok (.iconst 1, 1) := by decide +kernel
theorem d_C_pinWentOn_24 : decode c_C_pinWentOn 24 = .ok (.invokevirtual 105, 3) := by decide +kernel
theorem d_C_pinWentOn_27 : decode c_C_pinWentOn 27 = .ok (.return_, 1) := by decide +kernel
theorem d_C_register_0 : decode c_C_register 0 = .ok (.iload_n 1, 1) := by decide +kernel
theorem d_C_register_1 : decode c_C_register 1 = .ok (.ifCond .lt 9, 3) := by decide +kernel
theorem d_C_register_4 : decode c_C_register 4 = .ok (.iload_n 1, 1) := by decide +kernel
theorem d_C_register_5 : decode c_C_register 5 = .ok (.bipush 7, 2) := by decide +kernel
theorem d_C_register_7 : decode c_C_register 7 = .ok (.if_icmp .le 11, 3) := by decide +kernel
theorem d_C_register_10 : decode c_C_register 10 = .ok (.new 53, 3) := by decide +kernel
theorem d_C_register_13 : decode c_C_register 13 = .ok (.dup, 1) := by decide +kernel
theorem d_C_register_14 : decode c_C_register 14 = .ok (.invokespecial 55, 3) := by decide +kernel
theorem d_C_register_17 : decode c_C_register 17 = .ok (.athrow, 1) := by decide +kernel
theorem d_C_register_18 : decode c_C_register 18 = .ok (.iload_n 1, 1) := by decide +kernel
theorem d_C_register_19 : decode c_C_register 19 = .ok (.tableswitch 119 0 6 #[41, 51, 61, 71, 81, 91, 101], 41) := by decide +kernel
theorem d_C_register_60 : decode c_C_register 60 = .ok (.aload_n 0, 1) := by decide +kernel
theorem d_C_register_61 : decode c_C_register 61 = .ok (.getfield 20, 3) := by decide +kernel
theorem d_C_register_64 : decode c_C_register 64 = .ok (.getfield 74, 3) := by decide +kernel
theorem d_C_register_67 : decode c_C_register 67 = .ok (.goto 75, 3) := by decide +kernel
theorem d_C_register_70 : decode c_C_register 70 = .ok (.aload_n 0, 1) := by decide +kernel
theorem d_C_register_71 : decode c_C_register 71 = .ok (.getfield 20, 3) := by decide +kernel
theorem d_C_register_74 : decode c_C_register 74 = .ok (.getfield 77, 3) := by decide +kernel
theorem d_C_register_77 : decode c_C_register 77 = .ok (.goto 65, 3) := by decide +kernel
theorem d_C_register_80 : decode c_C_register 80 = .ok (.aload_n 0, 1) := by decide +kernel
theorem d_C_register_81 : decode c_C_register 81 = .ok (.getfield 20, 3) := by decide +kernel
theorem d_C_register_84 : decode c_C_register 84 = .ok (.getfield 80, 3) := by decide +kernel
theorem d_C_register_87 : decode c_C_register 87 = .ok (.goto 55, 3) := by decide +kernel
theorem d_C_register_90 : decode c_C_register 90 = .ok (.aload_n 0, 1) := by decide +kernel
theorem d_C_register_91 : decode c_C_register 91 = .ok (.getfield 20, 3) := by decide +kernel
theorem d_C_register_94 : decode c_C_register 94 = .ok (.getfield 83, 3) := by decide +kernel
theorem d_C_register_97 : decode c_C_register 97 = .ok (.goto 45, 3) := by decide +kernel
theorem d_C_register_100 : decode c_C_register 100 = .ok (.aload_n 0, 1) := by decide +kernel
theorem d_C_register_101 : decode c_C_register 101 = .ok (.getfield 20, 3) := by decide +kernel
theorem d_C_register_104 : decode c_C_register 104 = .ok (.getfield 86, 3) := by decide +kernel
theorem d_C_register_107 : decode c_C_register 107 = .ok (.goto 35, 3) := by decide +kernel
theorem d_C_register_110 : decode c_C_register 110 = .ok (.aload_n 0, 1) := by decide +kernel
theorem d_C_register_111 : decode c_C_register 111 = .ok (.getfield 20, 3) := by decide +kernel
theorem d_C_register_114 : decode c_C_register 114 = .ok (.invokevirtual 89, 3) := by decide +kernel
theorem d_C_register_117 : decode c_C_register 117 = .ok (.goto 25, 3) := by decide +kernel
theorem d_C_register_120 : decode c_C_register 120 = .ok (.aload_n 0, 1) := by decide +kernel
theorem d_C_register_121 : decode c_C_register 121 = .ok (.getfield 30, 3) := by decide +kernel
theorem d_C_register_124 : decode c_C_register 124 = .ok (.getstatic 92, 3) := by decide +kernel
theorem d_C_register_127 : decode c_C_register 127 = .ok (.if_acmp .ne 7, 3) := by decide +kernel
theorem d_C_register_130 : decode c_C_register 130 = .ok (.iconst 1, 1) := by decide +kernel
theorem d_C_register_131 : decode c_C_register 131 = .ok (.goto 11, 3) := by decide +kernel
theorem d_C_register_134 : decode c_C_register 134 = .ok (.iconst 0, 1) := by decide +kernel
theorem d_C_register_135 : decode c_C_register 135 = .ok (.goto 7, 3) := by decide +kernel
theorem d_C_register_138 : decode c_C_register 138 = .ok (.aload_n 0, 1) := by decide +kernel
theorem d_C_register_139 : decode c_C_register 139 = .ok (.getfield 95, 3) := by decide +kernel
theorem d_C_register_142 : decode c_C_register 142 = .ok (.ireturn, 1) := by decide +kernel
theorem d_C_set_0 : decode c_C_set 0 = .ok (.iload_n 1, 1) := by decide +kernel
theorem d_C_set_1 : decode c_C_set 1 = .ok (.ifCond .lt 8, 3) := by decide +kernel
theorem d_C_set_4 : decode c_C_set 4 = .ok (.iload_n 1, 1) := by decide +kernel
theorem d_C_set_5 : decode c_C_set 5 = .ok (.iconst 5, 1) := by decide +kernel
theorem d_C_set_6 : decode c_C_set 6 = .ok (.if_icmp .le 11, 3) := by decide +kernel
theorem d_C_set_9 : decode c_C_set 9 = .ok (.new 53, 3) := by decide +kernel
theorem d_C_set_12 : decode c_C_set 12 = .ok (.dup, 1) := by decide +kernel
theorem d_C_set_13 : decode c_C_set 13 = .ok (.invokespecial 55, 3) := by decide +kernel
theorem d_C_set_16 : decode c_C_set 16 = .ok (.athrow, 1) := by decide +kernel
theorem d_C_set_17 : decode c_C_set 17 = .ok (.aload_n 0, 1) := by decide +kernel
theorem d_C_set_18 : decode c_C_set 18 = .ok (.getfield 30, 3) := by decide +kernel
theorem d_C_set_21 : decode c_C_set 21 = .ok (.getstatic 24, 3) := by decide +kernel
theorem d_C_set_24 : decode c_C_set 24 = .ok (.if_acmp .eq 11, 3) := by decide +kernel
theorem d_C_set_27 : decode c_C_set 27 = .ok (.new 98, 3) := by decide +kernel
theorem d_C_set_30 : decode c_C_set 30 = .ok (.dup, 1) := by decide +kernel
theorem d_C_set_31 : decode c_C_set 31 = .ok (.invokespecial 100, 3) := by decide +kernel
theorem d_C_set_34 : decode c_C_set 34 = .ok (.athrow, 1) := by decide +kernel
theorem d_C_set_35 : decode c_C_set 35 = .ok (.iload_n 1, 1) := by decide +kernel
theorem d_C_set_36 : decode c_C_set 36 = .ok (.tableswitch 110 0 4 #[36, 51, 66, 81, 96], 36) := by decide +kernel
theorem d_C_set_72 : decode c_C_set 72 = .ok (.aload_n 0, 1) := by decide +kernel
theorem d_C_set_73 : decode c_C_set 73 = .ok (.getfield 20, 3) := by decide +kernel
theorem d_C_set_76 : decode c_C_set 76 = .ok (.iload_n 2, 1) := by decide +kernel
theorem d_C_set_77 : decode c_C_set 77 = .ok (.sipush 255, 3) := by decide +kernel
theorem d_C_set_80 : decode c_C_set 80 = .ok (.iand, 1) := by decide +kernel
theorem d_C_set_81 : decode c_C_set 81 = .ok (.putfield 74, 3) := by decide +kernel
theorem d_C_set_84 : decode c_C_set 84 = .ok (.goto 70, 3) := by decide +kernel
theorem d_C_set_87 : decode c_C_set 87 = .ok (.aload_n 0, 1) := by decide +kernel
theorem d_C_set_88 : decode c_C_set 88 = .ok (.getfield 20, 3) := by decide +kernel
theorem d_C_set_91 : decode c_C_set 91 = .ok (.iload_n 2, 1) := by decide +kernel
theorem d_C_set_92 : decode c_C_set 92 = .ok (.sipush 255, 3) := by decide +kernel
theorem d_C_set_95 : decode c_C_set 95 = .ok (.iand, 1) := by decide +kernel
theorem d_C_set_96 : decode c_C_set 96 = .ok (.putfield 77, 3) := by decide +kernel
theorem d_C_set_99 : decode c_C_set 99 = .ok (.goto 55, 3) := by decide +kernel
theorem d_C_set_102 : decode c_C_set 102 = .ok (.aload_n 0, 1) := by decide +kernel
theorem d_C_set_103 : decode c_C_set 103 = .ok (.getfield 20, 3) := by decide +kernel
theorem d_C_set_106 : decode c_C_set 106 = .ok (.iload_n 2, 1) := by decide +kernel
theorem d_C_set_107 : decode c_C_set 107 = .ok (.sipush 255, 3) := by decide +kernel
theorem d_C_set_110 : decode c_C_set 110 = .ok (.iand, 1) := by decide +kernel
theorem d_C_set_111 : decode c_C_set 111 = .ok (.putfield 80, 3) := by decide +kernel
theorem d_C_set_114 : decode c_C_set 114 = .ok (.goto 40, 3) := by decide +kernel
theorem d_C_set_117 : decode c_C_set 117 = .ok (.aload_n 0, 1) := by decide +kernel
theorem d_C_set_118 : decode c_C_set 118 = .ok (.getfield 20, 3) := by decide +kernel
theorem d_C_set_121 : decode c_C_set 121 = .ok (.iload_n 2, 1) := by decide +kernel
theorem d_C_set_122 : decode c_C_set 122 = .ok (.sipush 255, 3) := by decide +kernel
theorem d_C_set_125 : decode c_C_set 125 = .ok (.iand, 1) := by decide +kernel
theorem d_C_set_126 : decode c_C_set 126 = .ok (.putfield 83, 3) := by decide +kernel
theorem d_C_set_129 : decode c_C_set 129 = .ok (.goto 25, 3) := by decide +kernel
theorem d_C_set_132 : decode c_C_set 132 = .ok (.aload_n 0, 1) := by decide +kernel
theorem d_C_set_133 : decode c_C_set 133 = .ok (.getfield 20, 3) := by decide +kernel
theorem d_C_set_136 : decode c_C_set 136 = .ok (.iload_n 2, 1) := by decide +kernel
theorem d_C_set_137 : decode c_C_set 137 = .ok (.ldc 101, 2) := by decide +kernel
theorem d_C_set_139 : decode c_C_set 139 = .ok (.iand, 1) := by decide +kernel
theorem d_C_set_140 : decode c_C_set 140 = .ok (.putfield 86, 3) := by decide +kernel
theorem d_C_set_143 : decode c_C_set 143 = .ok (.goto 11, 3) := by decide +kernel
theorem d_C_set_146 : decode c_C_set 146 = .ok (.aload_n 0, 1) := by decide +kernel
theorem d_C_set_147 : decode c_C_set 147 = .ok (.getfield 20, 3) := by decide +kernel
theorem d_C_set_150 : decode c_C_set 150 = .ok (.iload_n 2, 1) := by decide +kernel
theorem d_C_set_151 : decode c_C_set 151 = .ok (.invokevirtual 102, 3) := by decide +kernel
theorem d_C_set_154 : decode c_C_set 154 = .ok (.return_, 1) := by decide +kernel
end
section
/-! the state of the class, of the reference, and the world that holds both -/
abbrev CS : Type := (Nat → Int32) × Fin 35 × Fin 16 × (Nat → Int32) × (Nat → Int32)
abbrev MS : Type := (Nat → Int32) × (Nat → Int32)
-- ints of the class: 0 a 1 x 2 y 3 s 4 pc 5 flags 6 nmiWanted 7 operation 8 mode 9 done 10 ended 11 aim 12 target 13 held; then step, kind, memory, pins
def sV (st : CS) (k : Nat) (x : Int32) : CS := (upd st.1 k x, st.2)
def sS (st : CS) (k : Fin 35) : CS := (st.1, k, st.2.2)
def sK (st : CS) (k : Fin 16) : CS := (st.1, st.2.1, k, st.2.2.2)
def sM (st : CS) (i x : Int32) : CS := (st.1, st.2.1, st.2.2.1, upd st.2.2.2.1 (i &&& 1023).toNatClampNeg x, st.2.2.2.2)
def sP (st : CS) (i x : Int32) : CS := (st.1, st.2.1, st.2.2.1, st.2.2.2.1, upd st.2.2.2.2 i.toNatClampNeg (vp_nar .boolean x))
def rM (st : CS) (i : Int32) : Int32 := st.2.2.2.1 (i &&& 1023).toNatClampNeg
def rP (st : CS) (i : Int32) : Int32 := st.2.2.2.2 i.toNatClampNeg
-- ints of the reference: 0 a 1 x 2 y 3 s 4 pc 5 flags 6 nmi 7 irq 8 ready 9 so 10 wanted 11 going 12 done 13 jam 14 operation 15 mode 16 z 17 high 18 low 19 vector 20 change 21 taken 22 halves 23 address 24 writes 25 value 26 ends 27 thrown; then memory
def tV (rt : MS) (k : Nat) (x : Int32) : MS := (upd rt.1 k x, rt.2)
def tM (rt : MS) (i x : Int32) : MS := (rt.1, upd rt.2 (i &&& 1023).toNatClampNeg x)
def uM (rt : MS) (i : Int32) : Int32 := rt.2 (i &&& 1023).toNatClampNeg
-- addresses and class numbers
abbrev CG : Type := va_G × (Nat → Nat) × (Nat → ClassId) × (Nat → Nat) × (Nat → Nat)
abbrev CG.chip (g : CG) : Nat := g.2.1 0
abbrev CG.mem (g : CG) : Nat := g.2.1 1
abbrev CG.pins (g : CG) : Nat := g.2.1 2
abbrev CG.regs (g : CG) : Nat := g.2.1 3
abbrev CG.model (g : CG) : Nat := g.2.1 4
abbrev CG.mmem (g : CG) : Nat := g.2.1 5
abbrev CG.out (g : CG) : Nat := g.2.1 6
abbrev CG.mapS (g : CG) : Nat := g.2.1 7
abbrev CG.mapK (g : CG) : Nat := g.2.1 8
abbrev CG.cI (g : CG) : ClassId := g.2.2.1 0
abbrev CG.cZ (g : CG) : ClassId := g.2.2.1 1
abbrev CG.cL (g : CG) : ClassId := g.2.2.1 2
abbrev CG.adS (g : CG) : Nat → Nat := g.2.2.2.1
abbrev CG.adK (g : CG) : Nat → Nat := g.2.2.2.2
abbrev tysG (g : CG) : List (ClassId × FieldType) := [(g.cI, .int), (g.cZ, .boolean), (g.cL, .long)]
def fsC (g : CG) (st : CS) : List Value := [.ref g.mem, .ref g.pins, .ref g.regs, .int (st.1 6), .ref (g.adS st.2.1.val), .ref (g.adK st.2.2.1.val), .int (st.1 7), .int (st.1 8), .int (st.1 9), .int (st.1 10), .int (st.1 11), .int (st.1 12), .int (st.1 13)]
def fsR (st : CS) : List Value := [.int (st.1 0), .int (st.1 1), .int (st.1 2), .int (st.1 3), .int (st.1 4), .int (st.1 5)]
def fsM (g : CG) (rt : MS) : List Value := [.ref g.mmem, .int (rt.1 0), .int (rt.1 1), .int (rt.1 2), .int (rt.1 3), .int (rt.1 4), .int (rt.1 5), .int (rt.1 6), .int (rt.1 7), .int (rt.1 8), .int (rt.1 9), .int (rt.1 10), .int (rt.1 11), .int (rt.1 12), .int (rt.1 13), .int (rt.1 14), .int (rt.1 15), .int (rt.1 16), .int (rt.1 17), .int (rt.1 18), .int (rt.1 19), .int (rt.1 20), .int (rt.1 21), .int (rt.1 22), .int (rt.1 23), .int (rt.1 24), .int (rt.1 25), .int (rt.1 26), .int (rt.1 27)]
def wC (g : CG) (rt : MS) (o : Nat → Int64) (st : CS) : va_W := [(g.chip, .inr (iC, fsC g st)), (g.mem, .inl (g.cI, 1024, .inl st.2.2.2.1)), (g.pins, .inl (g.cZ, 4, .inl st.2.2.2.2)), (g.regs, .inr (iR, fsR st)), (g.model, .inr (iM, fsM g rt)), (g.mmem, .inl (g.cI, 1024, .inl rt.2)), (g.out, .inl (g.cL, 1, .inr (.inl o)))]
def wM (g : CG) (st : CS) (o : Nat → Int64) (rt : MS) : va_W := wC g rt o st
-- constants: the two enums, the two switch maps
def nmS : List String := ["FETCH", "IMMEDIATE", "ZERO_BYTE", "ZERO_IDLE", "POINTER_LOW", "POINTER_PAGE", "FAR_LOW", "FAR_PAGE", "HALF_IDLE", "OPERAND", "STORE", "CHANGE_READ", "CHANGE_SAME", "CHANGE_NEW", "BRANCH_DISTANCE", "BRANCH_IDLE", "BRANCH_OTHER_PAGE", "BREAK_NEXT", "PC_IDLE", "STACK_IDLE", "PUSH_REGISTER", "PUSH_PAGE", "PUSH_LOW", "PUSH_P", "PULL_BYTE", "PULL_LOW", "PULL_PAGE", "RETURN_IDLE", "INTERRUPT_IDLE", "VECTOR_LOW", "VECTOR_PAGE", "RESET_IDLE", "RESET_STACK", "RESET_LOW", "JAMMED"]
def nmK : List String := ["READ", "STORE", "CHANGE", "BRANCH", "JUMP", "CALL", "ON_REGISTERS", "PUSH", "PULL", "RETURN", "RETURN_FROM_INTERRUPT", "BREAK", "JAM", "INTERRUPT", "RESET", "NOT_READ_YET"]
def oLS : List Int32 := [0, 1, 2, 3, 4, 5, 6, 7, 8, 9, 10, 11, 12, 13, 14, 15, 16, 17, 18, 19, 20, 21, 22, 23, 24, 25, 26, 27, 28, 29, 30, 31, 32, 33, 34]
def oLK : List Int32 := [0, 1, 2, 3, 4, 5, 6, 7, 8, 9, 10, 11, 12, 13, 14, 15]
def plL : List Int32 := [0, 0, 0, 1, 1, 1, 0, 0, 1, 1, 1, 1, 1, 1, 0, 0, 1, 0, 0, 2, 2, 2, 2, 2, 3, 3, 3, 0, 0, 4, 1, 0, 2, 5, 6]
def wrL : List Int32 := [0, 0, 0, 0, 0, 0, 0, 0, 0, 0, 1, 0, 1, 1, 0, 0, 0, 0, 0, 0, 1, 1, 1, 1, 0, 0, 0, 0, 0, 0, 0, 0, 0, 0, 0]
def swLS : List Int32 := [8, 9, 10, 11, 12, 13, 14, 15, 16, 17, 1, 18, 2, 3, 19, 20, 21, 22, 23, 25, 4, 5, 6, 7, 26, 27, 28, 29, 30, 31, 32, 33, 34, 0, 24]
def swLK : List Int32 := [1, 2, 3, 4, 5, 6, 0, 0, 0, 9, 0, 7, 8, 0, 0, 0]
def oS (k : Fin 35) : Int32 := oLS.getD k.val 0
def oK (k : Fin 16) : Int32 := oLK.getD k.val 0
def plS (k : Fin 35) : Int32 := plL.getD k.val 0
def wrS (k : Fin 35) : Int32 := wrL.getD k.val 0
def swS (k : Fin 35) : Int32 := swLS.getD k.val 0
def swK (k : Fin 16) : Int32 := swLK.getD k.val 0
def FS : List (String × String × String × List Int32) := [("java/lang/Enum", "ordinal", "I", oLS), ("ClockedChip$Step", "place", "I", plL), ("ClockedChip$Step", "writes", "Z", wrL)]
def FK : List (String × String × String × List Int32) := [("java/lang/Enum", "ordinal", "I", oLK)]
def EnS (g : CG) (A : Nat → Prop) (U : State) (H : Heap) : Prop := va_En "ClockedChip$Step" "LClockedChip$Step;" nmS FS g.adS A U H
def EnK (g : CG) (A : Nat → Prop) (U : State) (H : Heap) : Prop := va_En "ClockedChip$Kind" "LClockedChip$Kind;" nmK FK g.adK A U H
def ENV (g : CG) (A : Nat → Prop) (U : State) (H : Heap) : Prop :=
  EnS g A U H ∧ EnK g A U H ∧ va_Z "ClockedChip$1" "$SwitchMap$ClockedChip$Step" "[I" (.ref g.mapS) A U H ∧ va_Z "ClockedChip$1" "$SwitchMap$ClockedChip$Kind" "[I" (.ref g.mapK) A U H ∧
  va_T .int g.mapS 35 (fun j => .int (swLS.getD j 0)) A U H ∧ va_T .int g.mapK 16 (fun j => .int (swLK.getD j 0)) A U H ∧ NW U
theorem NW_warm {s U : State} (hW : s.WarmedH U.vm) (h : NW s) : NW U := fun w hw hn => by
  cases w with
  | fieldLinkNest a i b n d hh => exact va_Nw.warmF hW (h _ hw hn)
  | methodLinkNest a i x hh => exact va_Nw.warmM hW (h _ hw hn)
  | _ => simp [isNest] at hn
theorem NW_same {s U : State} (hv : s.vm = U.vm) (h : NW s) : NW U := fun w hw hn => by
  cases w with
  | fieldLinkNest a i b n d hh => exact va_Nw.same rfl hv (h _ hw hn)
  | methodLinkNest a i x hh => exact va_Nw.same rfl hv (h _ hw hn)
  | _ => simp [isNest] at hn
theorem ENV_warm {g : CG} {A : Nat → Prop} {s U : State} {H : Heap} (hW : s.WarmedH U.vm) (h : ENV g A s H) : ENV g A U H :=
  ⟨va_En.moved hW.alike h.1, va_En.moved hW.alike h.2.1, va_Z.moved hW.alike h.2.2.1, va_Z.moved hW.alike h.2.2.2.1, va_T.moved hW.alike h.2.2.2.2.1, va_T.moved hW.alike h.2.2.2.2.2.1, NW_warm hW h.2.2.2.2.2.2⟩
theorem ENV_same {g : CG} {A : Nat → Prop} {s U : State} {H : Heap} (hv : s.vm = U.vm) (h : ENV g A s H) : ENV g A U H :=
  have hA : s.vm.Alike U.vm := hv ▸ Vm.Alike.refl s.vm
  ⟨va_En.moved hA h.1, va_En.moved hA h.2.1, va_Z.moved hA h.2.2.1, va_Z.moved hA h.2.2.2.1, va_T.moved hA h.2.2.2.2.1, va_T.moved hA h.2.2.2.2.2.1, NW_same hv h.2.2.2.2.2.2⟩
theorem ENV_kept {g : CG} {A : Nat → Prop} {U : State} {H H1 : Heap} (h : ENV g A U H) (hq : ∀ a : Nat, a < H.size → ¬ A a → H1[a]? = H[a]?) : ENV g A U H1 :=
  ⟨va_En.kept h.1 hq, va_En.kept h.2.1 hq, va_Z.kept h.2.2.1 hq, va_Z.kept h.2.2.2.1 hq, va_T.kept h.2.2.2.2.1 hq, va_T.kept h.2.2.2.2.2.1 hq, h.2.2.2.2.2.2⟩
theorem ENV_narrow {g : CG} {A B : Nat → Prop} {U : State} {H : Heap} (h : ENV g A U H) (hAB : ∀ q, B q → A q) : ENV g B U H :=
  ⟨va_En.narrow h.1 hAB, va_En.narrow h.2.1 hAB, va_Z.narrow h.2.2.1 hAB, va_Z.narrow h.2.2.2.1 hAB, va_T.narrow h.2.2.2.2.1 hAB, va_T.narrow h.2.2.2.2.2.1 hAB, h.2.2.2.2.2.2⟩
end
section
/-! my own frame: pure steps, the world in a walk, contracts over a whole world, calls -/
def bS {α β : Type} (x : α) (f : α → β) : β := f x
def bP {α β γ : Type} (x : α × β) (f : α → β → γ) : γ := f x.1 x.2
theorem bS_go {α β : Type} {x y : α} {f : α → β} {r : β} (h : bS x f = r) (e : x = y) : f y = r := by subst e; exact h
theorem bP_go {α β γ : Type} {x : α × β} {a : α} {b : β} {f : α → β → γ} {r : γ} (h : bP x f = r) (e : x = (a, b)) : f a b = r := by subst e; exact h
theorem if_go {α : Type} {c : Prop} [Decidable c] {a b r : α} (h : (if c then a else b) = r) (hc : c) : a = r := by rw [if_pos hc] at h; exact h
theorem if_no {α : Type} {c : Prop} [Decidable c] {a b r : α} (h : (if c then a else b) = r) (hc : ¬ c) : b = r := by rw [if_neg hc] at h; exact h
theorem b0 : (0 : Int32) = 0 ∨ (0 : Int32) = 1 := Or.inl rfl
theorem b1 : (1 : Int32) = 0 ∨ (1 : Int32) = 1 := Or.inr rfl
theorem ck_nz {x : Int32} (h : x = 0 ∨ x = 1) : narrow .boolean (.int x) = .int x := by rcases h with rfl | rfl <;> rfl
theorem ck_fz {x : Int32} (h : x = 0 ∨ x = 1) : fits .boolean (.int x) = true := by rcases h with rfl | rfl <;> rfl
theorem ck_fr {A : Nat → Prop} {ws : va_W} {H0 H : Heap} {locs : List Loc} (hD : va_D A ws) (hS : va_S A H0 H locs) (hA : ∀ q, H0.size ≤ q → A q) : ∀ q, va_A ws H.size q → A q := by
  intro q h
  rcases h with ⟨k, e, h⟩ | h
  · exact hD.2 k (q, e) h
  · exact hA q (Nat.le_trans hS.1 h)
/-- what stands through a walk: machine, code, words, classes, constants, frame -/
def FX (p : Program) (m : MethodId) (c : Code) (cc : ByteArray) (nL : Nat) (s : State) (args : Array Value) (own : String) (g : CG) (A : Nat → Prop) : Prop :=
  (p.tables.exec = Jvm.exec ∧ c.code = cc ∧ c.maxLocals = nL ∧ s.vm.findClass own = some m.cls ∧ ∀ w ∈ ALL, w.before args s = true) ∧ va_K g.1 CL (tysG g) s ∧ ENV g A s s.heap ∧ ∀ q, s.heap.size ≤ q → A q
/-- the world now -/
def HC (g : CG) (A : Nat → Prop) (s : State) (ws : va_W) (H : Heap) (locs : List Loc) : Prop := va_P g.1 CL ws H ∧ va_D A ws ∧ va_S A s.heap H locs
def pre7 (g : CG) (ws : va_W) (sz : Nat) (U : State) : Prop := U.heap.size = sz ∧ va_P g.1 CL ws U.heap ∧ va_K g.1 CL (tysG g) U ∧ va_D (fun _ => True) ws ∧ ENV g (va_A ws sz) U U.heap
def post7 (g : CG) (w0 w1 : va_W) (sz : Nat) (t : State) : Prop := va_P g.1 CL w1 t.heap ∧ va_K g.1 CL (tysG g) t ∧ va_D (va_A w0 sz) w1
theorem pre7_blind {g : CG} {ws : va_W} {sz : Nat} {av : List Value} : FrameBlind (va_Pc av (pre7 g ws sz)) := fun a U f mk q => by
  obtain ⟨q0, q1, qP, qK, qD, qE⟩ := q
  exact ⟨q0, q1, qP, va_K.moved (u := U) (U := U.calling f mk a) (Vm.Alike.refl U.vm) qK, qD, ENV_same (s := U) (U := U.calling f mk a) rfl qE⟩
section KA
variable {σ : Type}
/-- contracts of methods that keep the world's shape: an int, nothing, a long, a constant comes back -/
def KI (l : Launch) (g : CG) (y : MethodName) (ws : List Cond) (rm : Room) (av : List Value) (Wd : σ → va_W) (st : σ) (f : Int32 × σ) : Prop :=
  ∀ sz : Nat, Met l y ws rm (va_Pc av (pre7 g (Wd st) sz)) (va_Qi (fun r u => f = (r, u)) (fun u t => post7 g (Wd st) (Wd u) sz t) (va_A (Wd st) sz)) 0 0 (va_A (Wd st) sz)
def KZ (l : Launch) (g : CG) (y : MethodName) (ws : List Cond) (rm : Room) (av : List Value) (Wd : σ → va_W) (st : σ) (f : Int32 × σ) : Prop :=
  ∀ sz : Nat, Met l y ws rm (va_Pc av (pre7 g (Wd st) sz)) (va_Qi (fun r u => f = (r, u) ∧ (r = 0 ∨ r = 1)) (fun u t => post7 g (Wd st) (Wd u) sz t) (va_A (Wd st) sz)) 0 0 (va_A (Wd st) sz)
def KJ (l : Launch) (g : CG) (y : MethodName) (ws : List Cond) (rm : Room) (av : List Value) (Wd : σ → va_W) (st : σ) (f : Int64 × σ) : Prop :=
  ∀ sz : Nat, Met l y ws rm (va_Pc av (pre7 g (Wd st) sz)) (va_Ql (fun r u => f = (r, u)) (fun u t => post7 g (Wd st) (Wd u) sz t) (va_A (Wd st) sz)) 0 0 (va_A (Wd st) sz)
def KV (l : Launch) (g : CG) (y : MethodName) (ws : List Cond) (rm : Room) (av : List Value) (Wd : σ → va_W) (st : σ) (f : σ) : Prop :=
  ∀ sz : Nat, Met l y ws rm (va_Pc av (pre7 g (Wd st) sz)) (va_Qv (fun u => f = u) (fun u t => post7 g (Wd st) (Wd u) sz t) (va_A (Wd st) sz)) 0 0 (va_A (Wd st) sz)
def KE (ad : Nat → Nat) (N : Nat) (l : Launch) (g : CG) (y : MethodName) (ws : List Cond) (rm : Room) (av : List Value) (Wd : σ → va_W) (st : σ) (f : Fin N × σ) : Prop :=
  ∀ sz : Nat, Met l y ws rm (va_Pc av (pre7 g (Wd st) sz)) (va_Qr (fun u => f = u) (fun u a t => a = ad u.1.val ∧ post7 g (Wd st) (Wd u.2) sz t) (va_A (Wd st) sz)) 0 0 (va_A (Wd st) sz)
end KA
section KW
variable {σ : Type} {p : Program} {l : Launch} {e : Env} {R : Room} {s : State} {m : MethodId} {args : Array Value} {below : List Frame} {meth : Method} {c : Code} {H : Heap} {locs : List Loc} {cells slots : Nat} {Q : State → Prop}
variable {cc bytes : ByteArray} {pc nL maxL index : Nat} {ls : Array Slot} {rest st0 : List Value} {own host : String} {g : CG} {A : Nat → Prop} {y : MethodName} {ret : Option FieldType} {rm : Room} {Wd : σ → va_W} {st : σ} {As : List Value} {b q0 ci : Nat} {fs : List Value} {q : vw_C}
theorem FX_xb (X : FX p m c cc nL s args own g A) : p.tables.exec = Jvm.exec ∧ c.code = cc := ⟨X.1.1, X.1.2.1⟩
theorem HC_pre (X : FX p m c cc nL s args own g A) (hC : HC g A s (Wd st) H locs) (av : List Value) : PreS s H (va_Pc av (pre7 g (Wd st) H.size)) av := by
  obtain ⟨hP, hD, hS⟩ := hC
  obtain ⟨-, hK, hE, hA⟩ := X
  exact ⟨pre7_blind, fun U hU hW => ⟨rfl, by rw [hU], by rw [hU]; exact hP, va_K.moved hW.alike hK, hD.weaken (fun _ _ _ _ => trivial), by rw [hU]; exact ENV_narrow (ENV_warm hW (ENV_kept hE hS.2.1)) (ck_fr hD hS hA)⟩⟩
theorem HC_behind {w1 : va_W} {t : State} {H1 : Heap} {locs1 : List Loc} (X : FX p m c cc nL s args own g A) (hC : HC g A s (Wd st) H locs) (ht : t.heap = H1) (hB : post7 g (Wd st) w1 H.size t) (hS : va_S A s.heap H1 locs1) : HC g A s w1 H1 locs1 :=
  ⟨by rw [← ht]; exact hB.1, hB.2.2.weaken (fun _ _ _ h => ck_fr hC.2.1 hC.2.2 X.2.2.2 _ h), hS⟩
abbrev CNV (R : Room) (s : State) (args : Array Value) (own host : String) (index : Nat) (y : MethodName) (bytes : ByteArray) (maxL : Nat) (ret : Option FieldType) (rm : Room) (n : Nat) : Prop :=
  va_CN R s args own index y host bytes maxL ret (Cond.code y bytes maxL ret :: ALL) rm 0 0 n ∧ (Cond.instanceMethod y).before args s = true ∧ (Cond.selects y.cls y y).before args s = true
theorem callIN {f : Int32 × σ} (X : FX p m c cc nL s args own g A) (hM : KI l g y (Cond.code y bytes maxL ret :: ALL) rm (.ref b :: As) Wd st f) (hC : HC g A s (Wd st) H locs)
    (cn : CNV R s args own host index y bytes maxL ret rm As.length) (he : (Wd st)[q0]? = some (b, .inr (ci, fs))) (hc : CL[ci]? = some q) (hq : q.1 = y.cls) (hsize : ls.size = nL) (hroom : (rest.map fun v => v.category).sum ≤ 8) (hst : st0 = As.reverse ++ .ref b :: rest) (hdg : decode cc pc = .ok (.invokevirtual index, 3)) (hf : cells ≤ R.cells ∧ slots ≤ R.slots)
    (kk : ∀ (r : Int32) (u : σ) (H1 : Heap) (locs1 : List Loc), f = (r, u) → HC g A s (Wd u) H1 locs1 → W p l e R s m args below meth c H1 locs1 cells slots Q (F0 m (pc + 3) ls (.int r :: rest))) : W p l e R s m args below meth c H locs cells slots Q (F0 m pc ls st0) := by
  have hpre := HC_pre X hC (.ref b :: As)
  have hrec := va_recv X.2.1 hC.1 hc he
  rw [hq] at hrec
  refine va_calli (va_runVN (As := As) (rest := rest) X.1 (hM H.size) cn ⟨hpre.1, hrec, hpre.2⟩ rfl rfl hsize hst (lv_room hroom) hdg hf) hC.2.2 (fun q _ h => ck_fr hC.2.1 hC.2.2 X.2.2.2 q h) (ck_fr hC.2.1 hC.2.2 X.2.2.2) (fun r u t H1 locs1 ht hvm hw hB hz1 hk1 hS => kk r u H1 locs1 hw (HC_behind X hC ht hB hS))
theorem callZN {f : Int32 × σ} (X : FX p m c cc nL s args own g A) (hM : KZ l g y (Cond.code y bytes maxL ret :: ALL) rm (.ref b :: As) Wd st f) (hC : HC g A s (Wd st) H locs)
    (cn : CNV R s args own host index y bytes maxL ret rm As.length) (he : (Wd st)[q0]? = some (b, .inr (ci, fs))) (hc : CL[ci]? = some q) (hq : q.1 = y.cls) (hsize : ls.size = nL) (hroom : (rest.map fun v => v.category).sum ≤ 8) (hst : st0 = As.reverse ++ .ref b :: rest) (hdg : decode cc pc = .ok (.invokevirtual index, 3)) (hf : cells ≤ R.cells ∧ slots ≤ R.slots)
    (kk : ∀ (r : Int32) (u : σ) (H1 : Heap) (locs1 : List Loc), f = (r, u) → (r = 0 ∨ r = 1) → HC g A s (Wd u) H1 locs1 → W p l e R s m args below meth c H1 locs1 cells slots Q (F0 m (pc + 3) ls (.int r :: rest))) : W p l e R s m args below meth c H locs cells slots Q (F0 m pc ls st0) := by
  have hpre := HC_pre X hC (.ref b :: As)
  have hrec := va_recv X.2.1 hC.1 hc he
  rw [hq] at hrec
  refine va_calli (va_runVN (As := As) (rest := rest) X.1 (hM H.size) cn ⟨hpre.1, hrec, hpre.2⟩ rfl rfl hsize hst (lv_room hroom) hdg hf) hC.2.2 (fun q _ h => ck_fr hC.2.1 hC.2.2 X.2.2.2 q h) (ck_fr hC.2.1 hC.2.2 X.2.2.2) (fun r u t H1 locs1 ht hvm hw hB hz1 hk1 hS => kk r u H1 locs1 hw.1 hw.2 (HC_behind X hC ht hB hS))
theorem callVN {f : σ} (X : FX p m c cc nL s args own g A) (hM : KV l g y (Cond.code y bytes maxL ret :: ALL) rm (.ref b :: As) Wd st f) (hC : HC g A s (Wd st) H locs)
    (cn : CNV R s args own host index y bytes maxL ret rm As.length) (he : (Wd st)[q0]? = some (b, .inr (ci, fs))) (hc : CL[ci]? = some q) (hq : q.1 = y.cls) (hsize : ls.size = nL) (hroom : (rest.map fun v => v.category).sum ≤ 8) (hst : st0 = As.reverse ++ .ref b :: rest) (hdg : decode cc pc = .ok (.invokevirtual index, 3)) (hf : cells ≤ R.cells ∧ slots ≤ R.slots)
    (kk : ∀ (u : σ) (H1 : Heap) (locs1 : List Loc), f = u → HC g A s (Wd u) H1 locs1 → W p l e R s m args below meth c H1 locs1 cells slots Q (F0 m (pc + 3) ls rest)) : W p l e R s m args below meth c H locs cells slots Q (F0 m pc ls st0) := by
  have hpre := HC_pre X hC (.ref b :: As)
  have hrec := va_recv X.2.1 hC.1 hc he
  rw [hq] at hrec
  refine va_callv (va_runVN (As := As) (rest := rest) X.1 (hM H.size) cn ⟨hpre.1, hrec, hpre.2⟩ rfl rfl hsize hst (lv_room hroom) hdg hf) hC.2.2 (fun q _ h => ck_fr hC.2.1 hC.2.2 X.2.2.2 q h) (ck_fr hC.2.1 hC.2.2 X.2.2.2) (fun u t H1 locs1 ht hvm hw hB hz1 hk1 hS => kk u H1 locs1 hw (HC_behind X hC ht hB hS))
theorem callJN {f : Int64 × σ} (X : FX p m c cc nL s args own g A) (hM : KJ l g y (Cond.code y bytes maxL ret :: ALL) rm (.ref b :: As) Wd st f) (hC : HC g A s (Wd st) H locs)
    (cn : CNV R s args own host index y bytes maxL ret rm As.length) (he : (Wd st)[q0]? = some (b, .inr (ci, fs))) (hc : CL[ci]? = some q) (hq : q.1 = y.cls) (hsize : ls.size = nL) (hroom : (rest.map fun v => v.category).sum ≤ 8) (hst : st0 = As.reverse ++ .ref b :: rest) (hdg : decode cc pc = .ok (.invokevirtual index, 3)) (hf : cells ≤ R.cells ∧ slots ≤ R.slots)
    (kk : ∀ (r : Int64) (u : σ) (H1 : Heap) (locs1 : List Loc), f = (r, u) → HC g A s (Wd u) H1 locs1 → W p l e R s m args below meth c H1 locs1 cells slots Q (F0 m (pc + 3) ls (.long r :: rest))) : W p l e R s m args below meth c H locs cells slots Q (F0 m pc ls st0) := by
  have hpre := HC_pre X hC (.ref b :: As)
  have hrec := va_recv X.2.1 hC.1 hc he
  rw [hq] at hrec
  refine va_calll (va_runVN (As := As) (rest := rest) X.1 (hM H.size) cn ⟨hpre.1, hrec, hpre.2⟩ rfl rfl hsize hst (lv_room hroom) hdg hf) hC.2.2 (fun q _ h => ck_fr hC.2.1 hC.2.2 X.2.2.2 q h) (ck_fr hC.2.1 hC.2.2 X.2.2.2) (fun r u t H1 locs1 ht hvm hw hB hz1 hk1 hS => kk r u H1 locs1 hw (HC_behind X hC ht hB hS))
theorem callEN {ad : Nat → Nat} {N : Nat} {f : Fin N × σ} (X : FX p m c cc nL s args own g A) (hM : KE ad N l g y (Cond.code y bytes maxL ret :: ALL) rm (.ref b :: As) Wd st f) (hC : HC g A s (Wd st) H locs)
    (cn : CNV R s args own host index y bytes maxL ret rm As.length) (he : (Wd st)[q0]? = some (b, .inr (ci, fs))) (hc : CL[ci]? = some q) (hq : q.1 = y.cls) (hsize : ls.size = nL) (hroom : (rest.map fun v => v.category).sum ≤ 8) (hst : st0 = As.reverse ++ .ref b :: rest) (hdg : decode cc pc = .ok (.invokevirtual index, 3)) (hf : cells ≤ R.cells ∧ slots ≤ R.slots)
    (kk : ∀ (r : Fin N) (u : σ) (H1 : Heap) (locs1 : List Loc), f = (r, u) → HC g A s (Wd u) H1 locs1 → W p l e R s m args below meth c H1 locs1 cells slots Q (F0 m (pc + 3) ls (.ref (ad r.val) :: rest))) : W p l e R s m args below meth c H locs cells slots Q (F0 m pc ls st0) := by
  have hpre := HC_pre X hC (.ref b :: As)
  have hrec := va_recv X.2.1 hC.1 hc he
  rw [hq] at hrec
  refine va_callr (va_runVN (As := As) (rest := rest) X.1 (hM H.size) cn ⟨hpre.1, hrec, hpre.2⟩ rfl rfl hsize hst (lv_room hroom) hdg hf) hC.2.2 (fun q _ h => ck_fr hC.2.1 hC.2.2 X.2.2.2 q h) (ck_fr hC.2.1 hC.2.2 X.2.2.2) (fun u a t H1 locs1 ht hvm hw hB hz1 hk1 hS => ?_)
  obtain ⟨rfl, hB⟩ := hB
  exact kk u.1 u.2 H1 locs1 hw (HC_behind X hC ht hB hS)
abbrev CNO (R : Room) (s : State) (args : Array Value) (own : String) (index : Nat) (y : MethodName) (bytes : ByteArray) (maxL : Nat) (ret : Option FieldType) (rm : Room) (n : Nat) : Prop :=
  CallW R s args own y.cls index y bytes maxL ret (Cond.code y bytes maxL ret :: ALL) rm 0 0 n
theorem callIO {f : Int32 × σ} (X : FX p m c cc nL s args own g A) (hM : KI l g y (Cond.code y bytes maxL ret :: ALL) rm (.ref b :: As) Wd st f) (hC : HC g A s (Wd st) H locs)
    (cn : CNO R s args own index y bytes maxL ret rm As.length) (he : (Wd st)[q0]? = some (b, .inr (ci, fs))) (hc : CL[ci]? = some q) (hq : q.1 = y.cls) (hsize : ls.size = nL) (hroom : (rest.map fun v => v.category).sum ≤ 8) (hst : st0 = As.reverse ++ .ref b :: rest) (hdg : decode cc pc = .ok (.invokevirtual index, 3)) (hf : cells ≤ R.cells ∧ slots ≤ R.slots)
    (kk : ∀ (r : Int32) (u : σ) (H1 : Heap) (locs1 : List Loc), f = (r, u) → HC g A s (Wd u) H1 locs1 → W p l e R s m args below meth c H1 locs1 cells slots Q (F0 m (pc + 3) ls (.int r :: rest))) : W p l e R s m args below meth c H locs cells slots Q (F0 m pc ls st0) := by
  have hpre := HC_pre X hC (.ref b :: As)
  have hrec := va_recv X.2.1 hC.1 hc he
  rw [hq] at hrec
  refine va_calli (va_runV (As := As) (rest := rest) X.1 (hM H.size) cn ⟨hpre.1, hrec, hpre.2⟩ rfl rfl hsize hst (lv_room hroom) hdg hf) hC.2.2 (fun q _ h => ck_fr hC.2.1 hC.2.2 X.2.2.2 q h) (ck_fr hC.2.1 hC.2.2 X.2.2.2) (fun r u t H1 locs1 ht hvm hw hB hz1 hk1 hS => kk r u H1 locs1 hw (HC_behind X hC ht hB hS))
theorem callZO {f : Int32 × σ} (X : FX p m c cc nL s args own g A) (hM : KZ l g y (Cond.code y bytes maxL ret :: ALL) rm (.ref b :: As) Wd st f) (hC : HC g A s (Wd st) H locs)
    (cn : CNO R s args own index y bytes maxL ret rm As.length) (he : (Wd st)[q0]? = some (b, .inr (ci, fs))) (hc : CL[ci]? = some q) (hq : q.1 = y.cls) (hsize : ls.size = nL) (hroom : (rest.map fun v => v.category).sum ≤ 8) (hst : st0 = As.reverse ++ .ref b :: rest) (hdg : decode cc pc = .ok (.invokevirtual index, 3)) (hf : cells ≤ R.cells ∧ slots ≤ R.slots)
    (kk : ∀ (r : Int32) (u : σ) (H1 : Heap) (locs1 : List Loc), f = (r, u) → (r = 0 ∨ r = 1) → HC g A s (Wd u) H1 locs1 → W p l e R s m args below meth c H1 locs1 cells slots Q (F0 m (pc + 3) ls (.int r :: rest))) : W p l e R s m args below meth c H locs cells slots Q (F0 m pc ls st0) := by
  have hpre := HC_pre X hC (.ref b :: As)
  have hrec := va_recv X.2.1 hC.1 hc he
  rw [hq] at hrec
  refine va_calli (va_runV (As := As) (rest := rest) X.1 (hM H.size) cn ⟨hpre.1, hrec, hpre.2⟩ rfl rfl hsize hst (lv_room hroom) hdg hf) hC.2.2 (fun q _ h => ck_fr hC.2.1 hC.2.2 X.2.2.2 q h) (ck_fr hC.2.1 hC.2.2 X.2.2.2) (fun r u t H1 locs1 ht hvm hw hB hz1 hk1 hS => kk r u H1 locs1 hw.1 hw.2 (HC_behind X hC ht hB hS))
theorem callVO {f : σ} (X : FX p m c cc nL s args own g A) (hM : KV l g y (Cond.code y bytes maxL ret :: ALL) rm (.ref b :: As) Wd st f) (hC : HC g A s (Wd st) H locs)
    (cn : CNO R s args own index y bytes maxL ret rm As.length) (he : (Wd st)[q0]? = some (b, .inr (ci, fs))) (hc : CL[ci]? = some q) (hq : q.1 = y.cls) (hsize : ls.size = nL) (hroom : (rest.map fun v => v.category).sum ≤ 8) (hst : st0 = As.reverse ++ .ref b :: rest) (hdg : decode cc pc = .ok (.invokevirtual index, 3)) (hf : cells ≤ R.cells ∧ slots ≤ R.slots)
    (kk : ∀ (u : σ) (H1 : Heap) (locs1 : List Loc), f = u → HC g A s (Wd u) H1 locs1 → W p l e R s m args below meth c H1 locs1 cells slots Q (F0 m (pc + 3) ls rest)) : W p l e R s m args below meth c H locs cells slots Q (F0 m pc ls st0) := by
  have hpre := HC_pre X hC (.ref b :: As)
  have hrec := va_recv X.2.1 hC.1 hc he
  rw [hq] at hrec
  refine va_callv (va_runV (As := As) (rest := rest) X.1 (hM H.size) cn ⟨hpre.1, hrec, hpre.2⟩ rfl rfl hsize hst (lv_room hroom) hdg hf) hC.2.2 (fun q _ h => ck_fr hC.2.1 hC.2.2 X.2.2.2 q h) (ck_fr hC.2.1 hC.2.2 X.2.2.2) (fun u t H1 locs1 ht hvm hw hB hz1 hk1 hS => kk u H1 locs1 hw (HC_behind X hC ht hB hS))
theorem callJO {f : Int64 × σ} (X : FX p m c cc nL s args own g A) (hM : KJ l g y (Cond.code y bytes maxL ret :: ALL) rm (.ref b :: As) Wd st f) (hC : HC g A s (Wd st) H locs)
    (cn : CNO R s args own index y bytes maxL ret rm As.length) (he : (Wd st)[q0]? = some (b, .inr (ci, fs))) (hc : CL[ci]? = some q) (hq : q.1 = y.cls) (hsize : ls.size = nL) (hroom : (rest.map fun v => v.category).sum ≤ 8) (hst : st0 = As.reverse ++ .ref b :: rest) (hdg : decode cc pc = .ok (.invokevirtual index, 3)) (hf : cells ≤ R.cells ∧ slots ≤ R.slots)
    (kk : ∀ (r : Int64) (u : σ) (H1 : Heap) (locs1 : List Loc), f = (r, u) → HC g A s (Wd u) H1 locs1 → W p l e R s m args below meth c H1 locs1 cells slots Q (F0 m (pc + 3) ls (.long r :: rest))) : W p l e R s m args below meth c H locs cells slots Q (F0 m pc ls st0) := by
  have hpre := HC_pre X hC (.ref b :: As)
  have hrec := va_recv X.2.1 hC.1 hc he
  rw [hq] at hrec
  refine va_calll (va_runV (As := As) (rest := rest) X.1 (hM H.size) cn ⟨hpre.1, hrec, hpre.2⟩ rfl rfl hsize hst (lv_room hroom) hdg hf) hC.2.2 (fun q _ h => ck_fr hC.2.1 hC.2.2 X.2.2.2 q h) (ck_fr hC.2.1 hC.2.2 X.2.2.2) (fun r u t H1 locs1 ht hvm hw hB hz1 hk1 hS => kk r u H1 locs1 hw (HC_behind X hC ht hB hS))
theorem callEO {ad : Nat → Nat} {N : Nat} {f : Fin N × σ} (X : FX p m c cc nL s args own g A) (hM : KE ad N l g y (Cond.code y bytes maxL ret :: ALL) rm (.ref b :: As) Wd st f) (hC : HC g A s (Wd st) H locs)
    (cn : CNO R s args own index y bytes maxL ret rm As.length) (he : (Wd st)[q0]? = some (b, .inr (ci, fs))) (hc : CL[ci]? = some q) (hq : q.1 = y.cls) (hsize : ls.size = nL) (hroom : (rest.map fun v => v.category).sum ≤ 8) (hst : st0 = As.reverse ++ .ref b :: rest) (hdg : decode cc pc = .ok (.invokevirtual index, 3)) (hf : cells ≤ R.cells ∧ slots ≤ R.slots)
    (kk : ∀ (r : Fin N) (u : σ) (H1 : Heap) (locs1 : List Loc), f = (r, u) → HC g A s (Wd u) H1 locs1 → W p l e R s m args below meth c H1 locs1 cells slots Q (F0 m (pc + 3) ls (.ref (ad r.val) :: rest))) : W p l e R s m args below meth c H locs cells slots Q (F0 m pc ls st0) := by
  have hpre := HC_pre X hC (.ref b :: As)
  have hrec := va_recv X.2.1 hC.1 hc he
  rw [hq] at hrec
  refine va_callr (va_runV (As := As) (rest := rest) X.1 (hM H.size) cn ⟨hpre.1, hrec, hpre.2⟩ rfl rfl hsize hst (lv_room hroom) hdg hf) hC.2.2 (fun q _ h => ck_fr hC.2.1 hC.2.2 X.2.2.2 q h) (ck_fr hC.2.1 hC.2.2 X.2.2.2) (fun u a t H1 locs1 ht hvm hw hB hz1 hk1 hS => ?_)
  obtain ⟨rfl, hB⟩ := hB
  exact kk u.1 u.2 H1 locs1 hw (HC_behind X hC ht hB hS)
theorem callIS {f : Int32 × σ} (X : FX p m c cc nL s args own g A) (hM : KI l g y (Cond.code y bytes maxL ret :: ALL) rm As Wd st f) (hC : HC g A s (Wd st) H locs)
    (cn : CallB R s args own index y bytes maxL ret (Cond.code y bytes maxL ret :: ALL) rm 0 0 As.length ∧ (Cond.static y).before args s = true) (hsize : ls.size = nL) (hroom : (rest.map fun v => v.category).sum ≤ 8) (hst : st0 = As.reverse ++ rest) (hdg : decode cc pc = .ok (.invokestatic index, 3)) (hf : cells ≤ R.cells ∧ slots ≤ R.slots)
    (kk : ∀ (r : Int32) (u : σ) (H1 : Heap) (locs1 : List Loc), f = (r, u) → HC g A s (Wd u) H1 locs1 → W p l e R s m args below meth c H1 locs1 cells slots Q (F0 m (pc + 3) ls (.int r :: rest))) : W p l e R s m args below meth c H locs cells slots Q (F0 m pc ls st0) := by
  have hpre := HC_pre X hC As
  refine va_calli (va_runS (As := As) (rest := rest) X.1 (hM H.size) cn hpre rfl rfl hsize hst (lv_room hroom) hdg hf) hC.2.2 (fun q _ h => ck_fr hC.2.1 hC.2.2 X.2.2.2 q h) (ck_fr hC.2.1 hC.2.2 X.2.2.2) (fun r u t H1 locs1 ht hvm hw hB hz1 hk1 hS => kk r u H1 locs1 hw (HC_behind X hC ht hB hS))
end KW
section KO
variable {σ : Type} {l : Launch} {g : CG} {y : MethodName} {cc : ByteArray} {nL : Nat} {rm : Room} {av : List Value} {Wd : σ → va_W} {st : σ}
theorem KI.ofW {f : Int32 × σ} (hy : plainName y.cls = true) (hlen : (lg_sl av).length ≤ nL)
    (body : ∀ (p : Program) (e : Env) (s : State) (m : MethodId) (args : Array Value) (below : List Frame) (meth : Method) (c : Code) (A : Nat → Prop) (Q : State → Prop) (ls : Array Slot) (Rv : Int32 × σ), FX p m c cc nL s args y.cls g A → f = Rv →
      (∀ {pc : Nat} {ls : Array Slot} {H : Heap} {locs : List Loc} {r : Int32} {u : σ}, decode cc pc = .ok (.ireturn, 1) → HC g A s (Wd u) H locs → (r, u) = Rv → W p l e rm s m args below meth c H locs 0 0 Q (F0 m pc ls [.int r])) →
      HC g A s (Wd st) s.heap [] → lv_has ls nL (lv_args 0 av) → W p l e rm s m args below meth c s.heap [] 0 0 Q (F0 m 0 ls [])) : KI l g y (Cond.code y cc nL (some .int) :: ALL) rm av Wd st f := by
  intro sz
  refine Met.ofW (cc := cc) (maxL := nL) (ret := (some .int)) hy rfl ?_
  intro p e s m args below meth c s₁ B hml hv
  obtain ⟨rfl, hsz, hP, hK, hD0, hE⟩ := hv
  have hts := atoms_spec (ws := Cond.code y cc nL (some .int) :: ALL) B.pre
  have hown : s.vm.findClass y.cls = some m.cls := findClass_of_methodNamed B.named
  have hlocks := B.notSynchronized
  subst hsz
  have hD := hD0.self (sz := s.heap.size)
  have hl := lv_entry av (n := nL) hlen
  rw [lg_entry_eq]
  exact body p e s m _ below meth c (va_A (Wd st) s.heap.size) _ _ f ⟨⟨B.exec, B.bytes, hml, hown, fun w h => hts w (List.mem_cons_of_mem _ h)⟩, hK, hE, fun q h => Or.inr h⟩ rfl
    (fun hdg hC he => W.iret B.exec B.bytes B.returns (fun t ht hW => ⟨⟨_, _, rfl, he.symm, by rw [ht]; exact hC.1, va_K.moved hW.alike hK, hC.2.1⟩, hC.2.2.F ht⟩) hC.2.2.2.2 hdg) ⟨hP, hD, va_S.rf⟩ hl
theorem KZ.ofW {f : Int32 × σ} (hy : plainName y.cls = true) (hlen : (lg_sl av).length ≤ nL)
    (body : ∀ (p : Program) (e : Env) (s : State) (m : MethodId) (args : Array Value) (below : List Frame) (meth : Method) (c : Code) (A : Nat → Prop) (Q : State → Prop) (ls : Array Slot) (Rv : Int32 × σ), FX p m c cc nL s args y.cls g A → f = Rv →
      (∀ {pc : Nat} {ls : Array Slot} {H : Heap} {locs : List Loc} {r : Int32} {u : σ}, decode cc pc = .ok (.ireturn, 1) → (r = 0 ∨ r = 1) → HC g A s (Wd u) H locs → (r, u) = Rv → W p l e rm s m args below meth c H locs 0 0 Q (F0 m pc ls [.int r])) →
      HC g A s (Wd st) s.heap [] → lv_has ls nL (lv_args 0 av) → W p l e rm s m args below meth c s.heap [] 0 0 Q (F0 m 0 ls [])) : KZ l g y (Cond.code y cc nL (some .boolean) :: ALL) rm av Wd st f := by
  intro sz
  refine Met.ofW (cc := cc) (maxL := nL) (ret := (some .boolean)) hy rfl ?_
  intro p e s m args below meth c s₁ B hml hv
  obtain ⟨rfl, hsz, hP, hK, hD0, hE⟩ := hv
  have hts := atoms_spec (ws := Cond.code y cc nL (some .boolean) :: ALL) B.pre
  have hown : s.vm.findClass y.cls = some m.cls := findClass_of_methodNamed B.named
  have hlocks := B.notSynchronized
  subst hsz
  have hD := hD0.self (sz := s.heap.size)
  have hl := lv_entry av (n := nL) hlen
  rw [lg_entry_eq]
  exact body p e s m _ below meth c (va_A (Wd st) s.heap.size) _ _ f ⟨⟨B.exec, B.bytes, hml, hown, fun w h => hts w (List.mem_cons_of_mem _ h)⟩, hK, hE, fun q h => Or.inr h⟩ rfl
    (fun hdg hz hC he => W.zret B.exec B.bytes B.returns (ck_nz hz) (fun t ht hW => ⟨⟨_, _, rfl, ⟨he.symm, hz⟩, by rw [ht]; exact hC.1, va_K.moved hW.alike hK, hC.2.1⟩, hC.2.2.F ht⟩) hC.2.2.2.2 hdg) ⟨hP, hD, va_S.rf⟩ hl
theorem KJ.ofW {f : Int64 × σ} (hy : plainName y.cls = true) (hlen : (lg_sl av).length ≤ nL)
    (body : ∀ (p : Program) (e : Env) (s : State) (m : MethodId) (args : Array Value) (below : List Frame) (meth : Method) (c : Code) (A : Nat → Prop) (Q : State → Prop) (ls : Array Slot) (Rv : Int64 × σ), FX p m c cc nL s args y.cls g A → f = Rv →
      (∀ {pc : Nat} {ls : Array Slot} {H : Heap} {locs : List Loc} {r : Int64} {u : σ}, decode cc pc = .ok (.lreturn, 1) → HC g A s (Wd u) H locs → (r, u) = Rv → W p l e rm s m args below meth c H locs 0 0 Q (F0 m pc ls [.long r])) →
      HC g A s (Wd st) s.heap [] → lv_has ls nL (lv_args 0 av) → W p l e rm s m args below meth c s.heap [] 0 0 Q (F0 m 0 ls [])) : KJ l g y (Cond.code y cc nL (some .long) :: ALL) rm av Wd st f := by
  intro sz
  refine Met.ofW (cc := cc) (maxL := nL) (ret := (some .long)) hy rfl ?_
  intro p e s m args below meth c s₁ B hml hv
  obtain ⟨rfl, hsz, hP, hK, hD0, hE⟩ := hv
  have hts := atoms_spec (ws := Cond.code y cc nL (some .long) :: ALL) B.pre
  have hown : s.vm.findClass y.cls = some m.cls := findClass_of_methodNamed B.named
  have hlocks := B.notSynchronized
  subst hsz
  have hD := hD0.self (sz := s.heap.size)
  have hl := lv_entry av (n := nL) hlen
  rw [lg_entry_eq]
  exact body p e s m _ below meth c (va_A (Wd st) s.heap.size) _ _ f ⟨⟨B.exec, B.bytes, hml, hown, fun w h => hts w (List.mem_cons_of_mem _ h)⟩, hK, hE, fun q h => Or.inr h⟩ rfl
    (fun hdg hC he => W.lret B.exec B.bytes B.returns (fun t ht hW => ⟨⟨_, _, rfl, he.symm, by rw [ht]; exact hC.1, va_K.moved hW.alike hK, hC.2.1⟩, hC.2.2.F ht⟩) hC.2.2.2.2 hdg) ⟨hP, hD, va_S.rf⟩ hl
theorem KV.ofW {f : σ} (hy : plainName y.cls = true) (hlen : (lg_sl av).length ≤ nL)
    (body : ∀ (p : Program) (e : Env) (s : State) (m : MethodId) (args : Array Value) (below : List Frame) (meth : Method) (c : Code) (A : Nat → Prop) (Q : State → Prop) (ls : Array Slot) (Rv : σ), FX p m c cc nL s args y.cls g A → f = Rv →
      (∀ {pc : Nat} {ls : Array Slot} {H : Heap} {locs : List Loc} {u : σ}, decode cc pc = .ok (.return_, 1) → HC g A s (Wd u) H locs → u = Rv → W p l e rm s m args below meth c H locs 0 0 Q (F0 m pc ls [])) →
      HC g A s (Wd st) s.heap [] → lv_has ls nL (lv_args 0 av) → W p l e rm s m args below meth c s.heap [] 0 0 Q (F0 m 0 ls [])) : KV l g y (Cond.code y cc nL none :: ALL) rm av Wd st f := by
  intro sz
  refine Met.ofW (cc := cc) (maxL := nL) (ret := none) hy rfl ?_
  intro p e s m args below meth c s₁ B hml hv
  obtain ⟨rfl, hsz, hP, hK, hD0, hE⟩ := hv
  have hts := atoms_spec (ws := Cond.code y cc nL none :: ALL) B.pre
  have hown : s.vm.findClass y.cls = some m.cls := findClass_of_methodNamed B.named
  have hlocks := B.notSynchronized
  subst hsz
  have hD := hD0.self (sz := s.heap.size)
  have hl := lv_entry av (n := nL) hlen
  rw [lg_entry_eq]
  exact body p e s m _ below meth c (va_A (Wd st) s.heap.size) _ _ f ⟨⟨B.exec, B.bytes, hml, hown, fun w h => hts w (List.mem_cons_of_mem _ h)⟩, hK, hE, fun q h => Or.inr h⟩ rfl
    (fun hdg hC he => W.vret B.exec B.bytes B.returns (fun t ht hW => ⟨⟨_, rfl, he.symm, by rw [ht]; exact hC.1, va_K.moved hW.alike hK, hC.2.1⟩, hC.2.2.F ht⟩) hC.2.2.2.2 hdg) ⟨hP, hD, va_S.rf⟩ hl
theorem KE.ofW {E : String} {ad : Nat → Nat} {N : Nat} {f : Fin N × σ} (hy : plainName y.cls = true) (hlen : (lg_sl av).length ≤ nL)
    (body : ∀ (p : Program) (e : Env) (s : State) (m : MethodId) (args : Array Value) (below : List Frame) (meth : Method) (c : Code) (A : Nat → Prop) (Q : State → Prop) (ls : Array Slot) (Rv : Fin N × σ), FX p m c cc nL s args y.cls g A → f = Rv →
      (∀ {pc : Nat} {ls : Array Slot} {H : Heap} {locs : List Loc} {r : Fin N} {u : σ}, decode cc pc = .ok (.areturn, 1) → HC g A s (Wd u) H locs → (r, u) = Rv → W p l e rm s m args below meth c H locs 0 0 Q (F0 m pc ls [.ref (ad r.val)])) →
      HC g A s (Wd st) s.heap [] → lv_has ls nL (lv_args 0 av) → W p l e rm s m args below meth c s.heap [] 0 0 Q (F0 m 0 ls [])) : KE ad N l g y (Cond.code y cc nL (some (.object E)) :: ALL) rm av Wd st f := by
  intro sz
  refine Met.ofW (cc := cc) (maxL := nL) (ret := (some (.object E))) hy rfl ?_
  intro p e s m args below meth c s₁ B hml hv
  obtain ⟨rfl, hsz, hP, hK, hD0, hE⟩ := hv
  have hts := atoms_spec (ws := Cond.code y cc nL (some (.object E)) :: ALL) B.pre
  have hown : s.vm.findClass y.cls = some m.cls := findClass_of_methodNamed B.named
  have hlocks := B.notSynchronized
  subst hsz
  have hD := hD0.self (sz := s.heap.size)
  have hl := lv_entry av (n := nL) hlen
  rw [lg_entry_eq]
  exact body p e s m _ below meth c (va_A (Wd st) s.heap.size) _ _ f ⟨⟨B.exec, B.bytes, hml, hown, fun w h => hts w (List.mem_cons_of_mem _ h)⟩, hK, hE, fun q h => Or.inr h⟩ rfl
    (fun hdg hC he => W.aret B.exec B.bytes B.returns (Or.inl ⟨_, rfl⟩) (Or.inr ⟨_, rfl⟩) (fun t ht hW => ⟨⟨_, _, rfl, he.symm, rfl, by rw [ht]; exact hC.1, va_K.moved hW.alike hK, hC.2.1⟩, hC.2.2.F ht⟩) hC.2.2.2.2 hdg) ⟨hP, hD, va_S.rf⟩ hl
end KO
end
section
/-! rows of constants and arrays (printed by my own program) -/
theorem in_C : ∀ w ∈ u_ws "ClockedChip" TC 13, w ∈ ALL := List.forall_mem_cons.mpr ⟨in_ALL (List.mem_append_left _ (List.mem_of_getElem? (i := 71) rfl)) rfl, List.forall_mem_cons.mpr ⟨in_ALL (List.mem_append_left _ (List.mem_of_getElem? (i := 73) rfl)) rfl, List.forall_mem_cons.mpr ⟨in_ALL (List.mem_append_left _ (List.mem_of_getElem? (i := 75) rfl)) rfl, List.forall_mem_cons.mpr ⟨in_ALL (List.mem_append_left _ (List.mem_of_getElem? (i := 77) rfl)) rfl, List.forall_mem_cons.mpr ⟨in_ALL (List.mem_append_left _ (List.mem_of_getElem? (i := 79) rfl)) rfl, List.forall_mem_cons.mpr ⟨in_ALL (List.mem_append_left _ (List.mem_of_getElem? (i := 81) rfl)) rfl, List.forall_mem_cons.mpr ⟨in_ALL (List.mem_append_left _ (List.mem_of_getElem? (i := 83) rfl)) rfl, List.forall_mem_cons.mpr ⟨in_ALL (List.mem_append_left _ (List.mem_of_getElem? (i := 85) rfl)) rfl, List.forall_mem_cons.mpr ⟨in_ALL (List.mem_append_left _ (List.mem_of_getElem? (i := 87) rfl)) rfl, List.forall_mem_cons.mpr ⟨in_ALL (List.mem_append_left _ (List.mem_of_getElem? (i := 89) rfl)) rfl, List.forall_mem_cons.mpr ⟨in_ALL (List.mem_append_left _ (List.mem_of_getElem? (i := 91) rfl)) rfl, List.forall_mem_cons.mpr ⟨in_ALL (List.mem_append_left _ (List.mem_of_getElem? (i := 93) rfl)) rfl, List.forall_mem_cons.mpr ⟨in_ALL (List.mem_append_left _ (List.mem_of_getElem? (i := 95) rfl)) rfl, fun _ h => absurd h List.not_mem_nil⟩⟩⟩⟩⟩⟩⟩⟩⟩⟩⟩⟩⟩
theorem in_R : ∀ w ∈ u_ws "ClockedChip$Registers" TR 6, w ∈ ALL := List.forall_mem_cons.mpr ⟨in_ALL (List.mem_append_left _ (List.mem_of_getElem? (i := 39) rfl)) rfl, List.forall_mem_cons.mpr ⟨in_ALL (List.mem_append_left _ (List.mem_of_getElem? (i := 41) rfl)) rfl, List.forall_mem_cons.mpr ⟨in_ALL (List.mem_append_left _ (List.mem_of_getElem? (i := 43) rfl)) rfl, List.forall_mem_cons.mpr ⟨in_ALL (List.mem_append_left _ (List.mem_of_getElem? (i := 45) rfl)) rfl, List.forall_mem_cons.mpr ⟨in_ALL (List.mem_append_left _ (List.mem_of_getElem? (i := 47) rfl)) rfl, List.forall_mem_cons.mpr ⟨in_ALL (List.mem_append_left _ (List.mem_of_getElem? (i := 49) rfl)) rfl, fun _ h => absurd h List.not_mem_nil⟩⟩⟩⟩⟩⟩
theorem in_M : ∀ w ∈ u_ws "ClockedChipModel" TM 29, w ∈ ALL := List.forall_mem_cons.mpr ⟨in_ALL (List.mem_append_right _ (List.mem_append_right _ (List.mem_append_left _ (List.mem_of_getElem? (i := 147) rfl)))) rfl, List.forall_mem_cons.mpr ⟨in_ALL (List.mem_append_right _ (List.mem_append_right _ (List.mem_append_left _ (List.mem_of_getElem? (i := 149) rfl)))) rfl, List.forall_mem_cons.mpr ⟨in_ALL (List.mem_append_right _ (List.mem_append_right _ (List.mem_append_left _ (List.mem_of_getElem? (i := 151) rfl)))) rfl, List.forall_mem_cons.mpr ⟨in_ALL (List.mem_append_right _ (List.mem_append_right _ (List.mem_append_left _ (List.mem_of_getElem? (i := 153) rfl)))) rfl, List.forall_mem_cons.mpr ⟨in_ALL (List.mem_append_right _ (List.mem_append_right _ (List.mem_append_left _ (List.mem_of_getElem? (i := 155) rfl)))) rfl, List.forall_mem_cons.mpr ⟨in_ALL (List.mem_append_right _ (List.mem_append_right _ (List.mem_append_left _ (List.mem_of_getElem? (i := 157) rfl)))) rfl, List.forall_mem_cons.mpr ⟨in_ALL (List.mem_append_right _ (List.mem_append_right _ (List.mem_append_left _ (List.mem_of_getElem? (i := 159) rfl)))) rfl, List.forall_mem_cons.mpr ⟨in_ALL (List.mem_append_right _ (List.mem_append_right _ (List.mem_append_left _ (List.mem_of_getElem? (i := 161) rfl)))) rfl, List.forall_mem_cons.mpr ⟨in_ALL (List.mem_append_right _ (List.mem_append_right _ (List.mem_append_left _ (List.mem_of_getElem? (i := 163) rfl)))) rfl, List.forall_mem_cons.mpr ⟨in_ALL (List.mem_append_right _ (List.mem_append_right _ (List.mem_append_left _ (List.mem_of_getElem? (i := 165) rfl)))) rfl, List.forall_mem_cons.mpr ⟨in_ALL (List.mem_append_right _ (List.mem_append_right _ (List.mem_append_left _ (List.mem_of_getElem? (i := 167) rfl)))) rfl, List.forall_mem_cons.mpr ⟨in_ALL (List.mem_append_right _ (List.mem_append_right _ (List.mem_append_left _ (List.mem_of_getElem? (i := 169) rfl)))) rfl, List.forall_mem_cons.mpr ⟨in_ALL (List.mem_append_right _ (List.mem_append_right _ (List.mem_append_left _ (List.mem_of_getElem? (i := 171) rfl)))) rfl, List.forall_mem_cons.mpr ⟨in_ALL (List.mem_append_right _ (List.mem_append_right _ (List.mem_append_left _ (List.mem_of_getElem? (i := 173) rfl)))) rfl, List.forall_mem_cons.mpr ⟨in_ALL (List.mem_append_right _ (List.mem_append_right _ (List.mem_append_left _ (List.mem_of_getElem? (i := 175) rfl)))) rfl, List.forall_mem_cons.mpr ⟨in_ALL (List.mem_append_right _ (List.mem_append_right _ (List.mem_append_left _ (List.mem_of_getElem? (i := 177) rfl)))) rfl, List.forall_mem_cons.mpr ⟨in_ALL (List.mem_append_right _ (List.mem_append_right _ (List.mem_append_left _ (List.mem_of_getElem? (i := 179) rfl)))) rfl, List.forall_mem_cons.mpr ⟨in_ALL (List.mem_append_right _ (List.mem_append_right _ (List.mem_append_left _ (List.mem_of_getElem? (i := 181) rfl)))) rfl, List.forall_mem_cons.mpr ⟨in_ALL (List.mem_append_right _ (List.mem_append_right _ (List.mem_append_left _ (List.mem_of_getElem? (i := 183) rfl)))) rfl, List.forall_mem_cons.mpr ⟨in_ALL (List.mem_append_right _ (List.mem_append_right _ (List.mem_append_left _ (List.mem_of_getElem? (i := 185) rfl)))) rfl, List.forall_mem_cons.mpr ⟨in_ALL (List.mem_append_right _ (List.mem_append_right _ (List.mem_append_left _ (List.mem_of_getElem? (i := 187) rfl)))) rfl, List.forall_mem_cons.mpr ⟨in_ALL (List.mem_append_right _ (List.mem_append_right _ (List.mem_append_left _ (List.mem_of_getElem? (i := 189) rfl)))) rfl, List.forall_mem_cons.mpr ⟨in_ALL (List.mem_append_right _ (List.mem_append_right _ (List.mem_append_left _ (List.mem_of_getElem? (i := 191) rfl)))) rfl, List.forall_mem_cons.mpr ⟨in_ALL (List.mem_append_right _ (List.mem_append_right _ (List.mem_append_left _ (List.mem_of_getElem? (i := 193) rfl)))) rfl, List.forall_mem_cons.mpr ⟨in_ALL (List.mem_append_right _ (List.mem_append_right _ (List.mem_append_left _ (List.mem_of_getElem? (i := 195) rfl)))) rfl, List.forall_mem_cons.mpr ⟨in_ALL (List.mem_append_right _ (List.mem_append_right _ (List.mem_append_left _ (List.mem_of_getElem? (i := 197) rfl)))) rfl, List.forall_mem_cons.mpr ⟨in_ALL (List.mem_append_right _ (List.mem_append_right _ (List.mem_append_left _ (List.mem_of_getElem? (i := 199) rfl)))) rfl, List.forall_mem_cons.mpr ⟨in_ALL (List.mem_append_right _ (List.mem_append_right _ (List.mem_append_left _ (List.mem_of_getElem? (i := 201) rfl)))) rfl, List.forall_mem_cons.mpr ⟨in_ALL (List.mem_append_right _ (List.mem_append_right _ (List.mem_append_left _ (List.mem_of_getElem? (i := 203) rfl)))) rfl, fun _ h => absurd h List.not_mem_nil⟩⟩⟩⟩⟩⟩⟩⟩⟩⟩⟩⟩⟩⟩⟩⟩⟩⟩⟩⟩⟩⟩⟩⟩⟩⟩⟩⟩⟩
/-- Enum.ordinal: reads the constant's own field -/
theorem d_ord_0 : decode prog_8_method_2_code 0 = .ok (.aload_n 0, 1) := by decide +kernel
theorem d_ord_1 : decode prog_8_method_2_code 1 = .ok (.getfield 7, 3) := by decide +kernel
theorem d_ord_4 : decode prog_8_method_2_code 4 = .ok (.ireturn, 1) := by decide +kernel
theorem w_ord : Cond.code ⟨"java/lang/Enum", "ordinal", "()I"⟩ prog_8_method_2_code 1 (some .int) ∈ ALL := in_ALL (List.mem_append_left _ (List.mem_of_getElem? (i := 133) rfl)) rfl
set_option maxHeartbeats 4000000 in
theorem kOrd (l : Launch) (a : Nat) (v : Int32) : Met l ⟨"java/lang/Enum", "ordinal", "()I"⟩ (Cond.code ⟨"java/lang/Enum", "ordinal", "()I"⟩ prog_8_method_2_code 1 (some .int) :: ALL) ({ frames := 0, cells := 0, slots := 0, locals := 0 }) (va_Pc [.ref a] (fun U => va_OF "java/lang/Enum" "ordinal" "I" (.int v) a (fun _ => False) U U.heap)) (va_Sr (fun _ => True) (fun _ => .int v)) 0 0 (fun _ => False) := by
  refine Met.ofW (cc := prog_8_method_2_code) (maxL := 1) (ret := some .int) (by decide) rfl ?_
  intro p e s m args below meth c s₁ B hml hv
  obtain ⟨rfl, hO⟩ := hv
  have hts := atoms_spec (ws := Cond.code ⟨"java/lang/Enum", "ordinal", "()I"⟩ prog_8_method_2_code 1 (some .int) :: ALL) B.pre
  have hown : s.vm.findClass "java/lang/Enum" = some m.cls := findClass_of_methodNamed B.named
  have hlocks := B.notSynchronized
  have hl := lv_entry [.ref a] (n := 1) (Nat.le_of_ble_eq_true rfl)
  rw [lg_entry_eq]
  generalize (lg_sl ([.ref a]) ++ List.replicate (1 - (lg_sl ([.ref a])).length) Slot.unset).toArray = ls at hl ⊢
  have hl : lv_has ls 1 [(0, .ref a)] := hl
  obtain ⟨cf, kf, fi, f, cell, h1, h2, h3, h4, h5, h6⟩ := hO
  refine lv_aload_n B.exec B.bytes d_ord_0 rfl (lv_at hl 0 rfl) ?_
  refine W.getf B.exec B.bytes hown (hts (.fieldLink "java/lang/Enum" 7 "java/lang/Enum" "ordinal" "I") (List.mem_cons_of_mem _ (in_ALL (List.mem_append_right _ (List.mem_append_right _ (List.mem_append_right _ (List.mem_of_getElem? (i := 153) rfl)))) rfl))) h1 h2 h3 h4 (v := .int v) h5 rfl rfl d_ord_1 ?_
  exact W.iret B.exec B.bytes B.returns (fun t ht hW => ⟨0, rfl, trivial, ht⟩) (fun q h => by cases h) d_ord_4
section OR
variable {p : Program} {l : Launch} {e : Env} {R : Room} {s : State} {m : MethodId} {args : Array Value} {below : List Frame} {meth : Method} {c : Code} {H : Heap} {locs : List Loc} {cells slots : Nat} {Q : State → Prop}
variable {cc : ByteArray} {pc nL : Nat} {ls : Array Slot} {rest : List Value} {g : CG} {A : Nat → Prop} {st cs : CS} {rt : MS} {o : Nat → Int64} {ws : va_W}
theorem ordRow {own E : String} {a idx : Nat} {v : Int32} (X : FX p m c cc nL s args own g A) (hO : va_O E a A s s.heap) (hF : va_OF "java/lang/Enum" "ordinal" "I" (.int v) a A s s.heap) (hC : HC g A s ws H locs) (hsize : ls.size = nL) (hroom : (rest.map fun v => v.category).sum ≤ 8) (hR : 1 ≤ R.frames ∧ 20 ≤ R.locals) (hf : cells ≤ R.cells ∧ slots ≤ R.slots)
    (hlink : (Cond.methodLink own idx ⟨E, "ordinal", "()I"⟩).before args s = true) (hsame : (Cond.sameMethod E "java/lang/Enum" "ordinal" "()I").before args s = true) (hsel : (Cond.selects E ⟨E, "ordinal", "()I"⟩ ⟨"java/lang/Enum", "ordinal", "()I"⟩).before args s = true)
    (hdg : decode cc pc = .ok (.invokevirtual idx, 3)) (kk : W p l e R s m args below meth c H locs cells slots Q (F0 m (pc + 3) ls (.int v :: rest))) : W p l e R s m args below meth c H locs cells slots Q (F0 m pc ls (.ref a :: rest)) := by
  have hG : GoodIn ALL (Cond.code ⟨"java/lang/Enum", "ordinal", "()I"⟩ prog_8_method_2_code 1 (some .int) :: ALL) := goodIn_code w_ord
  have hcode := X.1.2.2.2.2 _ w_ord
  have hinst := X.1.2.2.2.2 _ (in_ALL (w := Cond.instanceMethod ⟨"java/lang/Enum", "ordinal", "()I"⟩) (List.mem_append_left _ (List.mem_of_getElem? (i := 132) rfl)) rfl)
  have hini := X.1.2.2.2.2 _ (in_ALL (w := Cond.initialized "java/lang/Enum") (List.mem_append_left _ (List.mem_of_getElem? (i := 3) rfl)) rfl)
  obtain ⟨cell, o1, o2, o3, o4⟩ := hO.kept hC.2.2.2.1
  have hcu : va_CU R s args own E "java/lang/Enum" idx ⟨E, "ordinal", "()I"⟩ ⟨"java/lang/Enum", "ordinal", "()I"⟩ prog_8_method_2_code 1 (some .int) (Cond.code ⟨"java/lang/Enum", "ordinal", "()I"⟩ prog_8_method_2_code 1 (some .int) :: ALL) ({ frames := 0, cells := 0, slots := 0, locals := 0 }) 0 0 0 :=
    ⟨⟨rfl, rfl, hR.1, hR.2, pay_in X.1.2.2.2.2 hG, List.mem_cons_self⟩, hcode, hini, ⟨by decide, by decide⟩, fun sig h => by
      have h2 : (parseMethodDescriptor "()I").map (fun d => d.parameters.length) = some 0 := by decide +kernel
      rw [show parseMethodDescriptor "()I" = some sig from h] at h2
      exact (Option.some.inj h2).symm, hlink, hsame, va_Decl.of hinst hcode, hsel, hinst⟩
  refine va_csr (va_Run.run (va_runU (As := []) (rest := rest) X.1 (kOrd l a v) hcu ⟨fun a' U f mk q => ⟨q.1, va_OF.moved (u := U) (U := U.calling f mk a') (Vm.Alike.refl U.vm) q.2⟩, ⟨cell, o1, o2, o3⟩, fun U hU hW => ⟨rfl, by show va_OF "java/lang/Enum" "ordinal" "I" (Value.int v) a (fun x => False) U U.heap; rw [hU]; exact va_OF.moved hW.alike ((hF.kept hC.2.2.2.1).narrow (fun q h => h.elim))⟩⟩ rfl rfl hsize rfl (lv_room hroom) hdg hf)) (fun _ _ => kk)
end OR
theorem mapS_in : ∀ k : Fin 35, vp_in (oS k) 35 := by unfold vp_in; decide +kernel
theorem mapS_v : ∀ k : Fin 35, swLS.getD (oS k).toNatClampNeg 0 = swS k := by decide +kernel
theorem mapK_in : ∀ k : Fin 16, vp_in (oK k) 16 := by unfold vp_in; decide +kernel
theorem mapK_v : ∀ k : Fin 16, swLK.getD (oK k).toNatClampNeg 0 = swK k := by decide +kernel
section AR
variable {p : Program} {l : Launch} {e : Env} {R : Room} {s : State} {m : MethodId} {args : Array Value} {below : List Frame} {meth : Method} {c : Code} {H : Heap} {locs : List Loc} {cells slots : Nat} {Q : State → Prop}
variable {cc : ByteArray} {pc nL : Nat} {ls : Array Slot} {rest : List Value} {g : CG} {A : Nat → Prop} {st cs : CS} {rt : MS} {o : Nat → Int64} {ws : va_W}
theorem AmapS {k : Fin 35} {own : String} (X : FX p m c cc nL s args own g A) (hC : HC g A s ws H locs) (hdg : decode cc pc = .ok (.iaload, 1)) (kk : W p l e R s m args below meth c H locs cells slots Q (F0 m (pc + 1) ls (.int (swS k) :: rest))) : W p l e R s m args below meth c H locs cells slots Q (F0 m pc ls (.int (oS k) :: .ref g.mapS :: rest)) :=
  va_ti X.1.1 X.1.2.1 X.2.2.1.2.2.2.2.1 hC.2.2 (i := oS k) (mapS_in k) (v := .int (swS k)) (congrArg Value.int (mapS_v k)) hdg kk
theorem AmapK {k : Fin 16} {own : String} (X : FX p m c cc nL s args own g A) (hC : HC g A s ws H locs) (hdg : decode cc pc = .ok (.iaload, 1)) (kk : W p l e R s m args below meth c H locs cells slots Q (F0 m (pc + 1) ls (.int (swK k) :: rest))) : W p l e R s m args below meth c H locs cells slots Q (F0 m pc ls (.int (oK k) :: .ref g.mapK :: rest)) :=
  va_ti X.1.1 X.1.2.1 X.2.2.1.2.2.2.2.2.1 hC.2.2 (i := oK k) (mapK_in k) (v := .int (swK k)) (congrArg Value.int (mapK_v k)) hdg kk
theorem ix1023 (i : Int32) : vp_in (i &&& 1023) 1024 := pk_andIn i 10 (by decide) (by decide)
theorem Amem {i : Int32} {own : String} (X : FX p m c cc nL s args own g A) (hC : HC g A s (wC g rt o st) H locs) (hdg : decode cc pc = .ok (.iaload, 1)) (kk : W p l e R s m args below meth c H locs cells slots Q (F0 m (pc + 1) ls (.int (rM st i) :: rest))) : W p l e R s m args below meth c H locs cells slots Q (F0 m pc ls (.int (i &&& 1023) :: .ref g.mem :: rest)) :=
  va_iald X.1.1 X.1.2.1 X.2.1 hC.1 1 0 rfl rfl (ix1023 i) hdg kk
theorem Ammem {i : Int32} {own : String} (X : FX p m c cc nL s args own g A) (hC : HC g A s (wM g cs o rt) H locs) (hdg : decode cc pc = .ok (.iaload, 1)) (kk : W p l e R s m args below meth c H locs cells slots Q (F0 m (pc + 1) ls (.int (uM rt i) :: rest))) : W p l e R s m args below meth c H locs cells slots Q (F0 m pc ls (.int (i &&& 1023) :: .ref g.mmem :: rest)) :=
  va_iald X.1.1 X.1.2.1 X.2.1 hC.1 5 0 rfl rfl (ix1023 i) hdg kk
theorem Bmem {i x : Int32} {own : String} (X : FX p m c cc nL s args own g A) (hC : HC g A s (wC g rt o st) H locs) (hdg : decode cc pc = .ok (.iastore, 1)) (kk : ∀ (u : CS) (H1 : Heap) (locs1 : List Loc), sM st i x = u → HC g A s (wC g rt o u) H1 locs1 → W p l e R s m args below meth c H1 locs1 cells slots Q (F0 m (pc + 1) ls rest)) : W p l e R s m args below meth c H locs cells slots Q (F0 m pc ls (.int x :: .int (i &&& 1023) :: .ref g.mem :: rest)) :=
  va_iast X.1.1 X.1.2.1 X.2.1 hC.1 hC.2.1 hC.2.2 1 0 rfl rfl (ix1023 i) hdg (fun H1 locs1 hP hD hS => kk _ H1 locs1 rfl ⟨hP, hD, hS⟩)
theorem Bmmem {i x : Int32} {own : String} (X : FX p m c cc nL s args own g A) (hC : HC g A s (wM g cs o rt) H locs) (hdg : decode cc pc = .ok (.iastore, 1)) (kk : ∀ (u : MS) (H1 : Heap) (locs1 : List Loc), tM rt i x = u → HC g A s (wM g cs o u) H1 locs1 → W p l e R s m args below meth c H1 locs1 cells slots Q (F0 m (pc + 1) ls rest)) : W p l e R s m args below meth c H locs cells slots Q (F0 m pc ls (.int x :: .int (i &&& 1023) :: .ref g.mmem :: rest)) :=
  va_iast X.1.1 X.1.2.1 X.2.1 hC.1 hC.2.1 hC.2.2 5 0 rfl rfl (ix1023 i) hdg (fun H1 locs1 hP hD hS => kk _ H1 locs1 rfl ⟨hP, hD, hS⟩)
theorem Apins {i : Int32} {own : String} (X : FX p m c cc nL s args own g A) (hC : HC g A s (wC g rt o st) H locs) (hi : vp_in i 4) (hdg : decode cc pc = .ok (.baload, 1)) (kk : W p l e R s m args below meth c H locs cells slots Q (F0 m (pc + 1) ls (.int (rP st i) :: rest))) : W p l e R s m args below meth c H locs cells slots Q (F0 m pc ls (.int i :: .ref g.pins :: rest)) :=
  va_zald X.1.1 X.1.2.1 X.2.1 hC.1 2 1 rfl rfl hi hdg kk
theorem Bpins {i x : Int32} {own : String} (X : FX p m c cc nL s args own g A) (hC : HC g A s (wC g rt o st) H locs) (hi : vp_in i 4) (hdg : decode cc pc = .ok (.bastore, 1)) (kk : ∀ (u : CS) (H1 : Heap) (locs1 : List Loc), sP st i x = u → HC g A s (wC g rt o u) H1 locs1 → W p l e R s m args below meth c H1 locs1 cells slots Q (F0 m (pc + 1) ls rest)) : W p l e R s m args below meth c H locs cells slots Q (F0 m pc ls (.int x :: .int i :: .ref g.pins :: rest)) :=
  va_zast X.1.1 X.1.2.1 X.2.1 hC.1 hC.2.1 hC.2.2 2 1 rfl rfl hi hdg (fun H1 locs1 hP hD hS => kk _ H1 locs1 rfl ⟨hP, hD, hS⟩)
theorem acS_eq {i j : Fin 35} {own : String} {off : Int} {tgt : Nat} (X : FX p m c cc nL s args own g A) (hdg : decode cc pc = .ok (.if_acmp .eq off, 3)) (ht : (pc : Int) + off = (tgt : Int)) (kt : i = j → W p l e R s m args below meth c H locs cells slots Q (F0 m tgt ls rest)) (kf : ¬ i = j → W p l e R s m args below meth c H locs cells slots Q (F0 m (pc + 3) ls rest)) : W p l e R s m args below meth c H locs cells slots Q (F0 m pc ls (.ref (g.adS j.val) :: .ref (g.adS i.val) :: rest)) :=
  lv_acmp_eq (rx := some (g.adS i.val)) (ry := some (g.adS j.val)) X.1.1 X.1.2.1 hdg ht (fun h => kt (Fin.ext (X.2.2.1.1.2 _ _ i.isLt j.isLt (Option.some.inj h)))) (fun h => kf (fun e9 => h (by rw [e9])))
theorem acS_ne {i j : Fin 35} {own : String} {off : Int} {tgt : Nat} (X : FX p m c cc nL s args own g A) (hdg : decode cc pc = .ok (.if_acmp .ne off, 3)) (ht : (pc : Int) + off = (tgt : Int)) (kt : ¬ i = j → W p l e R s m args below meth c H locs cells slots Q (F0 m tgt ls rest)) (kf : i = j → W p l e R s m args below meth c H locs cells slots Q (F0 m (pc + 3) ls rest)) : W p l e R s m args below meth c H locs cells slots Q (F0 m pc ls (.ref (g.adS j.val) :: .ref (g.adS i.val) :: rest)) :=
  lv_acmp_ne (rx := some (g.adS i.val)) (ry := some (g.adS j.val)) X.1.1 X.1.2.1 hdg ht (fun h => kt (fun e9 => h (by rw [e9]))) (fun h => kf (Fin.ext (X.2.2.1.1.2 _ _ i.isLt j.isLt (Option.some.inj h))))
theorem acK_eq {i j : Fin 16} {own : String} {off : Int} {tgt : Nat} (X : FX p m c cc nL s args own g A) (hdg : decode cc pc = .ok (.if_acmp .eq off, 3)) (ht : (pc : Int) + off = (tgt : Int)) (kt : i = j → W p l e R s m args below meth c H locs cells slots Q (F0 m tgt ls rest)) (kf : ¬ i = j → W p l e R s m args below meth c H locs cells slots Q (F0 m (pc + 3) ls rest)) : W p l e R s m args below meth c H locs cells slots Q (F0 m pc ls (.ref (g.adK j.val) :: .ref (g.adK i.val) :: rest)) :=
  lv_acmp_eq (rx := some (g.adK i.val)) (ry := some (g.adK j.val)) X.1.1 X.1.2.1 hdg ht (fun h => kt (Fin.ext (X.2.2.1.2.1.2 _ _ i.isLt j.isLt (Option.some.inj h)))) (fun h => kf (fun e9 => h (by rw [e9])))
theorem acK_ne {i j : Fin 16} {own : String} {off : Int} {tgt : Nat} (X : FX p m c cc nL s args own g A) (hdg : decode cc pc = .ok (.if_acmp .ne off, 3)) (ht : (pc : Int) + off = (tgt : Int)) (kt : ¬ i = j → W p l e R s m args below meth c H locs cells slots Q (F0 m tgt ls rest)) (kf : i = j → W p l e R s m args below meth c H locs cells slots Q (F0 m (pc + 3) ls rest)) : W p l e R s m args below meth c H locs cells slots Q (F0 m pc ls (.ref (g.adK j.val) :: .ref (g.adK i.val) :: rest)) :=
  lv_acmp_ne (rx := some (g.adK i.val)) (ry := some (g.adK j.val)) X.1.1 X.1.2.1 hdg ht (fun h => kt (fun e9 => h (by rw [e9]))) (fun h => kf (Fin.ext (X.2.2.1.2.1.2 _ _ i.isLt j.isLt (Option.some.inj h))))
end AR
end
section
/-! rows of fields, constants and callees (printed by my own program) -/
section RW
variable {p : Program} {l : Launch} {e : Env} {R : Room} {s : State} {m : MethodId} {args : Array Value} {below : List Frame} {meth : Method} {c : Code} {H : Heap} {locs : List Loc} {cells slots : Nat} {Q : State → Prop}
variable {cc : ByteArray} {pc nL : Nat} {ls : Array Slot} {rest : List Value} {g : CG} {A : Nat → Prop} {st cs : CS} {rt : MS} {o : Nat → Int64} {ws : va_W}
theorem GR_a (X : FX p m c cc nL s args "ClockedChip$Registers" g A) (hC : HC g A s (wC g rt o st) H locs) (hdg : decode cc pc = .ok (.getfield 22, 3)) (kk : W p l e R s m args below meth c H locs cells slots Q (F0 m (pc + 3) ls (.int (st.1 0) :: rest))) : W p l e R s m args below meth c H locs cells slots Q (F0 m pc ls (.ref g.regs :: rest)) :=
  va_get (D := g.1) (ci := 1) (C := "ClockedChip$Registers") (T := TR) (N := 6) X.1.1 X.1.2.1 X.1.2.2.2.2 in_R X.1.2.2.2.1 X.2.1 hC.1 3 rfl rfl 0 (by decide) (X.1.2.2.2.2 _ (in_ALL (List.mem_append_left _ (List.mem_of_getElem? (i := 29) rfl)) rfl)) (fun _ h9 => h9) rfl hdg kk
theorem GR_flags (X : FX p m c cc nL s args "ClockedChip$Registers" g A) (hC : HC g A s (wC g rt o st) H locs) (hdg : decode cc pc = .ok (.getfield 9, 3)) (kk : W p l e R s m args below meth c H locs cells slots Q (F0 m (pc + 3) ls (.int (st.1 5) :: rest))) : W p l e R s m args below meth c H locs cells slots Q (F0 m pc ls (.ref g.regs :: rest)) :=
  va_get (D := g.1) (ci := 1) (C := "ClockedChip$Registers") (T := TR) (N := 6) X.1.1 X.1.2.1 X.1.2.2.2.2 in_R X.1.2.2.2.1 X.2.1 hC.1 3 rfl rfl 5 (by decide) (X.1.2.2.2.2 _ (in_ALL (List.mem_append_left _ (List.mem_of_getElem? (i := 38) rfl)) rfl)) (fun _ h9 => h9) rfl hdg kk
theorem GR_pc (X : FX p m c cc nL s args "ClockedChip$Registers" g A) (hC : HC g A s (wC g rt o st) H locs) (hdg : decode cc pc = .ok (.getfield 15, 3)) (kk : W p l e R s m args below meth c H locs cells slots Q (F0 m (pc + 3) ls (.int (st.1 4) :: rest))) : W p l e R s m args below meth c H locs cells slots Q (F0 m pc ls (.ref g.regs :: rest)) :=
  va_get (D := g.1) (ci := 1) (C := "ClockedChip$Registers") (T := TR) (N := 6) X.1.1 X.1.2.1 X.1.2.2.2.2 in_R X.1.2.2.2.1 X.2.1 hC.1 3 rfl rfl 4 (by decide) (X.1.2.2.2.2 _ (in_ALL (List.mem_append_left _ (List.mem_of_getElem? (i := 36) rfl)) rfl)) (fun _ h9 => h9) rfl hdg kk
theorem GR_s (X : FX p m c cc nL s args "ClockedChip$Registers" g A) (hC : HC g A s (wC g rt o st) H locs) (hdg : decode cc pc = .ok (.getfield 19, 3)) (kk : W p l e R s m args below meth c H locs cells slots Q (F0 m (pc + 3) ls (.int (st.1 3) :: rest))) : W p l e R s m args below meth c H locs cells slots Q (F0 m pc ls (.ref g.regs :: rest)) :=
  va_get (D := g.1) (ci := 1) (C := "ClockedChip$Registers") (T := TR) (N := 6) X.1.1 X.1.2.1 X.1.2.2.2.2 in_R X.1.2.2.2.1 X.2.1 hC.1 3 rfl rfl 3 (by decide) (X.1.2.2.2.2 _ (in_ALL (List.mem_append_left _ (List.mem_of_getElem? (i := 35) rfl)) rfl)) (fun _ h9 => h9) rfl hdg kk
theorem GR_x (X : FX p m c cc nL s args "ClockedChip$Registers" g A) (hC : HC g A s (wC g rt o st) H locs) (hdg : decode cc pc = .ok (.getfield 29, 3)) (kk : W p l e R s m args below meth c H locs cells slots Q (F0 m (pc + 3) ls (.int (st.1 1) :: rest))) : W p l e R s m args below meth c H locs cells slots Q (F0 m pc ls (.ref g.regs :: rest)) :=
  va_get (D := g.1) (ci := 1) (C := "ClockedChip$Registers") (T := TR) (N := 6) X.1.1 X.1.2.1 X.1.2.2.2.2 in_R X.1.2.2.2.1 X.2.1 hC.1 3 rfl rfl 1 (by decide) (X.1.2.2.2.2 _ (in_ALL (List.mem_append_left _ (List.mem_of_getElem? (i := 31) rfl)) rfl)) (fun _ h9 => h9) rfl hdg kk
theorem GR_y (X : FX p m c cc nL s args "ClockedChip$Registers" g A) (hC : HC g A s (wC g rt o st) H locs) (hdg : decode cc pc = .ok (.getfield 32, 3)) (kk : W p l e R s m args below meth c H locs cells slots Q (F0 m (pc + 3) ls (.int (st.1 2) :: rest))) : W p l e R s m args below meth c H locs cells slots Q (F0 m pc ls (.ref g.regs :: rest)) :=
  va_get (D := g.1) (ci := 1) (C := "ClockedChip$Registers") (T := TR) (N := 6) X.1.1 X.1.2.1 X.1.2.2.2.2 in_R X.1.2.2.2.1 X.2.1 hC.1 3 rfl rfl 2 (by decide) (X.1.2.2.2.2 _ (in_ALL (List.mem_append_left _ (List.mem_of_getElem? (i := 33) rfl)) rfl)) (fun _ h9 => h9) rfl hdg kk
theorem LR_18 (X : FX p m c cc nL s args "ClockedChip$Registers" g A) (hdg : decode cc pc = .ok (.ldc 18, 2)) (kk : W p l e R s m args below meth c H locs cells slots Q (F0 m (pc + 2) ls (.int 65535 :: rest))) : W p l e R s m args below meth c H locs cells slots Q (F0 m pc ls rest) := lv_ldc X.1.1 X.1.2.1 X.1.2.2.2.1 (X.1.2.2.2.2 _ (in_ALL (List.mem_append_left _ (List.mem_of_getElem? (i := 206) rfl)) rfl)) hdg kk
theorem NR_R_addDecimal_65 {rm : Room} (X : FX p m c cc nL s args "ClockedChip$Registers" g A) (hc : rm.cells = 0) (hs : rm.slots = 0) (hR : rm.frames + 1 ≤ R.frames ∧ 8 + (5 + 11) + rm.locals ≤ R.locals) : CNO R s args "ClockedChip$Registers" 65 y_R_addDecimal c_R_addDecimal 5 none rm 1 :=
  ⟨callB_of 1 X.1.2.2.2.2 (goodIn_code w_R_addDecimal) rfl hc hs (X.1.2.2.2.2 _ (in_ALL (List.mem_append_left _ (List.mem_of_getElem? (i := 2) rfl)) rfl)) (X.1.2.2.2.2 _ (in_ALL (List.mem_append_right _ (List.mem_append_left _ (List.mem_of_getElem? (i := 37) rfl))) rfl)) ⟨by decide, by decide, by decide +kernel⟩ hR, X.1.2.2.2.2 _ (in_ALL (List.mem_append_right _ (List.mem_append_left _ (List.mem_of_getElem? (i := 39) rfl))) rfl), (X.1.2.2.2.2 _ (in_sel (q := (y_R_addDecimal, 6)) (by decide +kernel) rfl))⟩
theorem NR_R_add_42 {rm : Room} (X : FX p m c cc nL s args "ClockedChip$Registers" g A) (hc : rm.cells = 0) (hs : rm.slots = 0) (hR : rm.frames + 1 ≤ R.frames ∧ 8 + (3 + 11) + rm.locals ≤ R.locals) : CNO R s args "ClockedChip$Registers" 42 y_R_add c_R_add 3 none rm 1 :=
  ⟨callB_of 1 X.1.2.2.2.2 (goodIn_code w_R_add) rfl hc hs (X.1.2.2.2.2 _ (in_ALL (List.mem_append_left _ (List.mem_of_getElem? (i := 2) rfl)) rfl)) (X.1.2.2.2.2 _ (in_ALL (List.mem_append_right _ (List.mem_append_left _ (List.mem_of_getElem? (i := 32) rfl))) rfl)) ⟨by decide, by decide, by decide +kernel⟩ hR, X.1.2.2.2.2 _ (in_ALL (List.mem_append_right _ (List.mem_append_left _ (List.mem_of_getElem? (i := 34) rfl))) rfl), (X.1.2.2.2.2 _ (in_sel (q := (y_R_add, 6)) (by decide +kernel) rfl))⟩
theorem NR_R_carry_68 {rm : Room} (X : FX p m c cc nL s args "ClockedChip$Registers" g A) (hc : rm.cells = 0) (hs : rm.slots = 0) (hR : rm.frames + 1 ≤ R.frames ∧ 8 + (1 + 11) + rm.locals ≤ R.locals) : CNO R s args "ClockedChip$Registers" 68 y_R_carry c_R_carry 1 (some .int) rm 0 :=
  ⟨callB_of 0 X.1.2.2.2.2 (goodIn_code w_R_carry) rfl hc hs (X.1.2.2.2.2 _ (in_ALL (List.mem_append_left _ (List.mem_of_getElem? (i := 2) rfl)) rfl)) (X.1.2.2.2.2 _ (in_ALL (List.mem_append_right _ (List.mem_append_left _ (List.mem_of_getElem? (i := 41) rfl))) rfl)) ⟨by decide, by decide, by decide +kernel⟩ hR, X.1.2.2.2.2 _ (in_ALL (List.mem_append_right _ (List.mem_append_left _ (List.mem_of_getElem? (i := 43) rfl))) rfl), (X.1.2.2.2.2 _ (in_sel (q := (y_R_carry, 6)) (by decide +kernel) rfl))⟩
theorem NR_R_changed_61 {rm : Room} (X : FX p m c cc nL s args "ClockedChip$Registers" g A) (hc : rm.cells = 0) (hs : rm.slots = 0) (hR : rm.frames + 1 ≤ R.frames ∧ 8 + (3 + 11) + rm.locals ≤ R.locals) : CNO R s args "ClockedChip$Registers" 61 y_R_changed c_R_changed 3 (some .int) rm 2 :=
  ⟨callB_of 2 X.1.2.2.2.2 (goodIn_code w_R_changed) rfl hc hs (X.1.2.2.2.2 _ (in_ALL (List.mem_append_left _ (List.mem_of_getElem? (i := 2) rfl)) rfl)) (X.1.2.2.2.2 _ (in_ALL (List.mem_append_left _ (List.mem_of_getElem? (i := 158) rfl)) rfl)) ⟨by decide, by decide, by decide +kernel⟩ hR, X.1.2.2.2.2 _ (in_ALL (List.mem_append_left _ (List.mem_of_getElem? (i := 136) rfl)) rfl), (X.1.2.2.2.2 _ (in_sel (q := (y_R_changed, 6)) (by decide +kernel) rfl))⟩
theorem NR_R_compare_48 {rm : Room} (X : FX p m c cc nL s args "ClockedChip$Registers" g A) (hc : rm.cells = 0) (hs : rm.slots = 0) (hR : rm.frames + 1 ≤ R.frames ∧ 8 + (2 + 11) + rm.locals ≤ R.locals) : CNO R s args "ClockedChip$Registers" 48 y_R_compare c_R_compare 2 none rm 1 :=
  ⟨callB_of 1 X.1.2.2.2.2 (goodIn_code w_R_compare) rfl hc hs (X.1.2.2.2.2 _ (in_ALL (List.mem_append_left _ (List.mem_of_getElem? (i := 2) rfl)) rfl)) (X.1.2.2.2.2 _ (in_ALL (List.mem_append_right _ (List.mem_append_left _ (List.mem_of_getElem? (i := 61) rfl))) rfl)) ⟨by decide, by decide, by decide +kernel⟩ hR, X.1.2.2.2.2 _ (in_ALL (List.mem_append_right _ (List.mem_append_left _ (List.mem_of_getElem? (i := 63) rfl))) rfl), (X.1.2.2.2.2 _ (in_sel (q := (y_R_compare, 6)) (by decide +kernel) rfl))⟩
theorem NR_R_decimalDifference_80 {rm : Room} (X : FX p m c cc nL s args "ClockedChip$Registers" g A) (hc : rm.cells = 0) (hs : rm.slots = 0) (hR : rm.frames + 1 ≤ R.frames ∧ 8 + (4 + 11) + rm.locals ≤ R.locals) : CNO R s args "ClockedChip$Registers" 80 y_R_decimalDifference c_R_decimalDifference 4 (some .int) rm 1 :=
  ⟨callB_of 1 X.1.2.2.2.2 (goodIn_code w_R_decimalDifference) rfl hc hs (X.1.2.2.2.2 _ (in_ALL (List.mem_append_left _ (List.mem_of_getElem? (i := 2) rfl)) rfl)) (X.1.2.2.2.2 _ (in_ALL (List.mem_append_right _ (List.mem_append_left _ (List.mem_of_getElem? (i := 57) rfl))) rfl)) ⟨by decide, by decide, by decide +kernel⟩ hR, X.1.2.2.2.2 _ (in_ALL (List.mem_append_right _ (List.mem_append_left _ (List.mem_of_getElem? (i := 59) rfl))) rfl), (X.1.2.2.2.2 _ (in_sel (q := (y_R_decimalDifference, 6)) (by decide +kernel) rfl))⟩
theorem NR_R_differsInSign_76 {rm : Room} (X : FX p m c cc nL s args "ClockedChip$Registers" g A) (hc : rm.cells = 0) (hs : rm.slots = 0) (hR : rm.frames + 1 ≤ R.frames ∧ 8 + (4 + 11) + rm.locals ≤ R.locals) : CNO R s args "ClockedChip$Registers" 76 y_R_differsInSign c_R_differsInSign 4 (some .boolean) rm 2 :=
  ⟨callB_of 2 X.1.2.2.2.2 (goodIn_code w_R_differsInSign) rfl hc hs (X.1.2.2.2.2 _ (in_ALL (List.mem_append_left _ (List.mem_of_getElem? (i := 2) rfl)) rfl)) (X.1.2.2.2.2 _ (in_ALL (List.mem_append_right _ (List.mem_append_left _ (List.mem_of_getElem? (i := 45) rfl))) rfl)) ⟨by decide, by decide, by decide +kernel⟩ hR, X.1.2.2.2.2 _ (in_ALL (List.mem_append_right _ (List.mem_append_left _ (List.mem_of_getElem? (i := 47) rfl))) rfl), (X.1.2.2.2.2 _ (in_sel (q := (y_R_differsInSign, 6)) (by decide +kernel) rfl))⟩
theorem NR_R_flagsOfSum_72 {rm : Room} (X : FX p m c cc nL s args "ClockedChip$Registers" g A) (hc : rm.cells = 0) (hs : rm.slots = 0) (hR : rm.frames + 1 ≤ R.frames ∧ 8 + (3 + 11) + rm.locals ≤ R.locals) : CNO R s args "ClockedChip$Registers" 72 y_R_flagsOfSum c_R_flagsOfSum 3 none rm 2 :=
  ⟨callB_of 2 X.1.2.2.2.2 (goodIn_code w_R_flagsOfSum) rfl hc hs (X.1.2.2.2.2 _ (in_ALL (List.mem_append_left _ (List.mem_of_getElem? (i := 2) rfl)) rfl)) (X.1.2.2.2.2 _ (in_ALL (List.mem_append_right _ (List.mem_append_left _ (List.mem_of_getElem? (i := 49) rfl))) rfl)) ⟨by decide, by decide, by decide +kernel⟩ hR, X.1.2.2.2.2 _ (in_ALL (List.mem_append_right _ (List.mem_append_left _ (List.mem_of_getElem? (i := 51) rfl))) rfl), (X.1.2.2.2.2 _ (in_sel (q := (y_R_flagsOfSum, 6)) (by decide +kernel) rfl))⟩
theorem NR_R_has_35 {rm : Room} (X : FX p m c cc nL s args "ClockedChip$Registers" g A) (hc : rm.cells = 0) (hs : rm.slots = 0) (hR : rm.frames + 1 ≤ R.frames ∧ 8 + (2 + 11) + rm.locals ≤ R.locals) : CNO R s args "ClockedChip$Registers" 35 y_R_has c_R_has 2 (some .boolean) rm 1 :=
  ⟨callB_of 1 X.1.2.2.2.2 (goodIn_code w_R_has) rfl hc hs (X.1.2.2.2.2 _ (in_ALL (List.mem_append_left _ (List.mem_of_getElem? (i := 2) rfl)) rfl)) (X.1.2.2.2.2 _ (in_ALL (List.mem_append_right _ (List.mem_append_left _ (List.mem_of_getElem? (i := 36) rfl))) rfl)) ⟨by decide, by decide, by decide +kernel⟩ hR, X.1.2.2.2.2 _ (in_ALL (List.mem_append_left _ (List.mem_of_getElem? (i := 169) rfl)) rfl), (X.1.2.2.2.2 _ (in_sel (q := (y_R_has, 6)) (by decide +kernel) rfl))⟩
theorem NR_R_loadA_39 {rm : Room} (X : FX p m c cc nL s args "ClockedChip$Registers" g A) (hc : rm.cells = 0) (hs : rm.slots = 0) (hR : rm.frames + 1 ≤ R.frames ∧ 8 + (2 + 11) + rm.locals ≤ R.locals) : CNO R s args "ClockedChip$Registers" 39 y_R_loadA c_R_loadA 2 none rm 1 :=
  ⟨callB_of 1 X.1.2.2.2.2 (goodIn_code w_R_loadA) rfl hc hs (X.1.2.2.2.2 _ (in_ALL (List.mem_append_left _ (List.mem_of_getElem? (i := 2) rfl)) rfl)) (X.1.2.2.2.2 _ (in_ALL (List.mem_append_right _ (List.mem_append_left _ (List.mem_of_getElem? (i := 28) rfl))) rfl)) ⟨by decide, by decide, by decide +kernel⟩ hR, X.1.2.2.2.2 _ (in_ALL (List.mem_append_right _ (List.mem_append_left _ (List.mem_of_getElem? (i := 30) rfl))) rfl), (X.1.2.2.2.2 _ (in_sel (q := (y_R_loadA, 6)) (by decide +kernel) rfl))⟩
theorem NR_R_loadX_51 {rm : Room} (X : FX p m c cc nL s args "ClockedChip$Registers" g A) (hc : rm.cells = 0) (hs : rm.slots = 0) (hR : rm.frames + 1 ≤ R.frames ∧ 8 + (2 + 11) + rm.locals ≤ R.locals) : CNO R s args "ClockedChip$Registers" 51 y_R_loadX c_R_loadX 2 none rm 1 :=
  ⟨callB_of 1 X.1.2.2.2.2 (goodIn_code w_R_loadX) rfl hc hs (X.1.2.2.2.2 _ (in_ALL (List.mem_append_left _ (List.mem_of_getElem? (i := 2) rfl)) rfl)) (X.1.2.2.2.2 _ (in_ALL (List.mem_append_right _ (List.mem_append_left _ (List.mem_of_getElem? (i := 65) rfl))) rfl)) ⟨by decide, by decide, by decide +kernel⟩ hR, X.1.2.2.2.2 _ (in_ALL (List.mem_append_right _ (List.mem_append_left _ (List.mem_of_getElem? (i := 67) rfl))) rfl), (X.1.2.2.2.2 _ (in_sel (q := (y_R_loadX, 6)) (by decide +kernel) rfl))⟩
theorem NR_R_loadY_54 {rm : Room} (X : FX p m c cc nL s args "ClockedChip$Registers" g A) (hc : rm.cells = 0) (hs : rm.slots = 0) (hR : rm.frames + 1 ≤ R.frames ∧ 8 + (2 + 11) + rm.locals ≤ R.locals) : CNO R s args "ClockedChip$Registers" 54 y_R_loadY c_R_loadY 2 none rm 1 :=
  ⟨callB_of 1 X.1.2.2.2.2 (goodIn_code w_R_loadY) rfl hc hs (X.1.2.2.2.2 _ (in_ALL (List.mem_append_left _ (List.mem_of_getElem? (i := 2) rfl)) rfl)) (X.1.2.2.2.2 _ (in_ALL (List.mem_append_right _ (List.mem_append_left _ (List.mem_of_getElem? (i := 69) rfl))) rfl)) ⟨by decide, by decide, by decide +kernel⟩ hR, X.1.2.2.2.2 _ (in_ALL (List.mem_append_right _ (List.mem_append_left _ (List.mem_of_getElem? (i := 71) rfl))) rfl), (X.1.2.2.2.2 _ (in_sel (q := (y_R_loadY, 6)) (by decide +kernel) rfl))⟩
theorem NR_R_putNz_25 {rm : Room} (X : FX p m c cc nL s args "ClockedChip$Registers" g A) (hc : rm.cells = 0) (hs : rm.slots = 0) (hR : rm.frames + 1 ≤ R.frames ∧ 8 + (3 + 11) + rm.locals ≤ R.locals) : CNO R s args "ClockedChip$Registers" 25 y_R_putNz c_R_putNz 3 none rm 1 :=
  ⟨callB_of 1 X.1.2.2.2.2 (goodIn_code w_R_putNz) rfl hc hs (X.1.2.2.2.2 _ (in_ALL (List.mem_append_left _ (List.mem_of_getElem? (i := 2) rfl)) rfl)) (X.1.2.2.2.2 _ (in_ALL (List.mem_append_left _ (List.mem_of_getElem? (i := 159) rfl)) rfl)) ⟨by decide, by decide, by decide +kernel⟩ hR, X.1.2.2.2.2 _ (in_ALL (List.mem_append_left _ (List.mem_of_getElem? (i := 161) rfl)) rfl), (X.1.2.2.2.2 _ (in_sel (q := (y_R_putNz, 6)) (by decide +kernel) rfl))⟩
theorem NR_R_put_57 {rm : Room} (X : FX p m c cc nL s args "ClockedChip$Registers" g A) (hc : rm.cells = 0) (hs : rm.slots = 0) (hR : rm.frames + 1 ≤ R.frames ∧ 8 + (3 + 11) + rm.locals ≤ R.locals) : CNO R s args "ClockedChip$Registers" 57 y_R_put c_R_put 3 none rm 2 :=
  ⟨callB_of 2 X.1.2.2.2.2 (goodIn_code w_R_put) rfl hc hs (X.1.2.2.2.2 _ (in_ALL (List.mem_append_left _ (List.mem_of_getElem? (i := 2) rfl)) rfl)) (X.1.2.2.2.2 _ (in_ALL (List.mem_append_left _ (List.mem_of_getElem? (i := 154) rfl)) rfl)) ⟨by decide, by decide, by decide +kernel⟩ hR, X.1.2.2.2.2 _ (in_ALL (List.mem_append_left _ (List.mem_of_getElem? (i := 156) rfl)) rfl), (X.1.2.2.2.2 _ (in_sel (q := (y_R_put, 6)) (by decide +kernel) rfl))⟩
theorem NR_R_subtract_45 {rm : Room} (X : FX p m c cc nL s args "ClockedChip$Registers" g A) (hc : rm.cells = 0) (hs : rm.slots = 0) (hR : rm.frames + 1 ≤ R.frames ∧ 8 + (4 + 11) + rm.locals ≤ R.locals) : CNO R s args "ClockedChip$Registers" 45 y_R_subtract c_R_subtract 4 none rm 1 :=
  ⟨callB_of 1 X.1.2.2.2.2 (goodIn_code w_R_subtract) rfl hc hs (X.1.2.2.2.2 _ (in_ALL (List.mem_append_left _ (List.mem_of_getElem? (i := 2) rfl)) rfl)) (X.1.2.2.2.2 _ (in_ALL (List.mem_append_right _ (List.mem_append_left _ (List.mem_of_getElem? (i := 53) rfl))) rfl)) ⟨by decide, by decide, by decide +kernel⟩ hR, X.1.2.2.2.2 _ (in_ALL (List.mem_append_right _ (List.mem_append_left _ (List.mem_of_getElem? (i := 55) rfl))) rfl), (X.1.2.2.2.2 _ (in_sel (q := (y_R_subtract, 6)) (by decide +kernel) rfl))⟩
theorem PR_a (X : FX p m c cc nL s args "ClockedChip$Registers" g A) (hC : HC g A s (wC g rt o st) H locs) {x : Int32} (hdg : decode cc pc = .ok (.putfield 22, 3)) (kk : ∀ (u : CS) (H1 : Heap) (locs1 : List Loc), sV st 0 x = u → HC g A s (wC g rt o u) H1 locs1 → W p l e R s m args below meth c H1 locs1 cells slots Q (F0 m (pc + 3) ls rest)) : W p l e R s m args below meth c H locs cells slots Q (F0 m pc ls (.int x :: .ref g.regs :: rest)) :=
  va_put (D := g.1) (ci := 1) (v := .int x) (ty := .int) (C := "ClockedChip$Registers") (T := TR) (N := 6) X.1.1 X.1.2.1 X.1.2.2.2.2 in_R tyR tyR_ok nmR X.1.2.2.2.1 X.2.1 hC.1 hC.2.1 hC.2.2 3 rfl rfl 0 (by decide) (X.1.2.2.2.2 _ (in_ALL (List.mem_append_left _ (List.mem_of_getElem? (i := 29) rfl)) rfl)) (fun _ h9 => h9) rfl (by decide +kernel) rfl rfl (Nat.le_of_ble_eq_true rfl) hdg (fun H1 locs1 hP hD hS => kk _ H1 locs1 rfl ⟨hP, hD, hS⟩)
theorem PR_flags (X : FX p m c cc nL s args "ClockedChip$Registers" g A) (hC : HC g A s (wC g rt o st) H locs) {x : Int32} (hdg : decode cc pc = .ok (.putfield 9, 3)) (kk : ∀ (u : CS) (H1 : Heap) (locs1 : List Loc), sV st 5 x = u → HC g A s (wC g rt o u) H1 locs1 → W p l e R s m args below meth c H1 locs1 cells slots Q (F0 m (pc + 3) ls rest)) : W p l e R s m args below meth c H locs cells slots Q (F0 m pc ls (.int x :: .ref g.regs :: rest)) :=
  va_put (D := g.1) (ci := 1) (v := .int x) (ty := .int) (C := "ClockedChip$Registers") (T := TR) (N := 6) X.1.1 X.1.2.1 X.1.2.2.2.2 in_R tyR tyR_ok nmR X.1.2.2.2.1 X.2.1 hC.1 hC.2.1 hC.2.2 3 rfl rfl 5 (by decide) (X.1.2.2.2.2 _ (in_ALL (List.mem_append_left _ (List.mem_of_getElem? (i := 38) rfl)) rfl)) (fun _ h9 => h9) rfl (by decide +kernel) rfl rfl (Nat.le_of_ble_eq_true rfl) hdg (fun H1 locs1 hP hD hS => kk _ H1 locs1 rfl ⟨hP, hD, hS⟩)
theorem PR_pc (X : FX p m c cc nL s args "ClockedChip$Registers" g A) (hC : HC g A s (wC g rt o st) H locs) {x : Int32} (hdg : decode cc pc = .ok (.putfield 15, 3)) (kk : ∀ (u : CS) (H1 : Heap) (locs1 : List Loc), sV st 4 x = u → HC g A s (wC g rt o u) H1 locs1 → W p l e R s m args below meth c H1 locs1 cells slots Q (F0 m (pc + 3) ls rest)) : W p l e R s m args below meth c H locs cells slots Q (F0 m pc ls (.int x :: .ref g.regs :: rest)) :=
  va_put (D := g.1) (ci := 1) (v := .int x) (ty := .int) (C := "ClockedChip$Registers") (T := TR) (N := 6) X.1.1 X.1.2.1 X.1.2.2.2.2 in_R tyR tyR_ok nmR X.1.2.2.2.1 X.2.1 hC.1 hC.2.1 hC.2.2 3 rfl rfl 4 (by decide) (X.1.2.2.2.2 _ (in_ALL (List.mem_append_left _ (List.mem_of_getElem? (i := 36) rfl)) rfl)) (fun _ h9 => h9) rfl (by decide +kernel) rfl rfl (Nat.le_of_ble_eq_true rfl) hdg (fun H1 locs1 hP hD hS => kk _ H1 locs1 rfl ⟨hP, hD, hS⟩)
theorem PR_s (X : FX p m c cc nL s args "ClockedChip$Registers" g A) (hC : HC g A s (wC g rt o st) H locs) {x : Int32} (hdg : decode cc pc = .ok (.putfield 19, 3)) (kk : ∀ (u : CS) (H1 : Heap) (locs1 : List Loc), sV st 3 x = u → HC g A s (wC g rt o u) H1 locs1 → W p l e R s m args below meth c H1 locs1 cells slots Q (F0 m (pc + 3) ls rest)) : W p l e R s m args below meth c H locs cells slots Q (F0 m pc ls (.int x :: .ref g.regs :: rest)) :=
  va_put (D := g.1) (ci := 1) (v := .int x) (ty := .int) (C := "ClockedChip$Registers") (T := TR) (N := 6) X.1.1 X.1.2.1 X.1.2.2.2.2 in_R tyR tyR_ok nmR X.1.2.2.2.1 X.2.1 hC.1 hC.2.1 hC.2.2 3 rfl rfl 3 (by decide) (X.1.2.2.2.2 _ (in_ALL (List.mem_append_left _ (List.mem_of_getElem? (i := 35) rfl)) rfl)) (fun _ h9 => h9) rfl (by decide +kernel) rfl rfl (Nat.le_of_ble_eq_true rfl) hdg (fun H1 locs1 hP hD hS => kk _ H1 locs1 rfl ⟨hP, hD, hS⟩)
theorem PR_x (X : FX p m c cc nL s args "ClockedChip$Registers" g A) (hC : HC g A s (wC g rt o st) H locs) {x : Int32} (hdg : decode cc pc = .ok (.putfield 29, 3)) (kk : ∀ (u : CS) (H1 : Heap) (locs1 : List Loc), sV st 1 x = u → HC g A s (wC g rt o u) H1 locs1 → W p l e R s m args below meth c H1 locs1 cells slots Q (F0 m (pc + 3) ls rest)) : W p l e R s m args below meth c H locs cells slots Q (F0 m pc ls (.int x :: .ref g.regs :: rest)) :=
  va_put (D := g.1) (ci := 1) (v := .int x) (ty := .int) (C := "ClockedChip$Registers") (T := TR) (N := 6) X.1.1 X.1.2.1 X.1.2.2.2.2 in_R tyR tyR_ok nmR X.1.2.2.2.1 X.2.1 hC.1 hC.2.1 hC.2.2 3 rfl rfl 1 (by decide) (X.1.2.2.2.2 _ (in_ALL (List.mem_append_left _ (List.mem_of_getElem? (i := 31) rfl)) rfl)) (fun _ h9 => h9) rfl (by decide +kernel) rfl rfl (Nat.le_of_ble_eq_true rfl) hdg (fun H1 locs1 hP hD hS => kk _ H1 locs1 rfl ⟨hP, hD, hS⟩)
theorem PR_y (X : FX p m c cc nL s args "ClockedChip$Registers" g A) (hC : HC g A s (wC g rt o st) H locs) {x : Int32} (hdg : decode cc pc = .ok (.putfield 32, 3)) (kk : ∀ (u : CS) (H1 : Heap) (locs1 : List Loc), sV st 2 x = u → HC g A s (wC g rt o u) H1 locs1 → W p l e R s m args below meth c H1 locs1 cells slots Q (F0 m (pc + 3) ls rest)) : W p l e R s m args below meth c H locs cells slots Q (F0 m pc ls (.int x :: .ref g.regs :: rest)) :=
  va_put (D := g.1) (ci := 1) (v := .int x) (ty := .int) (C := "ClockedChip$Registers") (T := TR) (N := 6) X.1.1 X.1.2.1 X.1.2.2.2.2 in_R tyR tyR_ok nmR X.1.2.2.2.1 X.2.1 hC.1 hC.2.1 hC.2.2 3 rfl rfl 2 (by decide) (X.1.2.2.2.2 _ (in_ALL (List.mem_append_left _ (List.mem_of_getElem? (i := 33) rfl)) rfl)) (fun _ h9 => h9) rfl (by decide +kernel) rfl rfl (Nat.le_of_ble_eq_true rfl) hdg (fun H1 locs1 hP hD hS => kk _ H1 locs1 rfl ⟨hP, hD, hS⟩)
end RW
end
section
/-! contracts of methods (printed by my own program: pure pictures and walks) -/
def f_R_changed_61 (st : CS) (s0 : Int32) : Int32 × CS := (s0, st)
def f_R_changed (st : CS) (v1 : Int32) (v2 : Int32) : Int32 × CS := if v1 = 10 then (f_R_changed_61 st ((v2 + 1) &&& 255)) else (if v1 = 11 then (f_R_changed_61 st ((v2 - 1) &&& 255)) else (if v1 = 12 then (f_R_changed_61 st ((v2 <<< (1 &&& 31)) &&& 255)) else (f_R_changed_61 st (v2 >>> (1 &&& 31)))))
abbrev rm_R_changed : Room := { frames := 0, cells := 0, slots := 0, locals := 0 }
set_option maxHeartbeats 4000000 in
set_option maxRecDepth 100000 in
theorem k_R_changed (l : Launch) (g : CG) (rt : MS) (o : Nat → Int64) (st : CS) (v1 : Int32) (v2 : Int32) : KI l g y_R_changed (Cond.code y_R_changed c_R_changed 3 (some .int) :: ALL) rm_R_changed [.ref (g.regs), .int v1, .int v2] (wC g rt o) st (f_R_changed st v1 v2) := by
  refine KI.ofW (by decide) (Nat.le_of_ble_eq_true rfl) ?_
  intro p e s m args below meth c A Q ls Rv X he RET hC hl
  obtain ⟨hx, hb⟩ := FX_xb X
  have hl : lv_has ls 3 [(0, .ref (g.regs)), (1, .int v1), (2, .int v2)] := hl
  have B61 : ∀ (H : Heap) (locs : List Loc) (ls : Array Slot) (st : CS) (s0 : Int32), HC g A s (wC g rt o st) H locs → lv_has ls 3 [] → f_R_changed_61 st s0 = Rv → W p l e rm_R_changed s m args below meth c H locs 0 0 Q (F0 m 61 ls [.int s0]) := by
    intro H locs ls st s0  hC hl he
    unfold f_R_changed_61 at he
    exact RET (pc := 61) d_R_changed_61 hC he
  unfold f_R_changed at he
  refine lv_iload_n (pc := 0) hx hb d_R_changed_0 rfl (lv_at hl 1 rfl) ?_
  by_cases h1 : v1 = 10
  · replace he := if_go he h1
    refine lv_tableIn (pc := 1) (tgt := 28) hx hb d_R_changed_1 (by rw [h1]; decide) (by rw [h1]; decide) (by rw [h1]; rfl) (by decide) ?_
    refine lv_iload_n (pc := 28) hx hb d_R_changed_28 rfl (lv_at hl 2 rfl) ?_
    refine lv_iconst (pc := 29) (v := 1) hx hb d_R_changed_29 (by decide) ?_
    refine lv_iadd (pc := 30) hx hb d_R_changed_30 ?_
    refine lv_sipush (pc := 31) (v := 255) hx hb d_R_changed_31 (by decide) ?_
    refine lv_iand (pc := 34) hx hb d_R_changed_34 ?_
    refine lv_goto (pc := 35) (tgt := 61) hx hb d_R_changed_35 (by decide) ?_
    exact B61 _ _ _ st ((v2 + 1) &&& 255)  hC (lv_sub hl [] rfl) he
  replace he := if_no he h1
  by_cases h2 : v1 = 11
  · replace he := if_go he h2
    refine lv_tableIn (pc := 1) (tgt := 38) hx hb d_R_changed_1 (by rw [h2]; decide) (by rw [h2]; decide) (by rw [h2]; rfl) (by decide) ?_
    refine lv_iload_n (pc := 38) hx hb d_R_changed_38 rfl (lv_at hl 2 rfl) ?_
    refine lv_iconst (pc := 39) (v := 1) hx hb d_R_changed_39 (by decide) ?_
    refine lv_isub (pc := 40) hx hb d_R_changed_40 ?_
    refine lv_sipush (pc := 41) (v := 255) hx hb d_R_changed_41 (by decide) ?_
    refine lv_iand (pc := 44) hx hb d_R_changed_44 ?_
    refine lv_goto (pc := 45) (tgt := 61) hx hb d_R_changed_45 (by decide) ?_
    exact B61 _ _ _ st ((v2 - 1) &&& 255)  hC (lv_sub hl [] rfl) he
  replace he := if_no he h2
  by_cases h3 : v1 = 12
  · replace he := if_go he h3
    refine lv_tableIn (pc := 1) (tgt := 48) hx hb d_R_changed_1 (by rw [h3]; decide) (by rw [h3]; decide) (by rw [h3]; rfl) (by decide) ?_
    refine lv_iload_n (pc := 48) hx hb d_R_changed_48 rfl (lv_at hl 2 rfl) ?_
    refine lv_iconst (pc := 49) (v := 1) hx hb d_R_changed_49 (by decide) ?_
    refine lv_ishl (pc := 50) hx hb d_R_changed_50 ?_
    refine lv_sipush (pc := 51) (v := 255) hx hb d_R_changed_51 (by decide) ?_
    refine lv_iand (pc := 54) hx hb d_R_changed_54 ?_
    refine lv_goto (pc := 55) (tgt := 61) hx hb d_R_changed_55 (by decide) ?_
    exact B61 _ _ _ st ((v2 <<< (1 &&& 31)) &&& 255)  hC (lv_sub hl [] rfl) he
  replace he := if_no he h3
  refine lv_tableOut (pc := 1) (tgt := 58) hx hb d_R_changed_1 (by have nh1 := lv_neT (a := 10) h1 (by decide); have nh2 := lv_neT (a := 11) h2 (by decide); have nh3 := lv_neT (a := 12) h3 (by decide); omega) (by decide) ?_
  refine lv_iload_n (pc := 58) hx hb d_R_changed_58 rfl (lv_at hl 2 rfl) ?_
  refine lv_iconst (pc := 59) (v := 1) hx hb d_R_changed_59 (by decide) ?_
  refine lv_ishr (pc := 60) hx hb d_R_changed_60 ?_
  exact B61 _ _ _ st (v2 >>> (1 &&& 31))  hC (lv_sub hl [] rfl) he
def f_R_p (st : CS)  : Int32 × CS := (((st.1 5) + 32), st)
abbrev rm_R_p : Room := { frames := 0, cells := 0, slots := 0, locals := 0 }
set_option maxHeartbeats 4000000 in
set_option maxRecDepth 100000 in
theorem k_R_p (l : Launch) (g : CG) (rt : MS) (o : Nat → Int64) (st : CS)  : KI l g y_R_p (Cond.code y_R_p c_R_p 1 (some .int) :: ALL) rm_R_p [.ref (g.regs)] (wC g rt o) st (f_R_p st ) := by
  refine KI.ofW (by decide) (Nat.le_of_ble_eq_true rfl) ?_
  intro p e s m args below meth c A Q ls Rv X he RET hC hl
  obtain ⟨hx, hb⟩ := FX_xb X
  have hl : lv_has ls 1 [(0, .ref (g.regs))] := hl
  unfold f_R_p at he
  refine lv_aload_n (pc := 0) hx hb d_R_p_0 rfl (lv_at hl 0 rfl) ?_
  refine GR_flags (pc := 1) X hC d_R_p_1 ?_
  refine lv_bipush (pc := 4) (v := 32) hx hb d_R_p_4 (by decide) ?_
  refine lv_iadd (pc := 6) hx hb d_R_p_6 ?_
  exact RET (pc := 7) d_R_p_7 hC he
def f_R_put_22 (st : CS) (s0 : Int32) : CS := bS (sV st 5 s0) (fun st2 => st2)
def f_R_put (st : CS) (v1 : Int32) (v2 : Int32) : CS := if v2 = 0 then (f_R_put_22 st ((st.1 5) &&& (v1 ^^^ (-1)))) else (f_R_put_22 st ((st.1 5) ||| v1))
abbrev rm_R_put : Room := { frames := 0, cells := 0, slots := 0, locals := 0 }
set_option maxHeartbeats 4000000 in
set_option maxRecDepth 100000 in
theorem k_R_put (l : Launch) (g : CG) (rt : MS) (o : Nat → Int64) (st : CS) (v1 : Int32) (v2 : Int32) : KV l g y_R_put (Cond.code y_R_put c_R_put 3 none :: ALL) rm_R_put [.ref (g.regs), .int v1, .int v2] (wC g rt o) st (f_R_put st v1 v2) := by
  refine KV.ofW (by decide) (Nat.le_of_ble_eq_true rfl) ?_
  intro p e s m args below meth c A Q ls Rv X he RET hC hl
  obtain ⟨hx, hb⟩ := FX_xb X
  have hl : lv_has ls 3 [(0, .ref (g.regs)), (1, .int v1), (2, .int v2)] := hl
  have B22 : ∀ (H : Heap) (locs : List Loc) (ls : Array Slot) (st : CS) (s0 : Int32), HC g A s (wC g rt o st) H locs → lv_has ls 3 [] → f_R_put_22 st s0 = Rv → W p l e rm_R_put s m args below meth c H locs 0 0 Q (F0 m 22 ls [.int s0, .ref (g.regs)]) := by
    intro H locs ls st s0  hC hl he
    unfold f_R_put_22 at he
    refine PR_flags (pc := 22) X hC d_R_put_22 (fun st2 H locs est2 hC => ?_)
    replace he := bS_go he est2
    exact RET (pc := 25) d_R_put_25 hC he
  unfold f_R_put at he
  refine lv_aload_n (pc := 0) hx hb d_R_put_0 rfl (lv_at hl 0 rfl) ?_
  refine lv_iload_n (pc := 1) hx hb d_R_put_1 rfl (lv_at hl 2 rfl) ?_
  refine lv_if_eq (pc := 2) (tgt := 14) hx hb d_R_put_2 (by decide) (fun h1 => ?_) (fun h1 => ?_)
  · replace he := if_go he h1
    refine lv_aload_n (pc := 14) hx hb d_R_put_14 rfl (lv_at hl 0 rfl) ?_
    refine GR_flags (pc := 15) X hC d_R_put_15 ?_
    refine lv_iload_n (pc := 18) hx hb d_R_put_18 rfl (lv_at hl 1 rfl) ?_
    refine lv_iconst (pc := 19) (v := (-1)) hx hb d_R_put_19 (by decide) ?_
    refine lv_ixor (pc := 20) hx hb d_R_put_20 ?_
    refine lv_iand (pc := 21) hx hb d_R_put_21 ?_
    exact B22 _ _ _ st ((st.1 5) &&& (v1 ^^^ (-1)))  hC (lv_sub hl [] rfl) he
  replace he := if_no he h1
  refine lv_aload_n (pc := 5) hx hb d_R_put_5 rfl (lv_at hl 0 rfl) ?_
  refine GR_flags (pc := 6) X hC d_R_put_6 ?_
  refine lv_iload_n (pc := 9) hx hb d_R_put_9 rfl (lv_at hl 1 rfl) ?_
  refine lv_ior (pc := 10) hx hb d_R_put_10 ?_
  refine lv_goto (pc := 11) (tgt := 22) hx hb d_R_put_11 (by decide) ?_
  exact B22 _ _ _ st ((st.1 5) ||| v1)  hC (lv_sub hl [] rfl) he
def f_R_putNz_26 (st : CS) (s0 : Int32) (s1 : Int32) : CS := bS (sV st 5 (s1 ||| s0)) (fun st3 => st3)
def f_R_putNz (st : CS) (v1 : Int32) : CS := bS (((st.1 5) &&& (-131)) : Int32) (fun y1 => if v1 = 0 then (f_R_putNz_26 st 2 (y1 ||| (v1 &&& 128))) else (f_R_putNz_26 st 0 (y1 ||| (v1 &&& 128))))
abbrev rm_R_putNz : Room := { frames := 0, cells := 0, slots := 0, locals := 0 }
set_option maxHeartbeats 4000000 in
set_option maxRecDepth 100000 in
theorem k_R_putNz (l : Launch) (g : CG) (rt : MS) (o : Nat → Int64) (st : CS) (v1 : Int32) : KV l g y_R_putNz (Cond.code y_R_putNz c_R_putNz 3 none :: ALL) rm_R_putNz [.ref (g.regs), .int v1] (wC g rt o) st (f_R_putNz st v1) := by
  refine KV.ofW (by decide) (Nat.le_of_ble_eq_true rfl) ?_
  intro p e s m args below meth c A Q ls Rv X he RET hC hl
  obtain ⟨hx, hb⟩ := FX_xb X
  have hl : lv_has ls 3 [(0, .ref (g.regs)), (1, .int v1)] := hl
  have B26 : ∀ (H : Heap) (locs : List Loc) (ls : Array Slot) (st : CS) (s0 : Int32) (s1 : Int32), HC g A s (wC g rt o st) H locs → lv_has ls 3 [] → f_R_putNz_26 st s0 s1 = Rv → W p l e rm_R_putNz s m args below meth c H locs 0 0 Q (F0 m 26 ls [.int s0, .int s1, .ref (g.regs)]) := by
    intro H locs ls st s0 s1  hC hl he
    unfold f_R_putNz_26 at he
    refine lv_ior (pc := 26) hx hb d_R_putNz_26 ?_
    refine PR_flags (pc := 27) X hC d_R_putNz_27 (fun st3 H locs est3 hC => ?_)
    replace he := bS_go he est3
    exact RET (pc := 30) d_R_putNz_30 hC he
  unfold f_R_putNz at he
  refine lv_aload_n (pc := 0) hx hb d_R_putNz_0 rfl (lv_at hl 0 rfl) ?_
  refine GR_flags (pc := 1) X hC d_R_putNz_1 ?_
  refine lv_sipush (pc := 4) (v := (-131)) hx hb d_R_putNz_4 (by decide) ?_
  refine lv_iand (pc := 7) hx hb d_R_putNz_7 ?_
  refine lv_topi (fun y1 ey1 => ?_)
  replace he := bS_go he ey1.symm
  refine lv_istore_n (pc := 8) (nL := 3) (lv' := [(2, .int y1), (0, .ref (g.regs)), (1, .int v1)]) hx hb d_R_putNz_8 rfl hl (by decide) rfl (fun ls hl => ?_)
  refine lv_aload_n (pc := 9) hx hb d_R_putNz_9 rfl (lv_at hl 1 rfl) ?_
  refine lv_iload_n (pc := 10) hx hb d_R_putNz_10 rfl (lv_at hl 0 rfl) ?_
  refine lv_iload_n (pc := 11) hx hb d_R_putNz_11 rfl (lv_at hl 2 rfl) ?_
  refine lv_sipush (pc := 12) (v := 128) hx hb d_R_putNz_12 (by decide) ?_
  refine lv_iand (pc := 15) hx hb d_R_putNz_15 ?_
  refine lv_ior (pc := 16) hx hb d_R_putNz_16 ?_
  refine lv_iload_n (pc := 17) hx hb d_R_putNz_17 rfl (lv_at hl 2 rfl) ?_
  refine lv_if_ne (pc := 18) (tgt := 25) hx hb d_R_putNz_18 (by decide) (fun h2 => ?_) (fun h2 => ?_)
  · replace he := if_no he h2
    refine lv_iconst (pc := 25) (v := 0) hx hb d_R_putNz_25 (by decide) ?_
    exact B26 _ _ _ st 0 (y1 ||| (v1 &&& 128))  hC (lv_sub hl [] rfl) he
  replace he := if_go he h2
  refine lv_iconst (pc := 21) (v := 2) hx hb d_R_putNz_21 (by decide) ?_
  refine lv_goto (pc := 22) (tgt := 26) hx hb d_R_putNz_22 (by decide) ?_
  exact B26 _ _ _ st 2 (y1 ||| (v1 &&& 128))  hC (lv_sub hl [] rfl) he
def f_R_flagsOfChange_49 (st : CS) (v1 : Int32) (v2 : Int32) : CS := bP (f_R_changed st v1 v2) (fun r8 st7 => bS (f_R_putNz st7 r8) (fun st9 => st9))
def f_R_flagsOfChange_46 (st : CS) (v1 : Int32) (v2 : Int32) (s0 : Int32) (s1 : Int32) : CS := bS (f_R_put st s1 s0) (fun st6 => f_R_flagsOfChange_49 st6 v1 v2)
def f_R_flagsOfChange_20 (st : CS) (v1 : Int32) (v2 : Int32) (s0 : Int32) (s1 : Int32) : CS := bS (f_R_put st s1 s0) (fun st5 => f_R_flagsOfChange_49 st5 v1 v2)
def f_R_flagsOfChange (st : CS) (v1 : Int32) (v2 : Int32) : CS := if v1 = 12 then (if v2 < 128 then (f_R_flagsOfChange_20 st v1 v2 0 1) else (f_R_flagsOfChange_20 st v1 v2 1 1)) else (if v1 = 13 then (if (v2 &&& 1) = 1 then (f_R_flagsOfChange_46 st v1 v2 1 1) else (f_R_flagsOfChange_46 st v1 v2 0 1)) else (f_R_flagsOfChange_49 st v1 v2))
abbrev rm_R_flagsOfChange : Room := { frames := 1, cells := 0, slots := 0, locals := 22 }
set_option maxHeartbeats 4000000 in
set_option maxRecDepth 100000 in
theorem k_R_flagsOfChange (l : Launch) (g : CG) (rt : MS) (o : Nat → Int64) (st : CS) (v1 : Int32) (v2 : Int32) : KV l g y_R_flagsOfChange (Cond.code y_R_flagsOfChange c_R_flagsOfChange 3 none :: ALL) rm_R_flagsOfChange [.ref (g.regs), .int v1, .int v2] (wC g rt o) st (f_R_flagsOfChange st v1 v2) := by
  refine KV.ofW (by decide) (Nat.le_of_ble_eq_true rfl) ?_
  intro p e s m args below meth c A Q ls Rv X he RET hC hl
  obtain ⟨hx, hb⟩ := FX_xb X
  have hl : lv_has ls 3 [(0, .ref (g.regs)), (1, .int v1), (2, .int v2)] := hl
  have B49 : ∀ (H : Heap) (locs : List Loc) (ls : Array Slot) (st : CS) (v1 : Int32) (v2 : Int32), HC g A s (wC g rt o st) H locs → lv_has ls 3 [(0, .ref (g.regs)), (1, .int v1), (2, .int v2)] → f_R_flagsOfChange_49 st v1 v2 = Rv → W p l e rm_R_flagsOfChange s m args below meth c H locs 0 0 Q (F0 m 49 ls []) := by
    intro H locs ls st v1 v2  hC hl he
    unfold f_R_flagsOfChange_49 at he
    refine lv_aload_n (pc := 49) hx hb d_R_flagsOfChange_49 rfl (lv_at hl 0 rfl) ?_
    refine lv_aload_n (pc := 50) hx hb d_R_flagsOfChange_50 rfl (lv_at hl 0 rfl) ?_
    refine lv_iload_n (pc := 51) hx hb d_R_flagsOfChange_51 rfl (lv_at hl 1 rfl) ?_
    refine lv_iload_n (pc := 52) hx hb d_R_flagsOfChange_52 rfl (lv_at hl 2 rfl) ?_
    refine callIO (q0 := 3) (pc := 53) (As := [.int v1, .int v2]) (rest := [.ref (g.regs)]) X (k_R_changed l g rt o st v1 v2) hC (NR_R_changed_61 X rfl rfl ⟨by decide, by decide⟩) rfl rfl rfl hl.1 (Nat.le_of_ble_eq_true rfl) rfl d_R_flagsOfChange_53 ⟨Nat.zero_le _, Nat.zero_le _⟩ (fun r8 st7 H locs est7 hC => ?_)
    replace he := bP_go he est7
    refine callVO (q0 := 3) (pc := 56) (As := [.int r8]) (rest := []) X (k_R_putNz l g rt o st7 r8) hC (NR_R_putNz_25 X rfl rfl ⟨by decide, by decide⟩) rfl rfl rfl hl.1 (Nat.le_of_ble_eq_true rfl) rfl d_R_flagsOfChange_56 ⟨Nat.zero_le _, Nat.zero_le _⟩ (fun st9 H locs est9 hC => ?_)
    replace he := bS_go he est9
    exact RET (pc := 59) d_R_flagsOfChange_59 hC he
  have B46 : ∀ (H : Heap) (locs : List Loc) (ls : Array Slot) (st : CS) (v1 : Int32) (v2 : Int32) (s0 : Int32) (s1 : Int32) (hs0 : s0 = 0 ∨ s0 = 1) (hs1 : s1 = 0 ∨ s1 = 1), HC g A s (wC g rt o st) H locs → lv_has ls 3 [(0, .ref (g.regs)), (1, .int v1), (2, .int v2)] → f_R_flagsOfChange_46 st v1 v2 s0 s1 = Rv → W p l e rm_R_flagsOfChange s m args below meth c H locs 0 0 Q (F0 m 46 ls [.int s0, .int s1, .ref (g.regs)]) := by
    intro H locs ls st v1 v2 s0 s1 hs0 hs1 hC hl he
    unfold f_R_flagsOfChange_46 at he
    refine callVO (q0 := 3) (pc := 46) (As := [.int s1, .int s0]) (rest := []) X (k_R_put l g rt o st s1 s0) hC (NR_R_put_57 X rfl rfl ⟨by decide, by decide⟩) rfl rfl rfl hl.1 (Nat.le_of_ble_eq_true rfl) rfl d_R_flagsOfChange_46 ⟨Nat.zero_le _, Nat.zero_le _⟩ (fun st6 H locs est6 hC => ?_)
    replace he := bS_go he est6
    exact B49 _ _ _ st6 v1 v2  hC (lv_sub hl [0, 1, 2] rfl) he
  have B20 : ∀ (H : Heap) (locs : List Loc) (ls : Array Slot) (st : CS) (v1 : Int32) (v2 : Int32) (s0 : Int32) (s1 : Int32) (hs0 : s0 = 0 ∨ s0 = 1) (hs1 : s1 = 0 ∨ s1 = 1), HC g A s (wC g rt o st) H locs → lv_has ls 3 [(0, .ref (g.regs)), (1, .int v1), (2, .int v2)] → f_R_flagsOfChange_20 st v1 v2 s0 s1 = Rv → W p l e rm_R_flagsOfChange s m args below meth c H locs 0 0 Q (F0 m 20 ls [.int s0, .int s1, .ref (g.regs)]) := by
    intro H locs ls st v1 v2 s0 s1 hs0 hs1 hC hl he
    unfold f_R_flagsOfChange_20 at he
    refine callVO (q0 := 3) (pc := 20) (As := [.int s1, .int s0]) (rest := []) X (k_R_put l g rt o st s1 s0) hC (NR_R_put_57 X rfl rfl ⟨by decide, by decide⟩) rfl rfl rfl hl.1 (Nat.le_of_ble_eq_true rfl) rfl d_R_flagsOfChange_20 ⟨Nat.zero_le _, Nat.zero_le _⟩ (fun st5 H locs est5 hC => ?_)
    replace he := bS_go he est5
    refine lv_goto (pc := 23) (tgt := 49) hx hb d_R_flagsOfChange_23 (by decide) ?_
    exact B49 _ _ _ st5 v1 v2  hC (lv_sub hl [0, 1, 2] rfl) he
  unfold f_R_flagsOfChange at he
  refine lv_iload_n (pc := 0) hx hb d_R_flagsOfChange_0 rfl (lv_at hl 1 rfl) ?_
  refine lv_bipush (pc := 1) (v := 12) hx hb d_R_flagsOfChange_1 (by decide) ?_
  refine lv_icmp_ne (pc := 3) (tgt := 26) hx hb d_R_flagsOfChange_3 (by decide) (fun h1 => ?_) (fun h1 => ?_)
  · replace he := if_no he h1
    refine lv_iload_n (pc := 26) hx hb d_R_flagsOfChange_26 rfl (lv_at hl 1 rfl) ?_
    refine lv_bipush (pc := 27) (v := 13) hx hb d_R_flagsOfChange_27 (by decide) ?_
    refine lv_icmp_ne (pc := 29) (tgt := 49) hx hb d_R_flagsOfChange_29 (by decide) (fun h2 => ?_) (fun h2 => ?_)
    · replace he := if_no he h2
      exact B49 _ _ _ st v1 v2  hC (lv_sub hl [0, 1, 2] rfl) he
    replace he := if_go he h2
    refine lv_aload_n (pc := 32) hx hb d_R_flagsOfChange_32 rfl (lv_at hl 0 rfl) ?_
    refine lv_iconst (pc := 33) (v := 1) hx hb d_R_flagsOfChange_33 (by decide) ?_
    refine lv_iload_n (pc := 34) hx hb d_R_flagsOfChange_34 rfl (lv_at hl 2 rfl) ?_
    refine lv_iconst (pc := 35) (v := 1) hx hb d_R_flagsOfChange_35 (by decide) ?_
    refine lv_iand (pc := 36) hx hb d_R_flagsOfChange_36 ?_
    refine lv_iconst (pc := 37) (v := 1) hx hb d_R_flagsOfChange_37 (by decide) ?_
    refine lv_icmp_ne (pc := 38) (tgt := 45) hx hb d_R_flagsOfChange_38 (by decide) (fun h3 => ?_) (fun h3 => ?_)
    · replace he := if_no he h3
      refine lv_iconst (pc := 45) (v := 0) hx hb d_R_flagsOfChange_45 (by decide) ?_
      exact B46 _ _ _ st v1 v2 0 1 b0 b1 hC (lv_sub hl [0, 1, 2] rfl) he
    replace he := if_go he h3
    refine lv_iconst (pc := 41) (v := 1) hx hb d_R_flagsOfChange_41 (by decide) ?_
    refine lv_goto (pc := 42) (tgt := 46) hx hb d_R_flagsOfChange_42 (by decide) ?_
    exact B46 _ _ _ st v1 v2 1 1 b1 b1 hC (lv_sub hl [0, 1, 2] rfl) he
  replace he := if_go he h1
  refine lv_aload_n (pc := 6) hx hb d_R_flagsOfChange_6 rfl (lv_at hl 0 rfl) ?_
  refine lv_iconst (pc := 7) (v := 1) hx hb d_R_flagsOfChange_7 (by decide) ?_
  refine lv_iload_n (pc := 8) hx hb d_R_flagsOfChange_8 rfl (lv_at hl 2 rfl) ?_
  refine lv_sipush (pc := 9) (v := 128) hx hb d_R_flagsOfChange_9 (by decide) ?_
  refine lv_icmp_lt (pc := 12) (tgt := 19) hx hb d_R_flagsOfChange_12 (by decide) (fun h4 => ?_) (fun h4 => ?_)
  · replace he := if_go he h4
    refine lv_iconst (pc := 19) (v := 0) hx hb d_R_flagsOfChange_19 (by decide) ?_
    exact B20 _ _ _ st v1 v2 0 1 b0 b1 hC (lv_sub hl [0, 1, 2] rfl) he
  replace he := if_no he h4
  refine lv_iconst (pc := 15) (v := 1) hx hb d_R_flagsOfChange_15 (by decide) ?_
  refine lv_goto (pc := 16) (tgt := 20) hx hb d_R_flagsOfChange_16 (by decide) ?_
  exact B20 _ _ _ st v1 v2 1 1 b1 b1 hC (lv_sub hl [0, 1, 2] rfl) he
def f_R_has_14 (st : CS) (s0 : Int32) : Int32 × CS := (s0, st)
def f_R_has (st : CS) (v1 : Int32) : Int32 × CS := if ((st.1 5) &&& v1) = 0 then (f_R_has_14 st 0) else (f_R_has_14 st 1)
abbrev rm_R_has : Room := { frames := 0, cells := 0, slots := 0, locals := 0 }
set_option maxHeartbeats 4000000 in
set_option maxRecDepth 100000 in
theorem k_R_has (l : Launch) (g : CG) (rt : MS) (o : Nat → Int64) (st : CS) (v1 : Int32) : KZ l g y_R_has (Cond.code y_R_has c_R_has 2 (some .boolean) :: ALL) rm_R_has [.ref (g.regs), .int v1] (wC g rt o) st (f_R_has st v1) := by
  refine KZ.ofW (by decide) (Nat.le_of_ble_eq_true rfl) ?_
  intro p e s m args below meth c A Q ls Rv X he RET hC hl
  obtain ⟨hx, hb⟩ := FX_xb X
  have hl : lv_has ls 2 [(0, .ref (g.regs)), (1, .int v1)] := hl
  have B14 : ∀ (H : Heap) (locs : List Loc) (ls : Array Slot) (st : CS) (s0 : Int32) (hs0 : s0 = 0 ∨ s0 = 1), HC g A s (wC g rt o st) H locs → lv_has ls 2 [] → f_R_has_14 st s0 = Rv → W p l e rm_R_has s m args below meth c H locs 0 0 Q (F0 m 14 ls [.int s0]) := by
    intro H locs ls st s0 hs0 hC hl he
    unfold f_R_has_14 at he
    exact RET (pc := 14) d_R_has_14 hs0 hC he
  unfold f_R_has at he
  refine lv_aload_n (pc := 0) hx hb d_R_has_0 rfl (lv_at hl 0 rfl) ?_
  refine GR_flags (pc := 1) X hC d_R_has_1 ?_
  refine lv_iload_n (pc := 4) hx hb d_R_has_4 rfl (lv_at hl 1 rfl) ?_
  refine lv_iand (pc := 5) hx hb d_R_has_5 ?_
  refine lv_if_eq (pc := 6) (tgt := 13) hx hb d_R_has_6 (by decide) (fun h1 => ?_) (fun h1 => ?_)
  · replace he := if_go he h1
    refine lv_iconst (pc := 13) (v := 0) hx hb d_R_has_13 (by decide) ?_
    exact B14 _ _ _ st 0 b0 hC (lv_sub hl [] rfl) he
  replace he := if_no he h1
  refine lv_iconst (pc := 9) (v := 1) hx hb d_R_has_9 (by decide) ?_
  refine lv_goto (pc := 10) (tgt := 14) hx hb d_R_has_10 (by decide) ?_
  exact B14 _ _ _ st 1 b1 hC (lv_sub hl [] rfl) he
def f_R_moveStack (st : CS) (v1 : Int32) : CS := bS (sV st 3 (((st.1 3) + v1) &&& 255)) (fun st1 => st1)
abbrev rm_R_moveStack : Room := { frames := 0, cells := 0, slots := 0, locals := 0 }
set_option maxHeartbeats 4000000 in
set_option maxRecDepth 100000 in
theorem k_R_moveStack (l : Launch) (g : CG) (rt : MS) (o : Nat → Int64) (st : CS) (v1 : Int32) : KV l g y_R_moveStack (Cond.code y_R_moveStack c_R_moveStack 2 none :: ALL) rm_R_moveStack [.ref (g.regs), .int v1] (wC g rt o) st (f_R_moveStack st v1) := by
  refine KV.ofW (by decide) (Nat.le_of_ble_eq_true rfl) ?_
  intro p e s m args below meth c A Q ls Rv X he RET hC hl
  obtain ⟨hx, hb⟩ := FX_xb X
  have hl : lv_has ls 2 [(0, .ref (g.regs)), (1, .int v1)] := hl
  unfold f_R_moveStack at he
  refine lv_aload_n (pc := 0) hx hb d_R_moveStack_0 rfl (lv_at hl 0 rfl) ?_
  refine lv_aload_n (pc := 1) hx hb d_R_moveStack_1 rfl (lv_at hl 0 rfl) ?_
  refine GR_s (pc := 2) X hC d_R_moveStack_2 ?_
  refine lv_iload_n (pc := 5) hx hb d_R_moveStack_5 rfl (lv_at hl 1 rfl) ?_
  refine lv_iadd (pc := 6) hx hb d_R_moveStack_6 ?_
  refine lv_sipush (pc := 7) (v := 255) hx hb d_R_moveStack_7 (by decide) ?_
  refine lv_iand (pc := 10) hx hb d_R_moveStack_10 ?_
  refine PR_s (pc := 11) X hC d_R_moveStack_11 (fun st1 H locs est1 hC => ?_)
  replace he := bS_go he est1
  exact RET (pc := 14) d_R_moveStack_14 hC he
def f_R_nextPc (st : CS)  : CS := bS (sV st 4 (((st.1 4) + 1) &&& 65535)) (fun st1 => st1)
abbrev rm_R_nextPc : Room := { frames := 0, cells := 0, slots := 0, locals := 0 }
set_option maxHeartbeats 4000000 in
set_option maxRecDepth 100000 in
theorem k_R_nextPc (l : Launch) (g : CG) (rt : MS) (o : Nat → Int64) (st : CS)  : KV l g y_R_nextPc (Cond.code y_R_nextPc c_R_nextPc 1 none :: ALL) rm_R_nextPc [.ref (g.regs)] (wC g rt o) st (f_R_nextPc st ) := by
  refine KV.ofW (by decide) (Nat.le_of_ble_eq_true rfl) ?_
  intro p e s m args below meth c A Q ls Rv X he RET hC hl
  obtain ⟨hx, hb⟩ := FX_xb X
  have hl : lv_has ls 1 [(0, .ref (g.regs))] := hl
  unfold f_R_nextPc at he
  refine lv_aload_n (pc := 0) hx hb d_R_nextPc_0 rfl (lv_at hl 0 rfl) ?_
  refine lv_aload_n (pc := 1) hx hb d_R_nextPc_1 rfl (lv_at hl 0 rfl) ?_
  refine GR_pc (pc := 2) X hC d_R_nextPc_2 ?_
  refine lv_iconst (pc := 5) (v := 1) hx hb d_R_nextPc_5 (by decide) ?_
  refine lv_iadd (pc := 6) hx hb d_R_nextPc_6 ?_
  refine LR_18 (pc := 7) X d_R_nextPc_7 ?_
  refine lv_iand (pc := 9) hx hb d_R_nextPc_9 ?_
  refine PR_pc (pc := 10) X hC d_R_nextPc_10 (fun st1 H locs est1 hC => ?_)
  replace he := bS_go he est1
  exact RET (pc := 13) d_R_nextPc_13 hC he
def f_R_loadA (st : CS) (v1 : Int32) : CS := bS (sV st 0 (v1 &&& 255)) (fun st1 => bS (f_R_putNz st1 (st1.1 0)) (fun st2 => st2))
abbrev rm_R_loadA : Room := { frames := 1, cells := 0, slots := 0, locals := 22 }
set_option maxHeartbeats 4000000 in
set_option maxRecDepth 100000 in
theorem k_R_loadA (l : Launch) (g : CG) (rt : MS) (o : Nat → Int64) (st : CS) (v1 : Int32) : KV l g y_R_loadA (Cond.code y_R_loadA c_R_loadA 2 none :: ALL) rm_R_loadA [.ref (g.regs), .int v1] (wC g rt o) st (f_R_loadA st v1) := by
  refine KV.ofW (by decide) (Nat.le_of_ble_eq_true rfl) ?_
  intro p e s m args below meth c A Q ls Rv X he RET hC hl
  obtain ⟨hx, hb⟩ := FX_xb X
  have hl : lv_has ls 2 [(0, .ref (g.regs)), (1, .int v1)] := hl
  unfold f_R_loadA at he
  refine lv_aload_n (pc := 0) hx hb d_R_loadA_0 rfl (lv_at hl 0 rfl) ?_
  refine lv_iload_n (pc := 1) hx hb d_R_loadA_1 rfl (lv_at hl 1 rfl) ?_
  refine lv_sipush (pc := 2) (v := 255) hx hb d_R_loadA_2 (by decide) ?_
  refine lv_iand (pc := 5) hx hb d_R_loadA_5 ?_
  refine PR_a (pc := 6) X hC d_R_loadA_6 (fun st1 H locs est1 hC => ?_)
  replace he := bS_go he est1
  refine lv_aload_n (pc := 9) hx hb d_R_loadA_9 rfl (lv_at hl 0 rfl) ?_
  refine lv_aload_n (pc := 10) hx hb d_R_loadA_10 rfl (lv_at hl 0 rfl) ?_
  refine GR_a (pc := 11) X hC d_R_loadA_11 ?_
  refine callVO (q0 := 3) (pc := 14) (As := [.int (st1.1 0)]) (rest := []) X (k_R_putNz l g rt o st1 (st1.1 0)) hC (NR_R_putNz_25 X rfl rfl ⟨by decide, by decide⟩) rfl rfl rfl hl.1 (Nat.le_of_ble_eq_true rfl) rfl d_R_loadA_14 ⟨Nat.zero_le _, Nat.zero_le _⟩ (fun st2 H locs est2 hC => ?_)
  replace he := bS_go he est2
  exact RET (pc := 17) d_R_loadA_17 hC he
def f_R_carry (st : CS)  : Int32 × CS := (((st.1 5) &&& 1), st)
abbrev rm_R_carry : Room := { frames := 0, cells := 0, slots := 0, locals := 0 }
set_option maxHeartbeats 4000000 in
set_option maxRecDepth 100000 in
theorem k_R_carry (l : Launch) (g : CG) (rt : MS) (o : Nat → Int64) (st : CS)  : KI l g y_R_carry (Cond.code y_R_carry c_R_carry 1 (some .int) :: ALL) rm_R_carry [.ref (g.regs)] (wC g rt o) st (f_R_carry st ) := by
  refine KI.ofW (by decide) (Nat.le_of_ble_eq_true rfl) ?_
  intro p e s m args below meth c A Q ls Rv X he RET hC hl
  obtain ⟨hx, hb⟩ := FX_xb X
  have hl : lv_has ls 1 [(0, .ref (g.regs))] := hl
  unfold f_R_carry at he
  refine lv_aload_n (pc := 0) hx hb d_R_carry_0 rfl (lv_at hl 0 rfl) ?_
  refine GR_flags (pc := 1) X hC d_R_carry_1 ?_
  refine lv_iconst (pc := 4) (v := 1) hx hb d_R_carry_4 (by decide) ?_
  refine lv_iand (pc := 5) hx hb d_R_carry_5 ?_
  exact RET (pc := 6) d_R_carry_6 hC he
def f_R_differsInSign_42 (st : CS) (s0 : Int32) : Int32 × CS := (s0, st)
def f_R_differsInSign_41 (st : CS)  : Int32 × CS := f_R_differsInSign_42 st 0
def f_R_differsInSign_29 (st : CS) (v2 : Int32) (v3 : Int32) (s0 : Int32) (s1 : Int32) : Int32 × CS := if s1 = s0 then (if v3 = v2 then (f_R_differsInSign_41 st ) else (f_R_differsInSign_42 st 1)) else (f_R_differsInSign_41 st )
def f_R_differsInSign_15 (st : CS) (v1 : Int32) (v2 : Int32) (s0 : Int32) : Int32 × CS := if v1 < 128 then (f_R_differsInSign_29 st v2 s0 0 s0) else (f_R_differsInSign_29 st v2 s0 1 s0)
def f_R_differsInSign (st : CS) (v1 : Int32) (v2 : Int32) : Int32 × CS := if (st.1 0) < 128 then (f_R_differsInSign_15 st v1 v2 0) else (f_R_differsInSign_15 st v1 v2 1)
abbrev rm_R_differsInSign : Room := { frames := 0, cells := 0, slots := 0, locals := 0 }
set_option maxHeartbeats 4000000 in
set_option maxRecDepth 100000 in
theorem k_R_differsInSign (l : Launch) (g : CG) (rt : MS) (o : Nat → Int64) (st : CS) (v1 : Int32) (v2 : Int32) : KZ l g y_R_differsInSign (Cond.code y_R_differsInSign c_R_differsInSign 4 (some .boolean) :: ALL) rm_R_differsInSign [.ref (g.regs), .int v1, .int v2] (wC g rt o) st (f_R_differsInSign st v1 v2) := by
  refine KZ.ofW (by decide) (Nat.le_of_ble_eq_true rfl) ?_
  intro p e s m args below meth c A Q ls Rv X he RET hC hl
  obtain ⟨hx, hb⟩ := FX_xb X
  have hl : lv_has ls 4 [(0, .ref (g.regs)), (1, .int v1), (2, .int v2)] := hl
  have B42 : ∀ (H : Heap) (locs : List Loc) (ls : Array Slot) (st : CS) (s0 : Int32) (hs0 : s0 = 0 ∨ s0 = 1), HC g A s (wC g rt o st) H locs → lv_has ls 4 [] → f_R_differsInSign_42 st s0 = Rv → W p l e rm_R_differsInSign s m args below meth c H locs 0 0 Q (F0 m 42 ls [.int s0]) := by
    intro H locs ls st s0 hs0 hC hl he
    unfold f_R_differsInSign_42 at he
    exact RET (pc := 42) d_R_differsInSign_42 hs0 hC he
  have B41 : ∀ (H : Heap) (locs : List Loc) (ls : Array Slot) (st : CS) , HC g A s (wC g rt o st) H locs → lv_has ls 4 [] → f_R_differsInSign_41 st  = Rv → W p l e rm_R_differsInSign s m args below meth c H locs 0 0 Q (F0 m 41 ls []) := by
    intro H locs ls st   hC hl he
    unfold f_R_differsInSign_41 at he
    refine lv_iconst (pc := 41) (v := 0) hx hb d_R_differsInSign_41 (by decide) ?_
    exact B42 _ _ _ st 0 b0 hC (lv_sub hl [] rfl) he
  have B29 : ∀ (H : Heap) (locs : List Loc) (ls : Array Slot) (st : CS) (v2 : Int32) (v3 : Int32) (s0 : Int32) (s1 : Int32) (hv3 : v3 = 0 ∨ v3 = 1) (hs0 : s0 = 0 ∨ s0 = 1) (hs1 : s1 = 0 ∨ s1 = 1), HC g A s (wC g rt o st) H locs → lv_has ls 4 [(2, .int v2), (3, .int v3)] → f_R_differsInSign_29 st v2 v3 s0 s1 = Rv → W p l e rm_R_differsInSign s m args below meth c H locs 0 0 Q (F0 m 29 ls [.int s0, .int s1]) := by
    intro H locs ls st v2 v3 s0 s1 hv3 hs0 hs1 hC hl he
    unfold f_R_differsInSign_29 at he
    refine lv_icmp_ne (pc := 29) (tgt := 41) hx hb d_R_differsInSign_29 (by decide) (fun h3 => ?_) (fun h3 => ?_)
    · replace he := if_no he h3
      exact B41 _ _ _ st   hC (lv_sub hl [] rfl) he
    replace he := if_go he h3
    refine lv_iload_n (pc := 32) hx hb d_R_differsInSign_32 rfl (lv_at hl 1 rfl) ?_
    refine lv_iload_n (pc := 33) hx hb d_R_differsInSign_33 rfl (lv_at hl 0 rfl) ?_
    refine lv_icmp_eq (pc := 34) (tgt := 41) hx hb d_R_differsInSign_34 (by decide) (fun h4 => ?_) (fun h4 => ?_)
    · replace he := if_go he h4
      exact B41 _ _ _ st   hC (lv_sub hl [] rfl) he
    replace he := if_no he h4
    refine lv_iconst (pc := 37) (v := 1) hx hb d_R_differsInSign_37 (by decide) ?_
    refine lv_goto (pc := 38) (tgt := 42) hx hb d_R_differsInSign_38 (by decide) ?_
    exact B42 _ _ _ st 1 b1 hC (lv_sub hl [] rfl) he
  have B15 : ∀ (H : Heap) (locs : List Loc) (ls : Array Slot) (st : CS) (v1 : Int32) (v2 : Int32) (s0 : Int32) (hs0 : s0 = 0 ∨ s0 = 1), HC g A s (wC g rt o st) H locs → lv_has ls 4 [(1, .int v1), (2, .int v2)] → f_R_differsInSign_15 st v1 v2 s0 = Rv → W p l e rm_R_differsInSign s m args below meth c H locs 0 0 Q (F0 m 15 ls [.int s0]) := by
    intro H locs ls st v1 v2 s0 hs0 hC hl he
    unfold f_R_differsInSign_15 at he
    refine lv_istore_n (pc := 15) (nL := 4) (lv' := [(3, .int s0), (1, .int v1), (2, .int v2)]) hx hb d_R_differsInSign_15 rfl hl (by decide) rfl (fun ls hl => ?_)
    refine lv_iload_n (pc := 16) hx hb d_R_differsInSign_16 rfl (lv_at hl 0 rfl) ?_
    refine lv_iload_n (pc := 17) hx hb d_R_differsInSign_17 rfl (lv_at hl 1 rfl) ?_
    refine lv_sipush (pc := 18) (v := 128) hx hb d_R_differsInSign_18 (by decide) ?_
    refine lv_icmp_lt (pc := 21) (tgt := 28) hx hb d_R_differsInSign_21 (by decide) (fun h2 => ?_) (fun h2 => ?_)
    · replace he := if_go he h2
      refine lv_iconst (pc := 28) (v := 0) hx hb d_R_differsInSign_28 (by decide) ?_
      exact B29 _ _ _ st v2 s0 0 s0 hs0 b0 hs0 hC (lv_sub hl [2, 0] rfl) he
    replace he := if_no he h2
    refine lv_iconst (pc := 24) (v := 1) hx hb d_R_differsInSign_24 (by decide) ?_
    refine lv_goto (pc := 25) (tgt := 29) hx hb d_R_differsInSign_25 (by decide) ?_
    exact B29 _ _ _ st v2 s0 1 s0 hs0 b1 hs0 hC (lv_sub hl [2, 0] rfl) he
  unfold f_R_differsInSign at he
  refine lv_aload_n (pc := 0) hx hb d_R_differsInSign_0 rfl (lv_at hl 0 rfl) ?_
  refine GR_a (pc := 1) X hC d_R_differsInSign_1 ?_
  refine lv_sipush (pc := 4) (v := 128) hx hb d_R_differsInSign_4 (by decide) ?_
  refine lv_icmp_lt (pc := 7) (tgt := 14) hx hb d_R_differsInSign_7 (by decide) (fun h1 => ?_) (fun h1 => ?_)
  · replace he := if_go he h1
    refine lv_iconst (pc := 14) (v := 0) hx hb d_R_differsInSign_14 (by decide) ?_
    exact B15 _ _ _ st v1 v2 0 b0 hC (lv_sub hl [1, 2] rfl) he
  replace he := if_no he h1
  refine lv_iconst (pc := 10) (v := 1) hx hb d_R_differsInSign_10 (by decide) ?_
  refine lv_goto (pc := 11) (tgt := 15) hx hb d_R_differsInSign_11 (by decide) ?_
  exact B15 _ _ _ st v1 v2 1 b1 hC (lv_sub hl [1, 2] rfl) he
def f_R_addDecimal_136 (st : CS) (v2 : Int32) (v3 : Int32) (s0 : Int32) (s1 : Int32) : CS := bS (f_R_put st s1 s0) (fun st20 => bS (sV st20 0 ((16 * (v3 &&& 15)) + (v2 &&& 15))) (fun st21 => st21))
def f_R_addDecimal_123 (st : CS) (v2 : Int32) (v3 : Int32) : CS := if v3 ≤ 15 then (f_R_addDecimal_136 st v2 v3 0 1) else (f_R_addDecimal_136 st v2 v3 1 1)
def f_R_addDecimal_89 (st : CS) (v1 : Int32) (v2 : Int32) (v3 : Int32) (v4 : Int32) (s0 : Int32) (s1 : Int32) : CS := bS (f_R_put st s1 s0) (fun st12 => bS (f_R_put st12 128 v4) (fun st13 => bP (f_R_differsInSign st13 v1 v4) (fun r15 st14 => bS (f_R_put st14 64 r15) (fun st16 => if v3 ≤ 9 then (f_R_addDecimal_123 st16 v2 v3) else (f_R_addDecimal_123 st16 v2 (v3 + 6))))))
def f_R_addDecimal_62 (st : CS) (v1 : Int32) (v2 : Int32) (v3 : Int32) (s0 : Int32) : CS := bP (f_R_carry st ) (fun r10 st9 => if ((((st.1 0) + v1) + r10) &&& 255) = 0 then (f_R_addDecimal_89 st9 v1 v2 v3 s0 1 2) else (f_R_addDecimal_89 st9 v1 v2 v3 s0 0 2))
def f_R_addDecimal_48 (st : CS) (v1 : Int32) (v2 : Int32) (s0 : Int32) (s1 : Int32) : CS := bS ((s1 + s0) : Int32) (fun y7 => if (y7 &&& 8) = 0 then (f_R_addDecimal_62 st v1 v2 y7 0) else (f_R_addDecimal_62 st v1 v2 y7 1))
def f_R_addDecimal_27 (st : CS) (v1 : Int32) (v2 : Int32) : CS := if v2 ≤ 15 then (f_R_addDecimal_48 st v1 v2 0 (((st.1 0) >>> (4 &&& 31)) + (v1 >>> (4 &&& 31)))) else (f_R_addDecimal_48 st v1 v2 1 (((st.1 0) >>> (4 &&& 31)) + (v1 >>> (4 &&& 31))))
def f_R_addDecimal (st : CS) (v1 : Int32) : CS := bP (f_R_carry st ) (fun r2 st1 => bS (((((st.1 0) &&& 15) + (v1 &&& 15)) + r2) : Int32) (fun y3 => if y3 ≤ 9 then (f_R_addDecimal_27 st1 v1 y3) else (f_R_addDecimal_27 st1 v1 (y3 + 6))))
abbrev rm_R_addDecimal : Room := { frames := 1, cells := 0, slots := 0, locals := 23 }
set_option maxHeartbeats 4000000 in
set_option maxRecDepth 100000 in
theorem k_R_addDecimal (l : Launch) (g : CG) (rt : MS) (o : Nat → Int64) (st : CS) (v1 : Int32) : KV l g y_R_addDecimal (Cond.code y_R_addDecimal c_R_addDecimal 5 none :: ALL) rm_R_addDecimal [.ref (g.regs), .int v1] (wC g rt o) st (f_R_addDecimal st v1) := by
  refine KV.ofW (by decide) (Nat.le_of_ble_eq_true rfl) ?_
  intro p e s m args below meth c A Q ls Rv X he RET hC hl
  obtain ⟨hx, hb⟩ := FX_xb X
  have hl : lv_has ls 5 [(0, .ref (g.regs)), (1, .int v1)] := hl
  have B136 : ∀ (H : Heap) (locs : List Loc) (ls : Array Slot) (st : CS) (v2 : Int32) (v3 : Int32) (s0 : Int32) (s1 : Int32) (hs0 : s0 = 0 ∨ s0 = 1) (hs1 : s1 = 0 ∨ s1 = 1), HC g A s (wC g rt o st) H locs → lv_has ls 5 [(0, .ref (g.regs)), (2, .int v2), (3, .int v3)] → f_R_addDecimal_136 st v2 v3 s0 s1 = Rv → W p l e rm_R_addDecimal s m args below meth c H locs 0 0 Q (F0 m 136 ls [.int s0, .int s1, .ref (g.regs)]) := by
    intro H locs ls st v2 v3 s0 s1 hs0 hs1 hC hl he
    unfold f_R_addDecimal_136 at he
    refine callVO (q0 := 3) (pc := 136) (As := [.int s1, .int s0]) (rest := []) X (k_R_put l g rt o st s1 s0) hC (NR_R_put_57 X rfl rfl ⟨by decide, by decide⟩) rfl rfl rfl hl.1 (Nat.le_of_ble_eq_true rfl) rfl d_R_addDecimal_136 ⟨Nat.zero_le _, Nat.zero_le _⟩ (fun st20 H locs est20 hC => ?_)
    replace he := bS_go he est20
    refine lv_aload_n (pc := 139) hx hb d_R_addDecimal_139 rfl (lv_at hl 0 rfl) ?_
    refine lv_bipush (pc := 140) (v := 16) hx hb d_R_addDecimal_140 (by decide) ?_
    refine lv_iload_n (pc := 142) hx hb d_R_addDecimal_142 rfl (lv_at hl 2 rfl) ?_
    refine lv_bipush (pc := 143) (v := 15) hx hb d_R_addDecimal_143 (by decide) ?_
    refine lv_iand (pc := 145) hx hb d_R_addDecimal_145 ?_
    refine lv_imul (pc := 146) hx hb d_R_addDecimal_146 ?_
    refine lv_iload_n (pc := 147) hx hb d_R_addDecimal_147 rfl (lv_at hl 1 rfl) ?_
    refine lv_bipush (pc := 148) (v := 15) hx hb d_R_addDecimal_148 (by decide) ?_
    refine lv_iand (pc := 150) hx hb d_R_addDecimal_150 ?_
    refine lv_iadd (pc := 151) hx hb d_R_addDecimal_151 ?_
    refine PR_a (pc := 152) X hC d_R_addDecimal_152 (fun st21 H locs est21 hC => ?_)
    replace he := bS_go he est21
    exact RET (pc := 155) d_R_addDecimal_155 hC he
  have B123 : ∀ (H : Heap) (locs : List Loc) (ls : Array Slot) (st : CS) (v2 : Int32) (v3 : Int32), HC g A s (wC g rt o st) H locs → lv_has ls 5 [(0, .ref (g.regs)), (2, .int v2), (3, .int v3)] → f_R_addDecimal_123 st v2 v3 = Rv → W p l e rm_R_addDecimal s m args below meth c H locs 0 0 Q (F0 m 123 ls []) := by
    intro H locs ls st v2 v3  hC hl he
    unfold f_R_addDecimal_123 at he
    refine lv_aload_n (pc := 123) hx hb d_R_addDecimal_123 rfl (lv_at hl 0 rfl) ?_
    refine lv_iconst (pc := 124) (v := 1) hx hb d_R_addDecimal_124 (by decide) ?_
    refine lv_iload_n (pc := 125) hx hb d_R_addDecimal_125 rfl (lv_at hl 2 rfl) ?_
    refine lv_bipush (pc := 126) (v := 15) hx hb d_R_addDecimal_126 (by decide) ?_
    refine lv_icmp_le (pc := 128) (tgt := 135) hx hb d_R_addDecimal_128 (by decide) (fun h19 => ?_) (fun h19 => ?_)
    · replace he := if_go he h19
      refine lv_iconst (pc := 135) (v := 0) hx hb d_R_addDecimal_135 (by decide) ?_
      exact B136 _ _ _ st v2 v3 0 1 b0 b1 hC (lv_sub hl [0, 1, 2] rfl) he
    replace he := if_no he h19
    refine lv_iconst (pc := 131) (v := 1) hx hb d_R_addDecimal_131 (by decide) ?_
    refine lv_goto (pc := 132) (tgt := 136) hx hb d_R_addDecimal_132 (by decide) ?_
    exact B136 _ _ _ st v2 v3 1 1 b1 b1 hC (lv_sub hl [0, 1, 2] rfl) he
  have B89 : ∀ (H : Heap) (locs : List Loc) (ls : Array Slot) (st : CS) (v1 : Int32) (v2 : Int32) (v3 : Int32) (v4 : Int32) (s0 : Int32) (s1 : Int32) (hv4 : v4 = 0 ∨ v4 = 1) (hs0 : s0 = 0 ∨ s0 = 1), HC g A s (wC g rt o st) H locs → lv_has ls 5 [(0, .ref (g.regs)), (1, .int v1), (2, .int v2), (3, .int v3), (4, .int v4)] → f_R_addDecimal_89 st v1 v2 v3 v4 s0 s1 = Rv → W p l e rm_R_addDecimal s m args below meth c H locs 0 0 Q (F0 m 89 ls [.int s0, .int s1, .ref (g.regs)]) := by
    intro H locs ls st v1 v2 v3 v4 s0 s1 hv4 hs0 hC hl he
    unfold f_R_addDecimal_89 at he
    refine callVO (q0 := 3) (pc := 89) (As := [.int s1, .int s0]) (rest := []) X (k_R_put l g rt o st s1 s0) hC (NR_R_put_57 X rfl rfl ⟨by decide, by decide⟩) rfl rfl rfl hl.1 (Nat.le_of_ble_eq_true rfl) rfl d_R_addDecimal_89 ⟨Nat.zero_le _, Nat.zero_le _⟩ (fun st12 H locs est12 hC => ?_)
    replace he := bS_go he est12
    refine lv_aload_n (pc := 92) hx hb d_R_addDecimal_92 rfl (lv_at hl 0 rfl) ?_
    refine lv_sipush (pc := 93) (v := 128) hx hb d_R_addDecimal_93 (by decide) ?_
    refine lv_iload (pc := 96) hx hb d_R_addDecimal_96 (lv_at hl 4 rfl) ?_
    refine callVO (q0 := 3) (pc := 98) (As := [.int 128, .int v4]) (rest := []) X (k_R_put l g rt o st12 128 v4) hC (NR_R_put_57 X rfl rfl ⟨by decide, by decide⟩) rfl rfl rfl hl.1 (Nat.le_of_ble_eq_true rfl) rfl d_R_addDecimal_98 ⟨Nat.zero_le _, Nat.zero_le _⟩ (fun st13 H locs est13 hC => ?_)
    replace he := bS_go he est13
    refine lv_aload_n (pc := 101) hx hb d_R_addDecimal_101 rfl (lv_at hl 0 rfl) ?_
    refine lv_bipush (pc := 102) (v := 64) hx hb d_R_addDecimal_102 (by decide) ?_
    refine lv_aload_n (pc := 104) hx hb d_R_addDecimal_104 rfl (lv_at hl 0 rfl) ?_
    refine lv_iload_n (pc := 105) hx hb d_R_addDecimal_105 rfl (lv_at hl 1 rfl) ?_
    refine lv_iload (pc := 106) hx hb d_R_addDecimal_106 (lv_at hl 4 rfl) ?_
    refine callZO (q0 := 3) (pc := 108) (As := [.int v1, .int v4]) (rest := [.int 64, .ref (g.regs)]) X (k_R_differsInSign l g rt o st13 v1 v4) hC (NR_R_differsInSign_76 X rfl rfl ⟨by decide, by decide⟩) rfl rfl rfl hl.1 (Nat.le_of_ble_eq_true rfl) rfl d_R_addDecimal_108 ⟨Nat.zero_le _, Nat.zero_le _⟩ (fun r15 st14 H locs est14 br15 hC => ?_)
    replace he := bP_go he est14
    refine callVO (q0 := 3) (pc := 111) (As := [.int 64, .int r15]) (rest := []) X (k_R_put l g rt o st14 64 r15) hC (NR_R_put_57 X rfl rfl ⟨by decide, by decide⟩) rfl rfl rfl hl.1 (Nat.le_of_ble_eq_true rfl) rfl d_R_addDecimal_111 ⟨Nat.zero_le _, Nat.zero_le _⟩ (fun st16 H locs est16 hC => ?_)
    replace he := bS_go he est16
    refine lv_iload_n (pc := 114) hx hb d_R_addDecimal_114 rfl (lv_at hl 3 rfl) ?_
    refine lv_bipush (pc := 115) (v := 9) hx hb d_R_addDecimal_115 (by decide) ?_
    refine lv_icmp_le (pc := 117) (tgt := 123) hx hb d_R_addDecimal_117 (by decide) (fun h17 => ?_) (fun h17 => ?_)
    · replace he := if_go he h17
      exact B123 _ _ _ st16 v2 v3  hC (lv_sub hl [0, 2, 3] rfl) he
    replace he := if_no he h17
    refine lv_iinc (pc := 120) (k := 3) (nL := 5) (v := (v3 + 6)) (lv' := [(3, .int (v3 + 6)), (0, .ref (g.regs)), (1, .int v1), (2, .int v2), (4, .int v4)]) hx hb d_R_addDecimal_120 hl rfl rfl (by decide) rfl (fun ls hl => ?_)
    exact B123 _ _ _ st16 v2 (v3 + 6)  hC (lv_sub hl [1, 3, 0] rfl) he
  have B62 : ∀ (H : Heap) (locs : List Loc) (ls : Array Slot) (st : CS) (v1 : Int32) (v2 : Int32) (v3 : Int32) (s0 : Int32) (hs0 : s0 = 0 ∨ s0 = 1), HC g A s (wC g rt o st) H locs → lv_has ls 5 [(0, .ref (g.regs)), (1, .int v1), (2, .int v2), (3, .int v3)] → f_R_addDecimal_62 st v1 v2 v3 s0 = Rv → W p l e rm_R_addDecimal s m args below meth c H locs 0 0 Q (F0 m 62 ls [.int s0]) := by
    intro H locs ls st v1 v2 v3 s0 hs0 hC hl he
    unfold f_R_addDecimal_62 at he
    refine lv_istore (pc := 62) (nL := 5) (lv' := [(4, .int s0), (0, .ref (g.regs)), (1, .int v1), (2, .int v2), (3, .int v3)]) hx hb d_R_addDecimal_62 hl (by decide) rfl (fun ls hl => ?_)
    refine lv_aload_n (pc := 64) hx hb d_R_addDecimal_64 rfl (lv_at hl 1 rfl) ?_
    refine lv_iconst (pc := 65) (v := 2) hx hb d_R_addDecimal_65 (by decide) ?_
    refine lv_aload_n (pc := 66) hx hb d_R_addDecimal_66 rfl (lv_at hl 1 rfl) ?_
    refine GR_a (pc := 67) X hC d_R_addDecimal_67 ?_
    refine lv_iload_n (pc := 70) hx hb d_R_addDecimal_70 rfl (lv_at hl 2 rfl) ?_
    refine lv_iadd (pc := 71) hx hb d_R_addDecimal_71 ?_
    refine lv_aload_n (pc := 72) hx hb d_R_addDecimal_72 rfl (lv_at hl 1 rfl) ?_
    refine callIO (q0 := 3) (pc := 73) (As := []) (rest := [.int ((st.1 0) + v1), .int 2, .ref (g.regs)]) X (k_R_carry l g rt o st ) hC (NR_R_carry_68 X rfl rfl ⟨by decide, by decide⟩) rfl rfl rfl hl.1 (Nat.le_of_ble_eq_true rfl) rfl d_R_addDecimal_73 ⟨Nat.zero_le _, Nat.zero_le _⟩ (fun r10 st9 H locs est9 hC => ?_)
    replace he := bP_go he est9
    refine lv_iadd (pc := 76) hx hb d_R_addDecimal_76 ?_
    refine lv_sipush (pc := 77) (v := 255) hx hb d_R_addDecimal_77 (by decide) ?_
    refine lv_iand (pc := 80) hx hb d_R_addDecimal_80 ?_
    refine lv_if_ne (pc := 81) (tgt := 88) hx hb d_R_addDecimal_81 (by decide) (fun h11 => ?_) (fun h11 => ?_)
    · replace he := if_no he h11
      refine lv_iconst (pc := 88) (v := 0) hx hb d_R_addDecimal_88 (by decide) ?_
      exact B89 _ _ _ st9 v1 v2 v3 s0 0 2 hs0 b0 hC (lv_sub hl [1, 2, 3, 4, 0] rfl) he
    replace he := if_go he h11
    refine lv_iconst (pc := 84) (v := 1) hx hb d_R_addDecimal_84 (by decide) ?_
    refine lv_goto (pc := 85) (tgt := 89) hx hb d_R_addDecimal_85 (by decide) ?_
    exact B89 _ _ _ st9 v1 v2 v3 s0 1 2 hs0 b1 hC (lv_sub hl [1, 2, 3, 4, 0] rfl) he
  have B48 : ∀ (H : Heap) (locs : List Loc) (ls : Array Slot) (st : CS) (v1 : Int32) (v2 : Int32) (s0 : Int32) (s1 : Int32) (hs0 : s0 = 0 ∨ s0 = 1), HC g A s (wC g rt o st) H locs → lv_has ls 5 [(0, .ref (g.regs)), (1, .int v1), (2, .int v2)] → f_R_addDecimal_48 st v1 v2 s0 s1 = Rv → W p l e rm_R_addDecimal s m args below meth c H locs 0 0 Q (F0 m 48 ls [.int s0, .int s1]) := by
    intro H locs ls st v1 v2 s0 s1 hs0 hC hl he
    unfold f_R_addDecimal_48 at he
    refine lv_iadd (pc := 48) hx hb d_R_addDecimal_48 ?_
    refine lv_topi (fun y7 ey7 => ?_)
    replace he := bS_go he ey7.symm
    refine lv_istore_n (pc := 49) (nL := 5) (lv' := [(3, .int y7), (0, .ref (g.regs)), (1, .int v1), (2, .int v2)]) hx hb d_R_addDecimal_49 rfl hl (by decide) rfl (fun ls hl => ?_)
    refine lv_iload_n (pc := 50) hx hb d_R_addDecimal_50 rfl (lv_at hl 0 rfl) ?_
    refine lv_bipush (pc := 51) (v := 8) hx hb d_R_addDecimal_51 (by decide) ?_
    refine lv_iand (pc := 53) hx hb d_R_addDecimal_53 ?_
    refine lv_if_eq (pc := 54) (tgt := 61) hx hb d_R_addDecimal_54 (by decide) (fun h8 => ?_) (fun h8 => ?_)
    · replace he := if_go he h8
      refine lv_iconst (pc := 61) (v := 0) hx hb d_R_addDecimal_61 (by decide) ?_
      exact B62 _ _ _ st v1 v2 y7 0 b0 hC (lv_sub hl [1, 2, 3, 0] rfl) he
    replace he := if_no he h8
    refine lv_iconst (pc := 57) (v := 1) hx hb d_R_addDecimal_57 (by decide) ?_
    refine lv_goto (pc := 58) (tgt := 62) hx hb d_R_addDecimal_58 (by decide) ?_
    exact B62 _ _ _ st v1 v2 y7 1 b1 hC (lv_sub hl [1, 2, 3, 0] rfl) he
  have B27 : ∀ (H : Heap) (locs : List Loc) (ls : Array Slot) (st : CS) (v1 : Int32) (v2 : Int32), HC g A s (wC g rt o st) H locs → lv_has ls 5 [(0, .ref (g.regs)), (1, .int v1), (2, .int v2)] → f_R_addDecimal_27 st v1 v2 = Rv → W p l e rm_R_addDecimal s m args below meth c H locs 0 0 Q (F0 m 27 ls []) := by
    intro H locs ls st v1 v2  hC hl he
    unfold f_R_addDecimal_27 at he
    refine lv_aload_n (pc := 27) hx hb d_R_addDecimal_27 rfl (lv_at hl 0 rfl) ?_
    refine GR_a (pc := 28) X hC d_R_addDecimal_28 ?_
    refine lv_iconst (pc := 31) (v := 4) hx hb d_R_addDecimal_31 (by decide) ?_
    refine lv_ishr (pc := 32) hx hb d_R_addDecimal_32 ?_
    refine lv_iload_n (pc := 33) hx hb d_R_addDecimal_33 rfl (lv_at hl 1 rfl) ?_
    refine lv_iconst (pc := 34) (v := 4) hx hb d_R_addDecimal_34 (by decide) ?_
    refine lv_ishr (pc := 35) hx hb d_R_addDecimal_35 ?_
    refine lv_iadd (pc := 36) hx hb d_R_addDecimal_36 ?_
    refine lv_iload_n (pc := 37) hx hb d_R_addDecimal_37 rfl (lv_at hl 2 rfl) ?_
    refine lv_bipush (pc := 38) (v := 15) hx hb d_R_addDecimal_38 (by decide) ?_
    refine lv_icmp_le (pc := 40) (tgt := 47) hx hb d_R_addDecimal_40 (by decide) (fun h6 => ?_) (fun h6 => ?_)
    · replace he := if_go he h6
      refine lv_iconst (pc := 47) (v := 0) hx hb d_R_addDecimal_47 (by decide) ?_
      exact B48 _ _ _ st v1 v2 0 (((st.1 0) >>> (4 &&& 31)) + (v1 >>> (4 &&& 31))) b0 hC (lv_sub hl [0, 1, 2] rfl) he
    replace he := if_no he h6
    refine lv_iconst (pc := 43) (v := 1) hx hb d_R_addDecimal_43 (by decide) ?_
    refine lv_goto (pc := 44) (tgt := 48) hx hb d_R_addDecimal_44 (by decide) ?_
    exact B48 _ _ _ st v1 v2 1 (((st.1 0) >>> (4 &&& 31)) + (v1 >>> (4 &&& 31))) b1 hC (lv_sub hl [0, 1, 2] rfl) he
  unfold f_R_addDecimal at he
  refine lv_aload_n (pc := 0) hx hb d_R_addDecimal_0 rfl (lv_at hl 0 rfl) ?_
  refine GR_a (pc := 1) X hC d_R_addDecimal_1 ?_
  refine lv_bipush (pc := 4) (v := 15) hx hb d_R_addDecimal_4 (by decide) ?_
  refine lv_iand (pc := 6) hx hb d_R_addDecimal_6 ?_
  refine lv_iload_n (pc := 7) hx hb d_R_addDecimal_7 rfl (lv_at hl 1 rfl) ?_
  refine lv_bipush (pc := 8) (v := 15) hx hb d_R_addDecimal_8 (by decide) ?_
  refine lv_iand (pc := 10) hx hb d_R_addDecimal_10 ?_
  refine lv_iadd (pc := 11) hx hb d_R_addDecimal_11 ?_
  refine lv_aload_n (pc := 12) hx hb d_R_addDecimal_12 rfl (lv_at hl 0 rfl) ?_
  refine callIO (q0 := 3) (pc := 13) (As := []) (rest := [.int (((st.1 0) &&& 15) + (v1 &&& 15))]) X (k_R_carry l g rt o st ) hC (NR_R_carry_68 X rfl rfl ⟨by decide, by decide⟩) rfl rfl rfl hl.1 (Nat.le_of_ble_eq_true rfl) rfl d_R_addDecimal_13 ⟨Nat.zero_le _, Nat.zero_le _⟩ (fun r2 st1 H locs est1 hC => ?_)
  replace he := bP_go he est1
  refine lv_iadd (pc := 16) hx hb d_R_addDecimal_16 ?_
  refine lv_topi (fun y3 ey3 => ?_)
  replace he := bS_go he ey3.symm
  refine lv_istore_n (pc := 17) (nL := 5) (lv' := [(2, .int y3), (0, .ref (g.regs)), (1, .int v1)]) hx hb d_R_addDecimal_17 rfl hl (by decide) rfl (fun ls hl => ?_)
  refine lv_iload_n (pc := 18) hx hb d_R_addDecimal_18 rfl (lv_at hl 0 rfl) ?_
  refine lv_bipush (pc := 19) (v := 9) hx hb d_R_addDecimal_19 (by decide) ?_
  refine lv_icmp_le (pc := 21) (tgt := 27) hx hb d_R_addDecimal_21 (by decide) (fun h4 => ?_) (fun h4 => ?_)
  · replace he := if_go he h4
    exact B27 _ _ _ st1 v1 y3  hC (lv_sub hl [1, 2, 0] rfl) he
  replace he := if_no he h4
  refine lv_iinc (pc := 24) (k := 0) (nL := 5) (v := (y3 + 6)) (lv' := [(2, .int (y3 + 6)), (0, .ref (g.regs)), (1, .int v1)]) hx hb d_R_addDecimal_24 hl rfl rfl (by decide) rfl (fun ls hl => ?_)
  exact B27 _ _ _ st1 v1 (y3 + 6)  hC (lv_sub hl [1, 2, 0] rfl) he
def f_R_flagsOfSum_35 (st : CS) (v2 : Int32) (s0 : Int32) (s1 : Int32) (s3 : Int32) : CS := bP (f_R_differsInSign st s1 s0) (fun r5 st4 => bS (f_R_put st4 s3 r5) (fun st6 => bS (f_R_putNz st6 (v2 &&& 255)) (fun st7 => st7)))
def f_R_flagsOfSum_14 (st : CS) (v1 : Int32) (v2 : Int32) (s0 : Int32) (s1 : Int32) : CS := bS (f_R_put st s1 s0) (fun st2 => if (v2 &&& 128) = 0 then (f_R_flagsOfSum_35 st2 v2 0 v1 64) else (f_R_flagsOfSum_35 st2 v2 1 v1 64))
def f_R_flagsOfSum (st : CS) (v1 : Int32) (v2 : Int32) : CS := if v2 ≤ 255 then (f_R_flagsOfSum_14 st v1 v2 0 1) else (f_R_flagsOfSum_14 st v1 v2 1 1)
abbrev rm_R_flagsOfSum : Room := { frames := 1, cells := 0, slots := 0, locals := 23 }
set_option maxHeartbeats 4000000 in
set_option maxRecDepth 100000 in
theorem k_R_flagsOfSum (l : Launch) (g : CG) (rt : MS) (o : Nat → Int64) (st : CS) (v1 : Int32) (v2 : Int32) : KV l g y_R_flagsOfSum (Cond.code y_R_flagsOfSum c_R_flagsOfSum 3 none :: ALL) rm_R_flagsOfSum [.ref (g.regs), .int v1, .int v2] (wC g rt o) st (f_R_flagsOfSum st v1 v2) := by
  refine KV.ofW (by decide) (Nat.le_of_ble_eq_true rfl) ?_
  intro p e s m args below meth c A Q ls Rv X he RET hC hl
  obtain ⟨hx, hb⟩ := FX_xb X
  have hl : lv_has ls 3 [(0, .ref (g.regs)), (1, .int v1), (2, .int v2)] := hl
  have B35 : ∀ (H : Heap) (locs : List Loc) (ls : Array Slot) (st : CS) (v2 : Int32) (s0 : Int32) (s1 : Int32) (s3 : Int32) (hs0 : s0 = 0 ∨ s0 = 1), HC g A s (wC g rt o st) H locs → lv_has ls 3 [(0, .ref (g.regs)), (2, .int v2)] → f_R_flagsOfSum_35 st v2 s0 s1 s3 = Rv → W p l e rm_R_flagsOfSum s m args below meth c H locs 0 0 Q (F0 m 35 ls [.int s0, .int s1, .ref (g.regs), .int s3, .ref (g.regs)]) := by
    intro H locs ls st v2 s0 s1 s3 hs0 hC hl he
    unfold f_R_flagsOfSum_35 at he
    refine callZO (q0 := 3) (pc := 35) (As := [.int s1, .int s0]) (rest := [.int s3, .ref (g.regs)]) X (k_R_differsInSign l g rt o st s1 s0) hC (NR_R_differsInSign_76 X rfl rfl ⟨by decide, by decide⟩) rfl rfl rfl hl.1 (Nat.le_of_ble_eq_true rfl) rfl d_R_flagsOfSum_35 ⟨Nat.zero_le _, Nat.zero_le _⟩ (fun r5 st4 H locs est4 br5 hC => ?_)
    replace he := bP_go he est4
    refine callVO (q0 := 3) (pc := 38) (As := [.int s3, .int r5]) (rest := []) X (k_R_put l g rt o st4 s3 r5) hC (NR_R_put_57 X rfl rfl ⟨by decide, by decide⟩) rfl rfl rfl hl.1 (Nat.le_of_ble_eq_true rfl) rfl d_R_flagsOfSum_38 ⟨Nat.zero_le _, Nat.zero_le _⟩ (fun st6 H locs est6 hC => ?_)
    replace he := bS_go he est6
    refine lv_aload_n (pc := 41) hx hb d_R_flagsOfSum_41 rfl (lv_at hl 0 rfl) ?_
    refine lv_iload_n (pc := 42) hx hb d_R_flagsOfSum_42 rfl (lv_at hl 1 rfl) ?_
    refine lv_sipush (pc := 43) (v := 255) hx hb d_R_flagsOfSum_43 (by decide) ?_
    refine lv_iand (pc := 46) hx hb d_R_flagsOfSum_46 ?_
    refine callVO (q0 := 3) (pc := 47) (As := [.int (v2 &&& 255)]) (rest := []) X (k_R_putNz l g rt o st6 (v2 &&& 255)) hC (NR_R_putNz_25 X rfl rfl ⟨by decide, by decide⟩) rfl rfl rfl hl.1 (Nat.le_of_ble_eq_true rfl) rfl d_R_flagsOfSum_47 ⟨Nat.zero_le _, Nat.zero_le _⟩ (fun st7 H locs est7 hC => ?_)
    replace he := bS_go he est7
    exact RET (pc := 50) d_R_flagsOfSum_50 hC he
  have B14 : ∀ (H : Heap) (locs : List Loc) (ls : Array Slot) (st : CS) (v1 : Int32) (v2 : Int32) (s0 : Int32) (s1 : Int32) (hs0 : s0 = 0 ∨ s0 = 1) (hs1 : s1 = 0 ∨ s1 = 1), HC g A s (wC g rt o st) H locs → lv_has ls 3 [(0, .ref (g.regs)), (1, .int v1), (2, .int v2)] → f_R_flagsOfSum_14 st v1 v2 s0 s1 = Rv → W p l e rm_R_flagsOfSum s m args below meth c H locs 0 0 Q (F0 m 14 ls [.int s0, .int s1, .ref (g.regs)]) := by
    intro H locs ls st v1 v2 s0 s1 hs0 hs1 hC hl he
    unfold f_R_flagsOfSum_14 at he
    refine callVO (q0 := 3) (pc := 14) (As := [.int s1, .int s0]) (rest := []) X (k_R_put l g rt o st s1 s0) hC (NR_R_put_57 X rfl rfl ⟨by decide, by decide⟩) rfl rfl rfl hl.1 (Nat.le_of_ble_eq_true rfl) rfl d_R_flagsOfSum_14 ⟨Nat.zero_le _, Nat.zero_le _⟩ (fun st2 H locs est2 hC => ?_)
    replace he := bS_go he est2
    refine lv_aload_n (pc := 17) hx hb d_R_flagsOfSum_17 rfl (lv_at hl 0 rfl) ?_
    refine lv_bipush (pc := 18) (v := 64) hx hb d_R_flagsOfSum_18 (by decide) ?_
    refine lv_aload_n (pc := 20) hx hb d_R_flagsOfSum_20 rfl (lv_at hl 0 rfl) ?_
    refine lv_iload_n (pc := 21) hx hb d_R_flagsOfSum_21 rfl (lv_at hl 1 rfl) ?_
    refine lv_iload_n (pc := 22) hx hb d_R_flagsOfSum_22 rfl (lv_at hl 2 rfl) ?_
    refine lv_sipush (pc := 23) (v := 128) hx hb d_R_flagsOfSum_23 (by decide) ?_
    refine lv_iand (pc := 26) hx hb d_R_flagsOfSum_26 ?_
    refine lv_if_eq (pc := 27) (tgt := 34) hx hb d_R_flagsOfSum_27 (by decide) (fun h3 => ?_) (fun h3 => ?_)
    · replace he := if_go he h3
      refine lv_iconst (pc := 34) (v := 0) hx hb d_R_flagsOfSum_34 (by decide) ?_
      exact B35 _ _ _ st2 v2 0 v1 64 b0 hC (lv_sub hl [0, 2] rfl) he
    replace he := if_no he h3
    refine lv_iconst (pc := 30) (v := 1) hx hb d_R_flagsOfSum_30 (by decide) ?_
    refine lv_goto (pc := 31) (tgt := 35) hx hb d_R_flagsOfSum_31 (by decide) ?_
    exact B35 _ _ _ st2 v2 1 v1 64 b1 hC (lv_sub hl [0, 2] rfl) he
  unfold f_R_flagsOfSum at he
  refine lv_aload_n (pc := 0) hx hb d_R_flagsOfSum_0 rfl (lv_at hl 0 rfl) ?_
  refine lv_iconst (pc := 1) (v := 1) hx hb d_R_flagsOfSum_1 (by decide) ?_
  refine lv_iload_n (pc := 2) hx hb d_R_flagsOfSum_2 rfl (lv_at hl 2 rfl) ?_
  refine lv_sipush (pc := 3) (v := 255) hx hb d_R_flagsOfSum_3 (by decide) ?_
  refine lv_icmp_le (pc := 6) (tgt := 13) hx hb d_R_flagsOfSum_6 (by decide) (fun h1 => ?_) (fun h1 => ?_)
  · replace he := if_go he h1
    refine lv_iconst (pc := 13) (v := 0) hx hb d_R_flagsOfSum_13 (by decide) ?_
    exact B14 _ _ _ st v1 v2 0 1 b0 b1 hC (lv_sub hl [0, 1, 2] rfl) he
  replace he := if_no he h1
  refine lv_iconst (pc := 9) (v := 1) hx hb d_R_flagsOfSum_9 (by decide) ?_
  refine lv_goto (pc := 10) (tgt := 14) hx hb d_R_flagsOfSum_10 (by decide) ?_
  exact B14 _ _ _ st v1 v2 1 1 b1 b1 hC (lv_sub hl [0, 1, 2] rfl) he
def f_R_add_44 (st : CS)  : CS := st
def f_R_add (st : CS) (v1 : Int32) : CS := bP (f_R_has st 8) (fun r2 st1 => if r2 = 0 then (bP (f_R_carry st1 ) (fun r5 st4 => bS ((((st1.1 0) + v1) + r5) : Int32) (fun y6 => bS (f_R_flagsOfSum st4 v1 y6) (fun st7 => bS (sV st7 0 (y6 &&& 255)) (fun st8 => f_R_add_44 st8 ))))) else (bS (f_R_addDecimal st1 v1) (fun st9 => f_R_add_44 st9 )))
abbrev rm_R_add : Room := { frames := 2, cells := 0, slots := 0, locals := 47 }
set_option maxHeartbeats 4000000 in
set_option maxRecDepth 100000 in
theorem k_R_add (l : Launch) (g : CG) (rt : MS) (o : Nat → Int64) (st : CS) (v1 : Int32) : KV l g y_R_add (Cond.code y_R_add c_R_add 3 none :: ALL) rm_R_add [.ref (g.regs), .int v1] (wC g rt o) st (f_R_add st v1) := by
  refine KV.ofW (by decide) (Nat.le_of_ble_eq_true rfl) ?_
  intro p e s m args below meth c A Q ls Rv X he RET hC hl
  obtain ⟨hx, hb⟩ := FX_xb X
  have hl : lv_has ls 3 [(0, .ref (g.regs)), (1, .int v1)] := hl
  have B44 : ∀ (H : Heap) (locs : List Loc) (ls : Array Slot) (st : CS) , HC g A s (wC g rt o st) H locs → lv_has ls 3 [] → f_R_add_44 st  = Rv → W p l e rm_R_add s m args below meth c H locs 0 0 Q (F0 m 44 ls []) := by
    intro H locs ls st   hC hl he
    unfold f_R_add_44 at he
    exact RET (pc := 44) d_R_add_44 hC he
  unfold f_R_add at he
  refine lv_aload_n (pc := 0) hx hb d_R_add_0 rfl (lv_at hl 0 rfl) ?_
  refine lv_bipush (pc := 1) (v := 8) hx hb d_R_add_1 (by decide) ?_
  refine callZO (q0 := 3) (pc := 3) (As := [.int 8]) (rest := []) X (k_R_has l g rt o st 8) hC (NR_R_has_35 X rfl rfl ⟨by decide, by decide⟩) rfl rfl rfl hl.1 (Nat.le_of_ble_eq_true rfl) rfl d_R_add_3 ⟨Nat.zero_le _, Nat.zero_le _⟩ (fun r2 st1 H locs est1 br2 hC => ?_)
  replace he := bP_go he est1
  refine lv_if_eq (pc := 6) (tgt := 17) hx hb d_R_add_6 (by decide) (fun h3 => ?_) (fun h3 => ?_)
  · replace he := if_go he h3
    refine lv_aload_n (pc := 17) hx hb d_R_add_17 rfl (lv_at hl 0 rfl) ?_
    refine GR_a (pc := 18) X hC d_R_add_18 ?_
    refine lv_iload_n (pc := 21) hx hb d_R_add_21 rfl (lv_at hl 1 rfl) ?_
    refine lv_iadd (pc := 22) hx hb d_R_add_22 ?_
    refine lv_aload_n (pc := 23) hx hb d_R_add_23 rfl (lv_at hl 0 rfl) ?_
    refine callIO (q0 := 3) (pc := 24) (As := []) (rest := [.int ((st1.1 0) + v1)]) X (k_R_carry l g rt o st1 ) hC (NR_R_carry_68 X rfl rfl ⟨by decide, by decide⟩) rfl rfl rfl hl.1 (Nat.le_of_ble_eq_true rfl) rfl d_R_add_24 ⟨Nat.zero_le _, Nat.zero_le _⟩ (fun r5 st4 H locs est4 hC => ?_)
    replace he := bP_go he est4
    refine lv_iadd (pc := 27) hx hb d_R_add_27 ?_
    refine lv_topi (fun y6 ey6 => ?_)
    replace he := bS_go he ey6.symm
    refine lv_istore_n (pc := 28) (nL := 3) (lv' := [(2, .int y6), (0, .ref (g.regs)), (1, .int v1)]) hx hb d_R_add_28 rfl hl (by decide) rfl (fun ls hl => ?_)
    refine lv_aload_n (pc := 29) hx hb d_R_add_29 rfl (lv_at hl 1 rfl) ?_
    refine lv_iload_n (pc := 30) hx hb d_R_add_30 rfl (lv_at hl 2 rfl) ?_
    refine lv_iload_n (pc := 31) hx hb d_R_add_31 rfl (lv_at hl 0 rfl) ?_
    refine callVO (q0 := 3) (pc := 32) (As := [.int v1, .int y6]) (rest := []) X (k_R_flagsOfSum l g rt o st4 v1 y6) hC (NR_R_flagsOfSum_72 X rfl rfl ⟨by decide, by decide⟩) rfl rfl rfl hl.1 (Nat.le_of_ble_eq_true rfl) rfl d_R_add_32 ⟨Nat.zero_le _, Nat.zero_le _⟩ (fun st7 H locs est7 hC => ?_)
    replace he := bS_go he est7
    refine lv_aload_n (pc := 35) hx hb d_R_add_35 rfl (lv_at hl 1 rfl) ?_
    refine lv_iload_n (pc := 36) hx hb d_R_add_36 rfl (lv_at hl 0 rfl) ?_
    refine lv_sipush (pc := 37) (v := 255) hx hb d_R_add_37 (by decide) ?_
    refine lv_iand (pc := 40) hx hb d_R_add_40 ?_
    refine PR_a (pc := 41) X hC d_R_add_41 (fun st8 H locs est8 hC => ?_)
    replace he := bS_go he est8
    exact B44 _ _ _ st8   hC (lv_sub hl [] rfl) he
  replace he := if_no he h3
  refine lv_aload_n (pc := 9) hx hb d_R_add_9 rfl (lv_at hl 0 rfl) ?_
  refine lv_iload_n (pc := 10) hx hb d_R_add_10 rfl (lv_at hl 1 rfl) ?_
  refine callVO (q0 := 3) (pc := 11) (As := [.int v1]) (rest := []) X (k_R_addDecimal l g rt o st1 v1) hC (NR_R_addDecimal_65 X rfl rfl ⟨by decide, by decide⟩) rfl rfl rfl hl.1 (Nat.le_of_ble_eq_true rfl) rfl d_R_add_11 ⟨Nat.zero_le _, Nat.zero_le _⟩ (fun st9 H locs est9 hC => ?_)
  replace he := bS_go he est9
  refine lv_goto (pc := 14) (tgt := 44) hx hb d_R_add_14 (by decide) ?_
  exact B44 _ _ _ st9   hC (lv_sub hl [] rfl) he
def f_R_decimalDifference_55 (st : CS) (v2 : Int32) (v3 : Int32) : Int32 × CS := (((16 * (v3 &&& 15)) + (v2 &&& 15)), st)
def f_R_decimalDifference_46 (st : CS) (v2 : Int32) (s0 : Int32) (s1 : Int32) : Int32 × CS := bS ((s1 - s0) : Int32) (fun y7 => if 0 ≤ y7 then (f_R_decimalDifference_55 st v2 y7) else (f_R_decimalDifference_55 st v2 (y7 + (-6))))
def f_R_decimalDifference_27 (st : CS) (v1 : Int32) (v2 : Int32) : Int32 × CS := if 0 ≤ v2 then (f_R_decimalDifference_46 st v2 0 (((st.1 0) >>> (4 &&& 31)) - (v1 >>> (4 &&& 31)))) else (f_R_decimalDifference_46 st v2 1 (((st.1 0) >>> (4 &&& 31)) - (v1 >>> (4 &&& 31))))
def f_R_decimalDifference (st : CS) (v1 : Int32) : Int32 × CS := bP (f_R_carry st ) (fun r2 st1 => bS (((((st.1 0) &&& 15) - (v1 &&& 15)) - (1 - r2)) : Int32) (fun y3 => if 0 ≤ y3 then (f_R_decimalDifference_27 st1 v1 y3) else (f_R_decimalDifference_27 st1 v1 (y3 + (-6)))))
abbrev rm_R_decimalDifference : Room := { frames := 1, cells := 0, slots := 0, locals := 20 }
set_option maxHeartbeats 4000000 in
set_option maxRecDepth 100000 in
theorem k_R_decimalDifference (l : Launch) (g : CG) (rt : MS) (o : Nat → Int64) (st : CS) (v1 : Int32) : KI l g y_R_decimalDifference (Cond.code y_R_decimalDifference c_R_decimalDifference 4 (some .int) :: ALL) rm_R_decimalDifference [.ref (g.regs), .int v1] (wC g rt o) st (f_R_decimalDifference st v1) := by
  refine KI.ofW (by decide) (Nat.le_of_ble_eq_true rfl) ?_
  intro p e s m args below meth c A Q ls Rv X he RET hC hl
  obtain ⟨hx, hb⟩ := FX_xb X
  have hl : lv_has ls 4 [(0, .ref (g.regs)), (1, .int v1)] := hl
  have B55 : ∀ (H : Heap) (locs : List Loc) (ls : Array Slot) (st : CS) (v2 : Int32) (v3 : Int32), HC g A s (wC g rt o st) H locs → lv_has ls 4 [(2, .int v2), (3, .int v3)] → f_R_decimalDifference_55 st v2 v3 = Rv → W p l e rm_R_decimalDifference s m args below meth c H locs 0 0 Q (F0 m 55 ls []) := by
    intro H locs ls st v2 v3  hC hl he
    unfold f_R_decimalDifference_55 at he
    refine lv_bipush (pc := 55) (v := 16) hx hb d_R_decimalDifference_55 (by decide) ?_
    refine lv_iload_n (pc := 57) hx hb d_R_decimalDifference_57 rfl (lv_at hl 1 rfl) ?_
    refine lv_bipush (pc := 58) (v := 15) hx hb d_R_decimalDifference_58 (by decide) ?_
    refine lv_iand (pc := 60) hx hb d_R_decimalDifference_60 ?_
    refine lv_imul (pc := 61) hx hb d_R_decimalDifference_61 ?_
    refine lv_iload_n (pc := 62) hx hb d_R_decimalDifference_62 rfl (lv_at hl 0 rfl) ?_
    refine lv_bipush (pc := 63) (v := 15) hx hb d_R_decimalDifference_63 (by decide) ?_
    refine lv_iand (pc := 65) hx hb d_R_decimalDifference_65 ?_
    refine lv_iadd (pc := 66) hx hb d_R_decimalDifference_66 ?_
    exact RET (pc := 67) d_R_decimalDifference_67 hC he
  have B46 : ∀ (H : Heap) (locs : List Loc) (ls : Array Slot) (st : CS) (v2 : Int32) (s0 : Int32) (s1 : Int32) (hs0 : s0 = 0 ∨ s0 = 1), HC g A s (wC g rt o st) H locs → lv_has ls 4 [(2, .int v2)] → f_R_decimalDifference_46 st v2 s0 s1 = Rv → W p l e rm_R_decimalDifference s m args below meth c H locs 0 0 Q (F0 m 46 ls [.int s0, .int s1]) := by
    intro H locs ls st v2 s0 s1 hs0 hC hl he
    unfold f_R_decimalDifference_46 at he
    refine lv_isub (pc := 46) hx hb d_R_decimalDifference_46 ?_
    refine lv_topi (fun y7 ey7 => ?_)
    replace he := bS_go he ey7.symm
    refine lv_istore_n (pc := 47) (nL := 4) (lv' := [(3, .int y7), (2, .int v2)]) hx hb d_R_decimalDifference_47 rfl hl (by decide) rfl (fun ls hl => ?_)
    refine lv_iload_n (pc := 48) hx hb d_R_decimalDifference_48 rfl (lv_at hl 0 rfl) ?_
    refine lv_if_ge (pc := 49) (tgt := 55) hx hb d_R_decimalDifference_49 (by decide) (fun h8 => ?_) (fun h8 => ?_)
    · replace he := if_go he h8
      exact B55 _ _ _ st v2 y7  hC (lv_sub hl [1, 0] rfl) he
    replace he := if_no he h8
    refine lv_iinc (pc := 52) (k := 0) (nL := 4) (v := (y7 + (-6))) (lv' := [(3, .int (y7 + (-6))), (2, .int v2)]) hx hb d_R_decimalDifference_52 hl rfl rfl (by decide) rfl (fun ls hl => ?_)
    exact B55 _ _ _ st v2 (y7 + (-6))  hC (lv_sub hl [1, 0] rfl) he
  have B27 : ∀ (H : Heap) (locs : List Loc) (ls : Array Slot) (st : CS) (v1 : Int32) (v2 : Int32), HC g A s (wC g rt o st) H locs → lv_has ls 4 [(0, .ref (g.regs)), (1, .int v1), (2, .int v2)] → f_R_decimalDifference_27 st v1 v2 = Rv → W p l e rm_R_decimalDifference s m args below meth c H locs 0 0 Q (F0 m 27 ls []) := by
    intro H locs ls st v1 v2  hC hl he
    unfold f_R_decimalDifference_27 at he
    refine lv_aload_n (pc := 27) hx hb d_R_decimalDifference_27 rfl (lv_at hl 0 rfl) ?_
    refine GR_a (pc := 28) X hC d_R_decimalDifference_28 ?_
    refine lv_iconst (pc := 31) (v := 4) hx hb d_R_decimalDifference_31 (by decide) ?_
    refine lv_ishr (pc := 32) hx hb d_R_decimalDifference_32 ?_
    refine lv_iload_n (pc := 33) hx hb d_R_decimalDifference_33 rfl (lv_at hl 1 rfl) ?_
    refine lv_iconst (pc := 34) (v := 4) hx hb d_R_decimalDifference_34 (by decide) ?_
    refine lv_ishr (pc := 35) hx hb d_R_decimalDifference_35 ?_
    refine lv_isub (pc := 36) hx hb d_R_decimalDifference_36 ?_
    refine lv_iload_n (pc := 37) hx hb d_R_decimalDifference_37 rfl (lv_at hl 2 rfl) ?_
    refine lv_if_ge (pc := 38) (tgt := 45) hx hb d_R_decimalDifference_38 (by decide) (fun h6 => ?_) (fun h6 => ?_)
    · replace he := if_go he h6
      refine lv_iconst (pc := 45) (v := 0) hx hb d_R_decimalDifference_45 (by decide) ?_
      exact B46 _ _ _ st v2 0 (((st.1 0) >>> (4 &&& 31)) - (v1 >>> (4 &&& 31))) b0 hC (lv_sub hl [2] rfl) he
    replace he := if_no he h6
    refine lv_iconst (pc := 41) (v := 1) hx hb d_R_decimalDifference_41 (by decide) ?_
    refine lv_goto (pc := 42) (tgt := 46) hx hb d_R_decimalDifference_42 (by decide) ?_
    exact B46 _ _ _ st v2 1 (((st.1 0) >>> (4 &&& 31)) - (v1 >>> (4 &&& 31))) b1 hC (lv_sub hl [2] rfl) he
  unfold f_R_decimalDifference at he
  refine lv_aload_n (pc := 0) hx hb d_R_decimalDifference_0 rfl (lv_at hl 0 rfl) ?_
  refine GR_a (pc := 1) X hC d_R_decimalDifference_1 ?_
  refine lv_bipush (pc := 4) (v := 15) hx hb d_R_decimalDifference_4 (by decide) ?_
  refine lv_iand (pc := 6) hx hb d_R_decimalDifference_6 ?_
  refine lv_iload_n (pc := 7) hx hb d_R_decimalDifference_7 rfl (lv_at hl 1 rfl) ?_
  refine lv_bipush (pc := 8) (v := 15) hx hb d_R_decimalDifference_8 (by decide) ?_
  refine lv_iand (pc := 10) hx hb d_R_decimalDifference_10 ?_
  refine lv_isub (pc := 11) hx hb d_R_decimalDifference_11 ?_
  refine lv_iconst (pc := 12) (v := 1) hx hb d_R_decimalDifference_12 (by decide) ?_
  refine lv_aload_n (pc := 13) hx hb d_R_decimalDifference_13 rfl (lv_at hl 0 rfl) ?_
  refine callIO (q0 := 3) (pc := 14) (As := []) (rest := [.int 1, .int (((st.1 0) &&& 15) - (v1 &&& 15))]) X (k_R_carry l g rt o st ) hC (NR_R_carry_68 X rfl rfl ⟨by decide, by decide⟩) rfl rfl rfl hl.1 (Nat.le_of_ble_eq_true rfl) rfl d_R_decimalDifference_14 ⟨Nat.zero_le _, Nat.zero_le _⟩ (fun r2 st1 H locs est1 hC => ?_)
  replace he := bP_go he est1
  refine lv_isub (pc := 17) hx hb d_R_decimalDifference_17 ?_
  refine lv_isub (pc := 18) hx hb d_R_decimalDifference_18 ?_
  refine lv_topi (fun y3 ey3 => ?_)
  replace he := bS_go he ey3.symm
  refine lv_istore_n (pc := 19) (nL := 4) (lv' := [(2, .int y3), (0, .ref (g.regs)), (1, .int v1)]) hx hb d_R_decimalDifference_19 rfl hl (by decide) rfl (fun ls hl => ?_)
  refine lv_iload_n (pc := 20) hx hb d_R_decimalDifference_20 rfl (lv_at hl 0 rfl) ?_
  refine lv_if_ge (pc := 21) (tgt := 27) hx hb d_R_decimalDifference_21 (by decide) (fun h4 => ?_) (fun h4 => ?_)
  · replace he := if_go he h4
    exact B27 _ _ _ st1 v1 y3  hC (lv_sub hl [1, 2, 0] rfl) he
  replace he := if_no he h4
  refine lv_iinc (pc := 24) (k := 0) (nL := 4) (v := (y3 + (-6))) (lv' := [(2, .int (y3 + (-6))), (0, .ref (g.regs)), (1, .int v1)]) hx hb d_R_decimalDifference_24 hl rfl rfl (by decide) rfl (fun ls hl => ?_)
  exact B27 _ _ _ st1 v1 (y3 + (-6))  hC (lv_sub hl [1, 2, 0] rfl) he
def f_R_subtract_38 (st : CS) (v1 : Int32) (v2 : Int32) (s0 : Int32) : CS := bS (f_R_flagsOfSum st (255 - v1) v2) (fun st9 => bS (sV st9 0 s0) (fun st10 => st10))
def f_R_subtract (st : CS) (v1 : Int32) : CS := bP (f_R_carry st ) (fun r2 st1 => bS ((((st.1 0) + (255 - v1)) + r2) : Int32) (fun y3 => bP (f_R_has st1 8) (fun r5 st4 => if r5 = 0 then (f_R_subtract_38 st4 v1 y3 (y3 &&& 255)) else (bP (f_R_decimalDifference st4 v1) (fun r8 st7 => f_R_subtract_38 st7 v1 y3 r8)))))
abbrev rm_R_subtract : Room := { frames := 2, cells := 0, slots := 0, locals := 45 }
set_option maxHeartbeats 4000000 in
set_option maxRecDepth 100000 in
theorem k_R_subtract (l : Launch) (g : CG) (rt : MS) (o : Nat → Int64) (st : CS) (v1 : Int32) : KV l g y_R_subtract (Cond.code y_R_subtract c_R_subtract 4 none :: ALL) rm_R_subtract [.ref (g.regs), .int v1] (wC g rt o) st (f_R_subtract st v1) := by
  refine KV.ofW (by decide) (Nat.le_of_ble_eq_true rfl) ?_
  intro p e s m args below meth c A Q ls Rv X he RET hC hl
  obtain ⟨hx, hb⟩ := FX_xb X
  have hl : lv_has ls 4 [(0, .ref (g.regs)), (1, .int v1)] := hl
  have B38 : ∀ (H : Heap) (locs : List Loc) (ls : Array Slot) (st : CS) (v1 : Int32) (v2 : Int32) (s0 : Int32), HC g A s (wC g rt o st) H locs → lv_has ls 4 [(0, .ref (g.regs)), (1, .int v1), (2, .int v2)] → f_R_subtract_38 st v1 v2 s0 = Rv → W p l e rm_R_subtract s m args below meth c H locs 0 0 Q (F0 m 38 ls [.int s0]) := by
    intro H locs ls st v1 v2 s0  hC hl he
    unfold f_R_subtract_38 at he
    refine lv_istore_n (pc := 38) (nL := 4) (lv' := [(3, .int s0), (0, .ref (g.regs)), (1, .int v1), (2, .int v2)]) hx hb d_R_subtract_38 rfl hl (by decide) rfl (fun ls hl => ?_)
    refine lv_aload_n (pc := 39) hx hb d_R_subtract_39 rfl (lv_at hl 1 rfl) ?_
    refine lv_sipush (pc := 40) (v := 255) hx hb d_R_subtract_40 (by decide) ?_
    refine lv_iload_n (pc := 43) hx hb d_R_subtract_43 rfl (lv_at hl 2 rfl) ?_
    refine lv_isub (pc := 44) hx hb d_R_subtract_44 ?_
    refine lv_iload_n (pc := 45) hx hb d_R_subtract_45 rfl (lv_at hl 3 rfl) ?_
    refine callVO (q0 := 3) (pc := 46) (As := [.int (255 - v1), .int v2]) (rest := []) X (k_R_flagsOfSum l g rt o st (255 - v1) v2) hC (NR_R_flagsOfSum_72 X rfl rfl ⟨by decide, by decide⟩) rfl rfl rfl hl.1 (Nat.le_of_ble_eq_true rfl) rfl d_R_subtract_46 ⟨Nat.zero_le _, Nat.zero_le _⟩ (fun st9 H locs est9 hC => ?_)
    replace he := bS_go he est9
    refine lv_aload_n (pc := 49) hx hb d_R_subtract_49 rfl (lv_at hl 1 rfl) ?_
    refine lv_iload_n (pc := 50) hx hb d_R_subtract_50 rfl (lv_at hl 0 rfl) ?_
    refine PR_a (pc := 51) X hC d_R_subtract_51 (fun st10 H locs est10 hC => ?_)
    replace he := bS_go he est10
    exact RET (pc := 54) d_R_subtract_54 hC he
  unfold f_R_subtract at he
  refine lv_aload_n (pc := 0) hx hb d_R_subtract_0 rfl (lv_at hl 0 rfl) ?_
  refine GR_a (pc := 1) X hC d_R_subtract_1 ?_
  refine lv_sipush (pc := 4) (v := 255) hx hb d_R_subtract_4 (by decide) ?_
  refine lv_iload_n (pc := 7) hx hb d_R_subtract_7 rfl (lv_at hl 1 rfl) ?_
  refine lv_isub (pc := 8) hx hb d_R_subtract_8 ?_
  refine lv_iadd (pc := 9) hx hb d_R_subtract_9 ?_
  refine lv_aload_n (pc := 10) hx hb d_R_subtract_10 rfl (lv_at hl 0 rfl) ?_
  refine callIO (q0 := 3) (pc := 11) (As := []) (rest := [.int ((st.1 0) + (255 - v1))]) X (k_R_carry l g rt o st ) hC (NR_R_carry_68 X rfl rfl ⟨by decide, by decide⟩) rfl rfl rfl hl.1 (Nat.le_of_ble_eq_true rfl) rfl d_R_subtract_11 ⟨Nat.zero_le _, Nat.zero_le _⟩ (fun r2 st1 H locs est1 hC => ?_)
  replace he := bP_go he est1
  refine lv_iadd (pc := 14) hx hb d_R_subtract_14 ?_
  refine lv_topi (fun y3 ey3 => ?_)
  replace he := bS_go he ey3.symm
  refine lv_istore_n (pc := 15) (nL := 4) (lv' := [(2, .int y3), (0, .ref (g.regs)), (1, .int v1)]) hx hb d_R_subtract_15 rfl hl (by decide) rfl (fun ls hl => ?_)
  refine lv_aload_n (pc := 16) hx hb d_R_subtract_16 rfl (lv_at hl 1 rfl) ?_
  refine lv_bipush (pc := 17) (v := 8) hx hb d_R_subtract_17 (by decide) ?_
  refine callZO (q0 := 3) (pc := 19) (As := [.int 8]) (rest := []) X (k_R_has l g rt o st1 8) hC (NR_R_has_35 X rfl rfl ⟨by decide, by decide⟩) rfl rfl rfl hl.1 (Nat.le_of_ble_eq_true rfl) rfl d_R_subtract_19 ⟨Nat.zero_le _, Nat.zero_le _⟩ (fun r5 st4 H locs est4 br5 hC => ?_)
  replace he := bP_go he est4
  refine lv_if_eq (pc := 22) (tgt := 33) hx hb d_R_subtract_22 (by decide) (fun h6 => ?_) (fun h6 => ?_)
  · replace he := if_go he h6
    refine lv_iload_n (pc := 33) hx hb d_R_subtract_33 rfl (lv_at hl 0 rfl) ?_
    refine lv_sipush (pc := 34) (v := 255) hx hb d_R_subtract_34 (by decide) ?_
    refine lv_iand (pc := 37) hx hb d_R_subtract_37 ?_
    exact B38 _ _ _ st4 v1 y3 (y3 &&& 255)  hC (lv_sub hl [1, 2, 0] rfl) he
  replace he := if_no he h6
  refine lv_aload_n (pc := 25) hx hb d_R_subtract_25 rfl (lv_at hl 1 rfl) ?_
  refine lv_iload_n (pc := 26) hx hb d_R_subtract_26 rfl (lv_at hl 2 rfl) ?_
  refine callIO (q0 := 3) (pc := 27) (As := [.int v1]) (rest := []) X (k_R_decimalDifference l g rt o st4 v1) hC (NR_R_decimalDifference_80 X rfl rfl ⟨by decide, by decide⟩) rfl rfl rfl hl.1 (Nat.le_of_ble_eq_true rfl) rfl d_R_subtract_27 ⟨Nat.zero_le _, Nat.zero_le _⟩ (fun r8 st7 H locs est7 hC => ?_)
  replace he := bP_go he est7
  refine lv_goto (pc := 30) (tgt := 38) hx hb d_R_subtract_30 (by decide) ?_
  exact B38 _ _ _ st7 v1 y3 r8  hC (lv_sub hl [1, 2, 0] rfl) he
def f_R_compare_15 (st : CS) (v1 : Int32) (s0 : Int32) (s1 : Int32) : CS := bS (f_R_put st s1 s0) (fun st2 => bS (f_R_putNz st2 (((st2.1 0) - v1) &&& 255)) (fun st3 => st3))
def f_R_compare (st : CS) (v1 : Int32) : CS := if (st.1 0) < v1 then (f_R_compare_15 st v1 0 1) else (f_R_compare_15 st v1 1 1)
abbrev rm_R_compare : Room := { frames := 1, cells := 0, slots := 0, locals := 22 }
set_option maxHeartbeats 4000000 in
set_option maxRecDepth 100000 in
theorem k_R_compare (l : Launch) (g : CG) (rt : MS) (o : Nat → Int64) (st : CS) (v1 : Int32) : KV l g y_R_compare (Cond.code y_R_compare c_R_compare 2 none :: ALL) rm_R_compare [.ref (g.regs), .int v1] (wC g rt o) st (f_R_compare st v1) := by
  refine KV.ofW (by decide) (Nat.le_of_ble_eq_true rfl) ?_
  intro p e s m args below meth c A Q ls Rv X he RET hC hl
  obtain ⟨hx, hb⟩ := FX_xb X
  have hl : lv_has ls 2 [(0, .ref (g.regs)), (1, .int v1)] := hl
  have B15 : ∀ (H : Heap) (locs : List Loc) (ls : Array Slot) (st : CS) (v1 : Int32) (s0 : Int32) (s1 : Int32) (hs0 : s0 = 0 ∨ s0 = 1) (hs1 : s1 = 0 ∨ s1 = 1), HC g A s (wC g rt o st) H locs → lv_has ls 2 [(0, .ref (g.regs)), (1, .int v1)] → f_R_compare_15 st v1 s0 s1 = Rv → W p l e rm_R_compare s m args below meth c H locs 0 0 Q (F0 m 15 ls [.int s0, .int s1, .ref (g.regs)]) := by
    intro H locs ls st v1 s0 s1 hs0 hs1 hC hl he
    unfold f_R_compare_15 at he
    refine callVO (q0 := 3) (pc := 15) (As := [.int s1, .int s0]) (rest := []) X (k_R_put l g rt o st s1 s0) hC (NR_R_put_57 X rfl rfl ⟨by decide, by decide⟩) rfl rfl rfl hl.1 (Nat.le_of_ble_eq_true rfl) rfl d_R_compare_15 ⟨Nat.zero_le _, Nat.zero_le _⟩ (fun st2 H locs est2 hC => ?_)
    replace he := bS_go he est2
    refine lv_aload_n (pc := 18) hx hb d_R_compare_18 rfl (lv_at hl 0 rfl) ?_
    refine lv_aload_n (pc := 19) hx hb d_R_compare_19 rfl (lv_at hl 0 rfl) ?_
    refine GR_a (pc := 20) X hC d_R_compare_20 ?_
    refine lv_iload_n (pc := 23) hx hb d_R_compare_23 rfl (lv_at hl 1 rfl) ?_
    refine lv_isub (pc := 24) hx hb d_R_compare_24 ?_
    refine lv_sipush (pc := 25) (v := 255) hx hb d_R_compare_25 (by decide) ?_
    refine lv_iand (pc := 28) hx hb d_R_compare_28 ?_
    refine callVO (q0 := 3) (pc := 29) (As := [.int (((st2.1 0) - v1) &&& 255)]) (rest := []) X (k_R_putNz l g rt o st2 (((st2.1 0) - v1) &&& 255)) hC (NR_R_putNz_25 X rfl rfl ⟨by decide, by decide⟩) rfl rfl rfl hl.1 (Nat.le_of_ble_eq_true rfl) rfl d_R_compare_29 ⟨Nat.zero_le _, Nat.zero_le _⟩ (fun st3 H locs est3 hC => ?_)
    replace he := bS_go he est3
    exact RET (pc := 32) d_R_compare_32 hC he
  unfold f_R_compare at he
  refine lv_aload_n (pc := 0) hx hb d_R_compare_0 rfl (lv_at hl 0 rfl) ?_
  refine lv_iconst (pc := 1) (v := 1) hx hb d_R_compare_1 (by decide) ?_
  refine lv_aload_n (pc := 2) hx hb d_R_compare_2 rfl (lv_at hl 0 rfl) ?_
  refine GR_a (pc := 3) X hC d_R_compare_3 ?_
  refine lv_iload_n (pc := 6) hx hb d_R_compare_6 rfl (lv_at hl 1 rfl) ?_
  refine lv_icmp_lt (pc := 7) (tgt := 14) hx hb d_R_compare_7 (by decide) (fun h1 => ?_) (fun h1 => ?_)
  · replace he := if_go he h1
    refine lv_iconst (pc := 14) (v := 0) hx hb d_R_compare_14 (by decide) ?_
    exact B15 _ _ _ st v1 0 1 b0 b1 hC (lv_sub hl [0, 1] rfl) he
  replace he := if_no he h1
  refine lv_iconst (pc := 10) (v := 1) hx hb d_R_compare_10 (by decide) ?_
  refine lv_goto (pc := 11) (tgt := 15) hx hb d_R_compare_11 (by decide) ?_
  exact B15 _ _ _ st v1 1 1 b1 b1 hC (lv_sub hl [0, 1] rfl) he
def f_R_loadX (st : CS) (v1 : Int32) : CS := bS (sV st 1 (v1 &&& 255)) (fun st1 => bS (f_R_putNz st1 (st1.1 1)) (fun st2 => st2))
abbrev rm_R_loadX : Room := { frames := 1, cells := 0, slots := 0, locals := 22 }
set_option maxHeartbeats 4000000 in
set_option maxRecDepth 100000 in
theorem k_R_loadX (l : Launch) (g : CG) (rt : MS) (o : Nat → Int64) (st : CS) (v1 : Int32) : KV l g y_R_loadX (Cond.code y_R_loadX c_R_loadX 2 none :: ALL) rm_R_loadX [.ref (g.regs), .int v1] (wC g rt o) st (f_R_loadX st v1) := by
  refine KV.ofW (by decide) (Nat.le_of_ble_eq_true rfl) ?_
  intro p e s m args below meth c A Q ls Rv X he RET hC hl
  obtain ⟨hx, hb⟩ := FX_xb X
  have hl : lv_has ls 2 [(0, .ref (g.regs)), (1, .int v1)] := hl
  unfold f_R_loadX at he
  refine lv_aload_n (pc := 0) hx hb d_R_loadX_0 rfl (lv_at hl 0 rfl) ?_
  refine lv_iload_n (pc := 1) hx hb d_R_loadX_1 rfl (lv_at hl 1 rfl) ?_
  refine lv_sipush (pc := 2) (v := 255) hx hb d_R_loadX_2 (by decide) ?_
  refine lv_iand (pc := 5) hx hb d_R_loadX_5 ?_
  refine PR_x (pc := 6) X hC d_R_loadX_6 (fun st1 H locs est1 hC => ?_)
  replace he := bS_go he est1
  refine lv_aload_n (pc := 9) hx hb d_R_loadX_9 rfl (lv_at hl 0 rfl) ?_
  refine lv_aload_n (pc := 10) hx hb d_R_loadX_10 rfl (lv_at hl 0 rfl) ?_
  refine GR_x (pc := 11) X hC d_R_loadX_11 ?_
  refine callVO (q0 := 3) (pc := 14) (As := [.int (st1.1 1)]) (rest := []) X (k_R_putNz l g rt o st1 (st1.1 1)) hC (NR_R_putNz_25 X rfl rfl ⟨by decide, by decide⟩) rfl rfl rfl hl.1 (Nat.le_of_ble_eq_true rfl) rfl d_R_loadX_14 ⟨Nat.zero_le _, Nat.zero_le _⟩ (fun st2 H locs est2 hC => ?_)
  replace he := bS_go he est2
  exact RET (pc := 17) d_R_loadX_17 hC he
def f_R_loadY (st : CS) (v1 : Int32) : CS := bS (sV st 2 (v1 &&& 255)) (fun st1 => bS (f_R_putNz st1 (st1.1 2)) (fun st2 => st2))
abbrev rm_R_loadY : Room := { frames := 1, cells := 0, slots := 0, locals := 22 }
set_option maxHeartbeats 4000000 in
set_option maxRecDepth 100000 in
theorem k_R_loadY (l : Launch) (g : CG) (rt : MS) (o : Nat → Int64) (st : CS) (v1 : Int32) : KV l g y_R_loadY (Cond.code y_R_loadY c_R_loadY 2 none :: ALL) rm_R_loadY [.ref (g.regs), .int v1] (wC g rt o) st (f_R_loadY st v1) := by
  refine KV.ofW (by decide) (Nat.le_of_ble_eq_true rfl) ?_
  intro p e s m args below meth c A Q ls Rv X he RET hC hl
  obtain ⟨hx, hb⟩ := FX_xb X
  have hl : lv_has ls 2 [(0, .ref (g.regs)), (1, .int v1)] := hl
  unfold f_R_loadY at he
  refine lv_aload_n (pc := 0) hx hb d_R_loadY_0 rfl (lv_at hl 0 rfl) ?_
  refine lv_iload_n (pc := 1) hx hb d_R_loadY_1 rfl (lv_at hl 1 rfl) ?_
  refine lv_sipush (pc := 2) (v := 255) hx hb d_R_loadY_2 (by decide) ?_
  refine lv_iand (pc := 5) hx hb d_R_loadY_5 ?_
  refine PR_y (pc := 6) X hC d_R_loadY_6 (fun st1 H locs est1 hC => ?_)
  replace he := bS_go he est1
  refine lv_aload_n (pc := 9) hx hb d_R_loadY_9 rfl (lv_at hl 0 rfl) ?_
  refine lv_aload_n (pc := 10) hx hb d_R_loadY_10 rfl (lv_at hl 0 rfl) ?_
  refine GR_y (pc := 11) X hC d_R_loadY_11 ?_
  refine callVO (q0 := 3) (pc := 14) (As := [.int (st1.1 2)]) (rest := []) X (k_R_putNz l g rt o st1 (st1.1 2)) hC (NR_R_putNz_25 X rfl rfl ⟨by decide, by decide⟩) rfl rfl rfl hl.1 (Nat.le_of_ble_eq_true rfl) rfl d_R_loadY_14 ⟨Nat.zero_le _, Nat.zero_le _⟩ (fun st2 H locs est2 hC => ?_)
  replace he := bS_go he est2
  exact RET (pc := 17) d_R_loadY_17 hC he
end
section
/-! contracts of methods (printed by my own program: pure pictures and walks) -/
def f_R_operate_136 (st : CS)  : CS := st
def f_R_operate_131 (st : CS) (v2 : Int32) : CS := bS (f_R_loadY st v2) (fun st18 => f_R_operate_136 st18 )
def f_R_operate (st : CS) (v1 : Int32) (v2 : Int32) : CS := if v1 = 0 then (bS (f_R_loadA st v2) (fun st2 => f_R_operate_136 st2 )) else (if v1 = 1 then (f_R_operate_131 st v2) else (if v1 = 2 then (bS (f_R_add st v2) (fun st5 => f_R_operate_136 st5 )) else (if v1 = 3 then (bS (f_R_subtract st v2) (fun st7 => f_R_operate_136 st7 )) else (if v1 = 4 then (bS (f_R_loadA st ((st.1 0) &&& v2)) (fun st9 => f_R_operate_136 st9 )) else (if v1 = 5 then (bS (f_R_loadA st ((st.1 0) ||| v2)) (fun st11 => f_R_operate_136 st11 )) else (if v1 = 6 then (bS (f_R_loadA st ((st.1 0) ^^^ v2)) (fun st13 => f_R_operate_136 st13 )) else (if v1 = 7 then (bS (f_R_compare st v2) (fun st15 => f_R_operate_136 st15 )) else (if v1 = 8 then (bS (f_R_loadX st v2) (fun st17 => f_R_operate_136 st17 )) else (f_R_operate_131 st v2)))))))))
abbrev rm_R_operate : Room := { frames := 3, cells := 0, slots := 0, locals := 69 }
set_option maxHeartbeats 4000000 in
set_option maxRecDepth 100000 in
theorem k_R_operate (l : Launch) (g : CG) (rt : MS) (o : Nat → Int64) (st : CS) (v1 : Int32) (v2 : Int32) : KV l g y_R_operate (Cond.code y_R_operate c_R_operate 3 none :: ALL) rm_R_operate [.ref (g.regs), .int v1, .int v2] (wC g rt o) st (f_R_operate st v1 v2) := by
  refine KV.ofW (by decide) (Nat.le_of_ble_eq_true rfl) ?_
  intro p e s m args below meth c A Q ls Rv X he RET hC hl
  obtain ⟨hx, hb⟩ := FX_xb X
  have hl : lv_has ls 3 [(0, .ref (g.regs)), (1, .int v1), (2, .int v2)] := hl
  have B136 : ∀ (H : Heap) (locs : List Loc) (ls : Array Slot) (st : CS) , HC g A s (wC g rt o st) H locs → lv_has ls 3 [] → f_R_operate_136 st  = Rv → W p l e rm_R_operate s m args below meth c H locs 0 0 Q (F0 m 136 ls []) := by
    intro H locs ls st   hC hl he
    unfold f_R_operate_136 at he
    exact RET (pc := 136) d_R_operate_136 hC he
  have B131 : ∀ (H : Heap) (locs : List Loc) (ls : Array Slot) (st : CS) (v2 : Int32), HC g A s (wC g rt o st) H locs → lv_has ls 3 [(0, .ref (g.regs)), (2, .int v2)] → f_R_operate_131 st v2 = Rv → W p l e rm_R_operate s m args below meth c H locs 0 0 Q (F0 m 131 ls []) := by
    intro H locs ls st v2  hC hl he
    unfold f_R_operate_131 at he
    refine lv_aload_n (pc := 131) hx hb d_R_operate_131 rfl (lv_at hl 0 rfl) ?_
    refine lv_iload_n (pc := 132) hx hb d_R_operate_132 rfl (lv_at hl 1 rfl) ?_
    refine callVO (q0 := 3) (pc := 133) (As := [.int v2]) (rest := []) X (k_R_loadY l g rt o st v2) hC (NR_R_loadY_54 X rfl rfl ⟨by decide, by decide⟩) rfl rfl rfl hl.1 (Nat.le_of_ble_eq_true rfl) rfl d_R_operate_133 ⟨Nat.zero_le _, Nat.zero_le _⟩ (fun st18 H locs est18 hC => ?_)
    replace he := bS_go he est18
    exact B136 _ _ _ st18   hC (lv_sub hl [] rfl) he
  unfold f_R_operate at he
  refine lv_iload_n (pc := 0) hx hb d_R_operate_0 rfl (lv_at hl 1 rfl) ?_
  by_cases h1 : v1 = 0
  · replace he := if_go he h1
    refine lv_tableIn (pc := 1) (tgt := 52) hx hb d_R_operate_1 (by rw [h1]; decide) (by rw [h1]; decide) (by rw [h1]; rfl) (by decide) ?_
    refine lv_aload_n (pc := 52) hx hb d_R_operate_52 rfl (lv_at hl 0 rfl) ?_
    refine lv_iload_n (pc := 53) hx hb d_R_operate_53 rfl (lv_at hl 2 rfl) ?_
    refine callVO (q0 := 3) (pc := 54) (As := [.int v2]) (rest := []) X (k_R_loadA l g rt o st v2) hC (NR_R_loadA_39 X rfl rfl ⟨by decide, by decide⟩) rfl rfl rfl hl.1 (Nat.le_of_ble_eq_true rfl) rfl d_R_operate_54 ⟨Nat.zero_le _, Nat.zero_le _⟩ (fun st2 H locs est2 hC => ?_)
    replace he := bS_go he est2
    refine lv_goto (pc := 57) (tgt := 136) hx hb d_R_operate_57 (by decide) ?_
    exact B136 _ _ _ st2   hC (lv_sub hl [] rfl) he
  replace he := if_no he h1
  by_cases h3 : v1 = 1
  · replace he := if_go he h3
    refine lv_tableIn (pc := 1) (tgt := 131) hx hb d_R_operate_1 (by rw [h3]; decide) (by rw [h3]; decide) (by rw [h3]; rfl) (by decide) ?_
    exact B131 _ _ _ st v2  hC (lv_sub hl [0, 2] rfl) he
  replace he := if_no he h3
  by_cases h4 : v1 = 2
  · replace he := if_go he h4
    refine lv_tableIn (pc := 1) (tgt := 60) hx hb d_R_operate_1 (by rw [h4]; decide) (by rw [h4]; decide) (by rw [h4]; rfl) (by decide) ?_
    refine lv_aload_n (pc := 60) hx hb d_R_operate_60 rfl (lv_at hl 0 rfl) ?_
    refine lv_iload_n (pc := 61) hx hb d_R_operate_61 rfl (lv_at hl 2 rfl) ?_
    refine callVO (q0 := 3) (pc := 62) (As := [.int v2]) (rest := []) X (k_R_add l g rt o st v2) hC (NR_R_add_42 X rfl rfl ⟨by decide, by decide⟩) rfl rfl rfl hl.1 (Nat.le_of_ble_eq_true rfl) rfl d_R_operate_62 ⟨Nat.zero_le _, Nat.zero_le _⟩ (fun st5 H locs est5 hC => ?_)
    replace he := bS_go he est5
    refine lv_goto (pc := 65) (tgt := 136) hx hb d_R_operate_65 (by decide) ?_
    exact B136 _ _ _ st5   hC (lv_sub hl [] rfl) he
  replace he := if_no he h4
  by_cases h6 : v1 = 3
  · replace he := if_go he h6
    refine lv_tableIn (pc := 1) (tgt := 68) hx hb d_R_operate_1 (by rw [h6]; decide) (by rw [h6]; decide) (by rw [h6]; rfl) (by decide) ?_
    refine lv_aload_n (pc := 68) hx hb d_R_operate_68 rfl (lv_at hl 0 rfl) ?_
    refine lv_iload_n (pc := 69) hx hb d_R_operate_69 rfl (lv_at hl 2 rfl) ?_
    refine callVO (q0 := 3) (pc := 70) (As := [.int v2]) (rest := []) X (k_R_subtract l g rt o st v2) hC (NR_R_subtract_45 X rfl rfl ⟨by decide, by decide⟩) rfl rfl rfl hl.1 (Nat.le_of_ble_eq_true rfl) rfl d_R_operate_70 ⟨Nat.zero_le _, Nat.zero_le _⟩ (fun st7 H locs est7 hC => ?_)
    replace he := bS_go he est7
    refine lv_goto (pc := 73) (tgt := 136) hx hb d_R_operate_73 (by decide) ?_
    exact B136 _ _ _ st7   hC (lv_sub hl [] rfl) he
  replace he := if_no he h6
  by_cases h8 : v1 = 4
  · replace he := if_go he h8
    refine lv_tableIn (pc := 1) (tgt := 76) hx hb d_R_operate_1 (by rw [h8]; decide) (by rw [h8]; decide) (by rw [h8]; rfl) (by decide) ?_
    refine lv_aload_n (pc := 76) hx hb d_R_operate_76 rfl (lv_at hl 0 rfl) ?_
    refine lv_aload_n (pc := 77) hx hb d_R_operate_77 rfl (lv_at hl 0 rfl) ?_
    refine GR_a (pc := 78) X hC d_R_operate_78 ?_
    refine lv_iload_n (pc := 81) hx hb d_R_operate_81 rfl (lv_at hl 2 rfl) ?_
    refine lv_iand (pc := 82) hx hb d_R_operate_82 ?_
    refine callVO (q0 := 3) (pc := 83) (As := [.int ((st.1 0) &&& v2)]) (rest := []) X (k_R_loadA l g rt o st ((st.1 0) &&& v2)) hC (NR_R_loadA_39 X rfl rfl ⟨by decide, by decide⟩) rfl rfl rfl hl.1 (Nat.le_of_ble_eq_true rfl) rfl d_R_operate_83 ⟨Nat.zero_le _, Nat.zero_le _⟩ (fun st9 H locs est9 hC => ?_)
    replace he := bS_go he est9
    refine lv_goto (pc := 86) (tgt := 136) hx hb d_R_operate_86 (by decide) ?_
    exact B136 _ _ _ st9   hC (lv_sub hl [] rfl) he
  replace he := if_no he h8
  by_cases h10 : v1 = 5
  · replace he := if_go he h10
    refine lv_tableIn (pc := 1) (tgt := 89) hx hb d_R_operate_1 (by rw [h10]; decide) (by rw [h10]; decide) (by rw [h10]; rfl) (by decide) ?_
    refine lv_aload_n (pc := 89) hx hb d_R_operate_89 rfl (lv_at hl 0 rfl) ?_
    refine lv_aload_n (pc := 90) hx hb d_R_operate_90 rfl (lv_at hl 0 rfl) ?_
    refine GR_a (pc := 91) X hC d_R_operate_91 ?_
    refine lv_iload_n (pc := 94) hx hb d_R_operate_94 rfl (lv_at hl 2 rfl) ?_
    refine lv_ior (pc := 95) hx hb d_R_operate_95 ?_
    refine callVO (q0 := 3) (pc := 96) (As := [.int ((st.1 0) ||| v2)]) (rest := []) X (k_R_loadA l g rt o st ((st.1 0) ||| v2)) hC (NR_R_loadA_39 X rfl rfl ⟨by decide, by decide⟩) rfl rfl rfl hl.1 (Nat.le_of_ble_eq_true rfl) rfl d_R_operate_96 ⟨Nat.zero_le _, Nat.zero_le _⟩ (fun st11 H locs est11 hC => ?_)
    replace he := bS_go he est11
    refine lv_goto (pc := 99) (tgt := 136) hx hb d_R_operate_99 (by decide) ?_
    exact B136 _ _ _ st11   hC (lv_sub hl [] rfl) he
  replace he := if_no he h10
  by_cases h12 : v1 = 6
  · replace he := if_go he h12
    refine lv_tableIn (pc := 1) (tgt := 102) hx hb d_R_operate_1 (by rw [h12]; decide) (by rw [h12]; decide) (by rw [h12]; rfl) (by decide) ?_
    refine lv_aload_n (pc := 102) hx hb d_R_operate_102 rfl (lv_at hl 0 rfl) ?_
    refine lv_aload_n (pc := 103) hx hb d_R_operate_103 rfl (lv_at hl 0 rfl) ?_
    refine GR_a (pc := 104) X hC d_R_operate_104 ?_
    refine lv_iload_n (pc := 107) hx hb d_R_operate_107 rfl (lv_at hl 2 rfl) ?_
    refine lv_ixor (pc := 108) hx hb d_R_operate_108 ?_
    refine callVO (q0 := 3) (pc := 109) (As := [.int ((st.1 0) ^^^ v2)]) (rest := []) X (k_R_loadA l g rt o st ((st.1 0) ^^^ v2)) hC (NR_R_loadA_39 X rfl rfl ⟨by decide, by decide⟩) rfl rfl rfl hl.1 (Nat.le_of_ble_eq_true rfl) rfl d_R_operate_109 ⟨Nat.zero_le _, Nat.zero_le _⟩ (fun st13 H locs est13 hC => ?_)
    replace he := bS_go he est13
    refine lv_goto (pc := 112) (tgt := 136) hx hb d_R_operate_112 (by decide) ?_
    exact B136 _ _ _ st13   hC (lv_sub hl [] rfl) he
  replace he := if_no he h12
  by_cases h14 : v1 = 7
  · replace he := if_go he h14
    refine lv_tableIn (pc := 1) (tgt := 115) hx hb d_R_operate_1 (by rw [h14]; decide) (by rw [h14]; decide) (by rw [h14]; rfl) (by decide) ?_
    refine lv_aload_n (pc := 115) hx hb d_R_operate_115 rfl (lv_at hl 0 rfl) ?_
    refine lv_iload_n (pc := 116) hx hb d_R_operate_116 rfl (lv_at hl 2 rfl) ?_
    refine callVO (q0 := 3) (pc := 117) (As := [.int v2]) (rest := []) X (k_R_compare l g rt o st v2) hC (NR_R_compare_48 X rfl rfl ⟨by decide, by decide⟩) rfl rfl rfl hl.1 (Nat.le_of_ble_eq_true rfl) rfl d_R_operate_117 ⟨Nat.zero_le _, Nat.zero_le _⟩ (fun st15 H locs est15 hC => ?_)
    replace he := bS_go he est15
    refine lv_goto (pc := 120) (tgt := 136) hx hb d_R_operate_120 (by decide) ?_
    exact B136 _ _ _ st15   hC (lv_sub hl [] rfl) he
  replace he := if_no he h14
  by_cases h16 : v1 = 8
  · replace he := if_go he h16
    refine lv_tableIn (pc := 1) (tgt := 123) hx hb d_R_operate_1 (by rw [h16]; decide) (by rw [h16]; decide) (by rw [h16]; rfl) (by decide) ?_
    refine lv_aload_n (pc := 123) hx hb d_R_operate_123 rfl (lv_at hl 0 rfl) ?_
    refine lv_iload_n (pc := 124) hx hb d_R_operate_124 rfl (lv_at hl 2 rfl) ?_
    refine callVO (q0 := 3) (pc := 125) (As := [.int v2]) (rest := []) X (k_R_loadX l g rt o st v2) hC (NR_R_loadX_51 X rfl rfl ⟨by decide, by decide⟩) rfl rfl rfl hl.1 (Nat.le_of_ble_eq_true rfl) rfl d_R_operate_125 ⟨Nat.zero_le _, Nat.zero_le _⟩ (fun st17 H locs est17 hC => ?_)
    replace he := bS_go he est17
    refine lv_goto (pc := 128) (tgt := 136) hx hb d_R_operate_128 (by decide) ?_
    exact B136 _ _ _ st17   hC (lv_sub hl [] rfl) he
  replace he := if_no he h16
  refine lv_tableOut (pc := 1) (tgt := 131) hx hb d_R_operate_1 (by have nh1 := lv_neT (a := 0) h1 (by decide); have nh3 := lv_neT (a := 1) h3 (by decide); have nh4 := lv_neT (a := 2) h4 (by decide); have nh6 := lv_neT (a := 3) h6 (by decide); have nh8 := lv_neT (a := 4) h8 (by decide); have nh10 := lv_neT (a := 5) h10 (by decide); have nh12 := lv_neT (a := 6) h12 (by decide); have nh14 := lv_neT (a := 7) h14 (by decide); have nh16 := lv_neT (a := 8) h16 (by decide); omega) (by decide) ?_
  exact B131 _ _ _ st v2  hC (lv_sub hl [0, 2] rfl) he
def f_R_takesBranch_112 (st : CS) (s0 : Int32) : Int32 × CS := (s0, st)
def f_R_takesBranch_12 (st : CS) (v1 : Int32) (s0 : Int32) : Int32 × CS := if ((v1 - 16) >>> (1 &&& 31)) = 0 then (bP (f_R_has st 128) (fun r4 st3 => if r4 = s0 then (f_R_takesBranch_112 st3 1) else (f_R_takesBranch_112 st3 0))) else (if ((v1 - 16) >>> (1 &&& 31)) = 1 then (bP (f_R_has st 64) (fun r8 st7 => if r8 = s0 then (f_R_takesBranch_112 st7 1) else (f_R_takesBranch_112 st7 0))) else (if ((v1 - 16) >>> (1 &&& 31)) = 2 then (bP (f_R_has st 1) (fun r12 st11 => if r12 = s0 then (f_R_takesBranch_112 st11 1) else (f_R_takesBranch_112 st11 0))) else (bP (f_R_has st 2) (fun r15 st14 => if r15 = s0 then (f_R_takesBranch_112 st14 1) else (f_R_takesBranch_112 st14 0)))))
def f_R_takesBranch (st : CS) (v1 : Int32) : Int32 × CS := if (v1 &&& 1) = 1 then (f_R_takesBranch_12 st v1 1) else (f_R_takesBranch_12 st v1 0)
abbrev rm_R_takesBranch : Room := { frames := 1, cells := 0, slots := 0, locals := 21 }
set_option maxHeartbeats 4000000 in
set_option maxRecDepth 100000 in
theorem k_R_takesBranch (l : Launch) (g : CG) (rt : MS) (o : Nat → Int64) (st : CS) (v1 : Int32) : KZ l g y_R_takesBranch (Cond.code y_R_takesBranch c_R_takesBranch 3 (some .boolean) :: ALL) rm_R_takesBranch [.ref (g.regs), .int v1] (wC g rt o) st (f_R_takesBranch st v1) := by
  refine KZ.ofW (by decide) (Nat.le_of_ble_eq_true rfl) ?_
  intro p e s m args below meth c A Q ls Rv X he RET hC hl
  obtain ⟨hx, hb⟩ := FX_xb X
  have hl : lv_has ls 3 [(0, .ref (g.regs)), (1, .int v1)] := hl
  have B112 : ∀ (H : Heap) (locs : List Loc) (ls : Array Slot) (st : CS) (s0 : Int32) (hs0 : s0 = 0 ∨ s0 = 1), HC g A s (wC g rt o st) H locs → lv_has ls 3 [] → f_R_takesBranch_112 st s0 = Rv → W p l e rm_R_takesBranch s m args below meth c H locs 0 0 Q (F0 m 112 ls [.int s0]) := by
    intro H locs ls st s0 hs0 hC hl he
    unfold f_R_takesBranch_112 at he
    exact RET (pc := 112) d_R_takesBranch_112 hs0 hC he
  have B12 : ∀ (H : Heap) (locs : List Loc) (ls : Array Slot) (st : CS) (v1 : Int32) (s0 : Int32) (hs0 : s0 = 0 ∨ s0 = 1), HC g A s (wC g rt o st) H locs → lv_has ls 3 [(0, .ref (g.regs)), (1, .int v1)] → f_R_takesBranch_12 st v1 s0 = Rv → W p l e rm_R_takesBranch s m args below meth c H locs 0 0 Q (F0 m 12 ls [.int s0]) := by
    intro H locs ls st v1 s0 hs0 hC hl he
    unfold f_R_takesBranch_12 at he
    refine lv_istore_n (pc := 12) (nL := 3) (lv' := [(2, .int s0), (0, .ref (g.regs)), (1, .int v1)]) hx hb d_R_takesBranch_12 rfl hl (by decide) rfl (fun ls hl => ?_)
    refine lv_iload_n (pc := 13) hx hb d_R_takesBranch_13 rfl (lv_at hl 2 rfl) ?_
    refine lv_bipush (pc := 14) (v := 16) hx hb d_R_takesBranch_14 (by decide) ?_
    refine lv_isub (pc := 16) hx hb d_R_takesBranch_16 ?_
    refine lv_iconst (pc := 17) (v := 1) hx hb d_R_takesBranch_17 (by decide) ?_
    refine lv_ishr (pc := 18) hx hb d_R_takesBranch_18 ?_
    by_cases h2 : ((v1 - 16) >>> (1 &&& 31)) = 0
    · replace he := if_go he h2
      refine lv_tableIn (pc := 19) (tgt := 44) hx hb d_R_takesBranch_19 (by rw [h2]; decide) (by rw [h2]; decide) (by rw [h2]; rfl) (by decide) ?_
      refine lv_aload_n (pc := 44) hx hb d_R_takesBranch_44 rfl (lv_at hl 1 rfl) ?_
      refine lv_sipush (pc := 45) (v := 128) hx hb d_R_takesBranch_45 (by decide) ?_
      refine callZO (q0 := 3) (pc := 48) (As := [.int 128]) (rest := []) X (k_R_has l g rt o st 128) hC (NR_R_has_35 X rfl rfl ⟨by decide, by decide⟩) rfl rfl rfl hl.1 (Nat.le_of_ble_eq_true rfl) rfl d_R_takesBranch_48 ⟨Nat.zero_le _, Nat.zero_le _⟩ (fun r4 st3 H locs est3 br4 hC => ?_)
      replace he := bP_go he est3
      refine lv_iload_n (pc := 51) hx hb d_R_takesBranch_51 rfl (lv_at hl 0 rfl) ?_
      refine lv_icmp_ne (pc := 52) (tgt := 59) hx hb d_R_takesBranch_52 (by decide) (fun h5 => ?_) (fun h5 => ?_)
      · replace he := if_no he h5
        refine lv_iconst (pc := 59) (v := 0) hx hb d_R_takesBranch_59 (by decide) ?_
        refine lv_goto (pc := 60) (tgt := 112) hx hb d_R_takesBranch_60 (by decide) ?_
        exact B112 _ _ _ st3 0 b0 hC (lv_sub hl [] rfl) he
      replace he := if_go he h5
      refine lv_iconst (pc := 55) (v := 1) hx hb d_R_takesBranch_55 (by decide) ?_
      refine lv_goto (pc := 56) (tgt := 112) hx hb d_R_takesBranch_56 (by decide) ?_
      exact B112 _ _ _ st3 1 b1 hC (lv_sub hl [] rfl) he
    replace he := if_no he h2
    by_cases h6 : ((v1 - 16) >>> (1 &&& 31)) = 1
    · replace he := if_go he h6
      refine lv_tableIn (pc := 19) (tgt := 63) hx hb d_R_takesBranch_19 (by rw [h6]; decide) (by rw [h6]; decide) (by rw [h6]; rfl) (by decide) ?_
      refine lv_aload_n (pc := 63) hx hb d_R_takesBranch_63 rfl (lv_at hl 1 rfl) ?_
      refine lv_bipush (pc := 64) (v := 64) hx hb d_R_takesBranch_64 (by decide) ?_
      refine callZO (q0 := 3) (pc := 66) (As := [.int 64]) (rest := []) X (k_R_has l g rt o st 64) hC (NR_R_has_35 X rfl rfl ⟨by decide, by decide⟩) rfl rfl rfl hl.1 (Nat.le_of_ble_eq_true rfl) rfl d_R_takesBranch_66 ⟨Nat.zero_le _, Nat.zero_le _⟩ (fun r8 st7 H locs est7 br8 hC => ?_)
      replace he := bP_go he est7
      refine lv_iload_n (pc := 69) hx hb d_R_takesBranch_69 rfl (lv_at hl 0 rfl) ?_
      refine lv_icmp_ne (pc := 70) (tgt := 77) hx hb d_R_takesBranch_70 (by decide) (fun h9 => ?_) (fun h9 => ?_)
      · replace he := if_no he h9
        refine lv_iconst (pc := 77) (v := 0) hx hb d_R_takesBranch_77 (by decide) ?_
        refine lv_goto (pc := 78) (tgt := 112) hx hb d_R_takesBranch_78 (by decide) ?_
        exact B112 _ _ _ st7 0 b0 hC (lv_sub hl [] rfl) he
      replace he := if_go he h9
      refine lv_iconst (pc := 73) (v := 1) hx hb d_R_takesBranch_73 (by decide) ?_
      refine lv_goto (pc := 74) (tgt := 112) hx hb d_R_takesBranch_74 (by decide) ?_
      exact B112 _ _ _ st7 1 b1 hC (lv_sub hl [] rfl) he
    replace he := if_no he h6
    by_cases h10 : ((v1 - 16) >>> (1 &&& 31)) = 2
    · replace he := if_go he h10
      refine lv_tableIn (pc := 19) (tgt := 81) hx hb d_R_takesBranch_19 (by rw [h10]; decide) (by rw [h10]; decide) (by rw [h10]; rfl) (by decide) ?_
      refine lv_aload_n (pc := 81) hx hb d_R_takesBranch_81 rfl (lv_at hl 1 rfl) ?_
      refine lv_iconst (pc := 82) (v := 1) hx hb d_R_takesBranch_82 (by decide) ?_
      refine callZO (q0 := 3) (pc := 83) (As := [.int 1]) (rest := []) X (k_R_has l g rt o st 1) hC (NR_R_has_35 X rfl rfl ⟨by decide, by decide⟩) rfl rfl rfl hl.1 (Nat.le_of_ble_eq_true rfl) rfl d_R_takesBranch_83 ⟨Nat.zero_le _, Nat.zero_le _⟩ (fun r12 st11 H locs est11 br12 hC => ?_)
      replace he := bP_go he est11
      refine lv_iload_n (pc := 86) hx hb d_R_takesBranch_86 rfl (lv_at hl 0 rfl) ?_
      refine lv_icmp_ne (pc := 87) (tgt := 94) hx hb d_R_takesBranch_87 (by decide) (fun h13 => ?_) (fun h13 => ?_)
      · replace he := if_no he h13
        refine lv_iconst (pc := 94) (v := 0) hx hb d_R_takesBranch_94 (by decide) ?_
        refine lv_goto (pc := 95) (tgt := 112) hx hb d_R_takesBranch_95 (by decide) ?_
        exact B112 _ _ _ st11 0 b0 hC (lv_sub hl [] rfl) he
      replace he := if_go he h13
      refine lv_iconst (pc := 90) (v := 1) hx hb d_R_takesBranch_90 (by decide) ?_
      refine lv_goto (pc := 91) (tgt := 112) hx hb d_R_takesBranch_91 (by decide) ?_
      exact B112 _ _ _ st11 1 b1 hC (lv_sub hl [] rfl) he
    replace he := if_no he h10
    refine lv_tableOut (pc := 19) (tgt := 98) hx hb d_R_takesBranch_19 (by have nh2 := lv_neT (a := 0) h2 (by decide); have nh6 := lv_neT (a := 1) h6 (by decide); have nh10 := lv_neT (a := 2) h10 (by decide); omega) (by decide) ?_
    refine lv_aload_n (pc := 98) hx hb d_R_takesBranch_98 rfl (lv_at hl 1 rfl) ?_
    refine lv_iconst (pc := 99) (v := 2) hx hb d_R_takesBranch_99 (by decide) ?_
    refine callZO (q0 := 3) (pc := 100) (As := [.int 2]) (rest := []) X (k_R_has l g rt o st 2) hC (NR_R_has_35 X rfl rfl ⟨by decide, by decide⟩) rfl rfl rfl hl.1 (Nat.le_of_ble_eq_true rfl) rfl d_R_takesBranch_100 ⟨Nat.zero_le _, Nat.zero_le _⟩ (fun r15 st14 H locs est14 br15 hC => ?_)
    replace he := bP_go he est14
    refine lv_iload_n (pc := 103) hx hb d_R_takesBranch_103 rfl (lv_at hl 0 rfl) ?_
    refine lv_icmp_ne (pc := 104) (tgt := 111) hx hb d_R_takesBranch_104 (by decide) (fun h16 => ?_) (fun h16 => ?_)
    · replace he := if_no he h16
      refine lv_iconst (pc := 111) (v := 0) hx hb d_R_takesBranch_111 (by decide) ?_
      exact B112 _ _ _ st14 0 b0 hC (lv_sub hl [] rfl) he
    replace he := if_go he h16
    refine lv_iconst (pc := 107) (v := 1) hx hb d_R_takesBranch_107 (by decide) ?_
    refine lv_goto (pc := 108) (tgt := 112) hx hb d_R_takesBranch_108 (by decide) ?_
    exact B112 _ _ _ st14 1 b1 hC (lv_sub hl [] rfl) he
  unfold f_R_takesBranch at he
  refine lv_iload_n (pc := 0) hx hb d_R_takesBranch_0 rfl (lv_at hl 1 rfl) ?_
  refine lv_iconst (pc := 1) (v := 1) hx hb d_R_takesBranch_1 (by decide) ?_
  refine lv_iand (pc := 2) hx hb d_R_takesBranch_2 ?_
  refine lv_iconst (pc := 3) (v := 1) hx hb d_R_takesBranch_3 (by decide) ?_
  refine lv_icmp_ne (pc := 4) (tgt := 11) hx hb d_R_takesBranch_4 (by decide) (fun h1 => ?_) (fun h1 => ?_)
  · replace he := if_no he h1
    refine lv_iconst (pc := 11) (v := 0) hx hb d_R_takesBranch_11 (by decide) ?_
    exact B12 _ _ _ st v1 0 b0 hC (lv_sub hl [0, 1] rfl) he
  replace he := if_go he h1
  refine lv_iconst (pc := 7) (v := 1) hx hb d_R_takesBranch_7 (by decide) ?_
  refine lv_goto (pc := 8) (tgt := 12) hx hb d_R_takesBranch_8 (by decide) ?_
  exact B12 _ _ _ st v1 1 b1 hC (lv_sub hl [0, 1] rfl) he
def f_R_operateAlone_239 (st : CS)  : CS := st
def f_R_operateAlone (st : CS) (v1 : Int32) : CS := if v1 = 1 then (bS (f_R_loadX st ((st.1 1) + 1)) (fun st2 => f_R_operateAlone_239 st2 )) else (if v1 = 2 then (bS (f_R_loadX st ((st.1 1) - 1)) (fun st4 => f_R_operateAlone_239 st4 )) else (if v1 = 3 then (bS (f_R_loadY st ((st.1 2) + 1)) (fun st6 => f_R_operateAlone_239 st6 )) else (if v1 = 4 then (bS (f_R_loadY st ((st.1 2) - 1)) (fun st8 => f_R_operateAlone_239 st8 )) else (if v1 = 5 then (bS (f_R_loadX st (st.1 0)) (fun st10 => f_R_operateAlone_239 st10 )) else (if v1 = 6 then (bS (f_R_loadA st (st.1 1)) (fun st12 => f_R_operateAlone_239 st12 )) else (if v1 = 7 then (bS (f_R_loadY st (st.1 0)) (fun st14 => f_R_operateAlone_239 st14 )) else (if v1 = 8 then (bS (f_R_loadA st (st.1 2)) (fun st16 => f_R_operateAlone_239 st16 )) else (if v1 = 9 then (bS (f_R_put st 1 0) (fun st18 => f_R_operateAlone_239 st18 )) else (if v1 = 10 then (bS (f_R_put st 1 1) (fun st20 => f_R_operateAlone_239 st20 )) else (if v1 = 11 then (bS (f_R_put st 4 0) (fun st22 => f_R_operateAlone_239 st22 )) else (if v1 = 12 then (bS (f_R_put st 4 1) (fun st24 => f_R_operateAlone_239 st24 )) else (if v1 = 13 then (bS (f_R_put st 8 0) (fun st26 => f_R_operateAlone_239 st26 )) else (if v1 = 14 then (bS (f_R_put st 8 1) (fun st28 => f_R_operateAlone_239 st28 )) else (if v1 = 15 then (bS (sV st 3 (st.1 1)) (fun st30 => f_R_operateAlone_239 st30 )) else (f_R_operateAlone_239 st )))))))))))))))
abbrev rm_R_operateAlone : Room := { frames := 2, cells := 0, slots := 0, locals := 43 }
set_option maxHeartbeats 4000000 in
set_option maxRecDepth 100000 in
theorem k_R_operateAlone (l : Launch) (g : CG) (rt : MS) (o : Nat → Int64) (st : CS) (v1 : Int32) : KV l g y_R_operateAlone (Cond.code y_R_operateAlone c_R_operateAlone 2 none :: ALL) rm_R_operateAlone [.ref (g.regs), .int v1] (wC g rt o) st (f_R_operateAlone st v1) := by
  refine KV.ofW (by decide) (Nat.le_of_ble_eq_true rfl) ?_
  intro p e s m args below meth c A Q ls Rv X he RET hC hl
  obtain ⟨hx, hb⟩ := FX_xb X
  have hl : lv_has ls 2 [(0, .ref (g.regs)), (1, .int v1)] := hl
  have B239 : ∀ (H : Heap) (locs : List Loc) (ls : Array Slot) (st : CS) , HC g A s (wC g rt o st) H locs → lv_has ls 2 [] → f_R_operateAlone_239 st  = Rv → W p l e rm_R_operateAlone s m args below meth c H locs 0 0 Q (F0 m 239 ls []) := by
    intro H locs ls st   hC hl he
    unfold f_R_operateAlone_239 at he
    exact RET (pc := 239) d_R_operateAlone_239 hC he
  unfold f_R_operateAlone at he
  refine lv_iload_n (pc := 0) hx hb d_R_operateAlone_0 rfl (lv_at hl 1 rfl) ?_
  by_cases h1 : v1 = 1
  · replace he := if_go he h1
    refine lv_tableIn (pc := 1) (tgt := 76) hx hb d_R_operateAlone_1 (by rw [h1]; decide) (by rw [h1]; decide) (by rw [h1]; rfl) (by decide) ?_
    refine lv_aload_n (pc := 76) hx hb d_R_operateAlone_76 rfl (lv_at hl 0 rfl) ?_
    refine lv_aload_n (pc := 77) hx hb d_R_operateAlone_77 rfl (lv_at hl 0 rfl) ?_
    refine GR_x (pc := 78) X hC d_R_operateAlone_78 ?_
    refine lv_iconst (pc := 81) (v := 1) hx hb d_R_operateAlone_81 (by decide) ?_
    refine lv_iadd (pc := 82) hx hb d_R_operateAlone_82 ?_
    refine callVO (q0 := 3) (pc := 83) (As := [.int ((st.1 1) + 1)]) (rest := []) X (k_R_loadX l g rt o st ((st.1 1) + 1)) hC (NR_R_loadX_51 X rfl rfl ⟨by decide, by decide⟩) rfl rfl rfl hl.1 (Nat.le_of_ble_eq_true rfl) rfl d_R_operateAlone_83 ⟨Nat.zero_le _, Nat.zero_le _⟩ (fun st2 H locs est2 hC => ?_)
    replace he := bS_go he est2
    refine lv_goto (pc := 86) (tgt := 239) hx hb d_R_operateAlone_86 (by decide) ?_
    exact B239 _ _ _ st2   hC (lv_sub hl [] rfl) he
  replace he := if_no he h1
  by_cases h3 : v1 = 2
  · replace he := if_go he h3
    refine lv_tableIn (pc := 1) (tgt := 89) hx hb d_R_operateAlone_1 (by rw [h3]; decide) (by rw [h3]; decide) (by rw [h3]; rfl) (by decide) ?_
    refine lv_aload_n (pc := 89) hx hb d_R_operateAlone_89 rfl (lv_at hl 0 rfl) ?_
    refine lv_aload_n (pc := 90) hx hb d_R_operateAlone_90 rfl (lv_at hl 0 rfl) ?_
    refine GR_x (pc := 91) X hC d_R_operateAlone_91 ?_
    refine lv_iconst (pc := 94) (v := 1) hx hb d_R_operateAlone_94 (by decide) ?_
    refine lv_isub (pc := 95) hx hb d_R_operateAlone_95 ?_
    refine callVO (q0 := 3) (pc := 96) (As := [.int ((st.1 1) - 1)]) (rest := []) X (k_R_loadX l g rt o st ((st.1 1) - 1)) hC (NR_R_loadX_51 X rfl rfl ⟨by decide, by decide⟩) rfl rfl rfl hl.1 (Nat.le_of_ble_eq_true rfl) rfl d_R_operateAlone_96 ⟨Nat.zero_le _, Nat.zero_le _⟩ (fun st4 H locs est4 hC => ?_)
    replace he := bS_go he est4
    refine lv_goto (pc := 99) (tgt := 239) hx hb d_R_operateAlone_99 (by decide) ?_
    exact B239 _ _ _ st4   hC (lv_sub hl [] rfl) he
  replace he := if_no he h3
  by_cases h5 : v1 = 3
  · replace he := if_go he h5
    refine lv_tableIn (pc := 1) (tgt := 102) hx hb d_R_operateAlone_1 (by rw [h5]; decide) (by rw [h5]; decide) (by rw [h5]; rfl) (by decide) ?_
    refine lv_aload_n (pc := 102) hx hb d_R_operateAlone_102 rfl (lv_at hl 0 rfl) ?_
    refine lv_aload_n (pc := 103) hx hb d_R_operateAlone_103 rfl (lv_at hl 0 rfl) ?_
    refine GR_y (pc := 104) X hC d_R_operateAlone_104 ?_
    refine lv_iconst (pc := 107) (v := 1) hx hb d_R_operateAlone_107 (by decide) ?_
    refine lv_iadd (pc := 108) hx hb d_R_operateAlone_108 ?_
    refine callVO (q0 := 3) (pc := 109) (As := [.int ((st.1 2) + 1)]) (rest := []) X (k_R_loadY l g rt o st ((st.1 2) + 1)) hC (NR_R_loadY_54 X rfl rfl ⟨by decide, by decide⟩) rfl rfl rfl hl.1 (Nat.le_of_ble_eq_true rfl) rfl d_R_operateAlone_109 ⟨Nat.zero_le _, Nat.zero_le _⟩ (fun st6 H locs est6 hC => ?_)
    replace he := bS_go he est6
    refine lv_goto (pc := 112) (tgt := 239) hx hb d_R_operateAlone_112 (by decide) ?_
    exact B239 _ _ _ st6   hC (lv_sub hl [] rfl) he
  replace he := if_no he h5
  by_cases h7 : v1 = 4
  · replace he := if_go he h7
    refine lv_tableIn (pc := 1) (tgt := 115) hx hb d_R_operateAlone_1 (by rw [h7]; decide) (by rw [h7]; decide) (by rw [h7]; rfl) (by decide) ?_
    refine lv_aload_n (pc := 115) hx hb d_R_operateAlone_115 rfl (lv_at hl 0 rfl) ?_
    refine lv_aload_n (pc := 116) hx hb d_R_operateAlone_116 rfl (lv_at hl 0 rfl) ?_
    refine GR_y (pc := 117) X hC d_R_operateAlone_117 ?_
    refine lv_iconst (pc := 120) (v := 1) hx hb d_R_operateAlone_120 (by decide) ?_
    refine lv_isub (pc := 121) hx hb d_R_operateAlone_121 ?_
    refine callVO (q0 := 3) (pc := 122) (As := [.int ((st.1 2) - 1)]) (rest := []) X (k_R_loadY l g rt o st ((st.1 2) - 1)) hC (NR_R_loadY_54 X rfl rfl ⟨by decide, by decide⟩) rfl rfl rfl hl.1 (Nat.le_of_ble_eq_true rfl) rfl d_R_operateAlone_122 ⟨Nat.zero_le _, Nat.zero_le _⟩ (fun st8 H locs est8 hC => ?_)
    replace he := bS_go he est8
    refine lv_goto (pc := 125) (tgt := 239) hx hb d_R_operateAlone_125 (by decide) ?_
    exact B239 _ _ _ st8   hC (lv_sub hl [] rfl) he
  replace he := if_no he h7
  by_cases h9 : v1 = 5
  · replace he := if_go he h9
    refine lv_tableIn (pc := 1) (tgt := 128) hx hb d_R_operateAlone_1 (by rw [h9]; decide) (by rw [h9]; decide) (by rw [h9]; rfl) (by decide) ?_
    refine lv_aload_n (pc := 128) hx hb d_R_operateAlone_128 rfl (lv_at hl 0 rfl) ?_
    refine lv_aload_n (pc := 129) hx hb d_R_operateAlone_129 rfl (lv_at hl 0 rfl) ?_
    refine GR_a (pc := 130) X hC d_R_operateAlone_130 ?_
    refine callVO (q0 := 3) (pc := 133) (As := [.int (st.1 0)]) (rest := []) X (k_R_loadX l g rt o st (st.1 0)) hC (NR_R_loadX_51 X rfl rfl ⟨by decide, by decide⟩) rfl rfl rfl hl.1 (Nat.le_of_ble_eq_true rfl) rfl d_R_operateAlone_133 ⟨Nat.zero_le _, Nat.zero_le _⟩ (fun st10 H locs est10 hC => ?_)
    replace he := bS_go he est10
    refine lv_goto (pc := 136) (tgt := 239) hx hb d_R_operateAlone_136 (by decide) ?_
    exact B239 _ _ _ st10   hC (lv_sub hl [] rfl) he
  replace he := if_no he h9
  by_cases h11 : v1 = 6
  · replace he := if_go he h11
    refine lv_tableIn (pc := 1) (tgt := 139) hx hb d_R_operateAlone_1 (by rw [h11]; decide) (by rw [h11]; decide) (by rw [h11]; rfl) (by decide) ?_
    refine lv_aload_n (pc := 139) hx hb d_R_operateAlone_139 rfl (lv_at hl 0 rfl) ?_
    refine lv_aload_n (pc := 140) hx hb d_R_operateAlone_140 rfl (lv_at hl 0 rfl) ?_
    refine GR_x (pc := 141) X hC d_R_operateAlone_141 ?_
    refine callVO (q0 := 3) (pc := 144) (As := [.int (st.1 1)]) (rest := []) X (k_R_loadA l g rt o st (st.1 1)) hC (NR_R_loadA_39 X rfl rfl ⟨by decide, by decide⟩) rfl rfl rfl hl.1 (Nat.le_of_ble_eq_true rfl) rfl d_R_operateAlone_144 ⟨Nat.zero_le _, Nat.zero_le _⟩ (fun st12 H locs est12 hC => ?_)
    replace he := bS_go he est12
    refine lv_goto (pc := 147) (tgt := 239) hx hb d_R_operateAlone_147 (by decide) ?_
    exact B239 _ _ _ st12   hC (lv_sub hl [] rfl) he
  replace he := if_no he h11
  by_cases h13 : v1 = 7
  · replace he := if_go he h13
    refine lv_tableIn (pc := 1) (tgt := 150) hx hb d_R_operateAlone_1 (by rw [h13]; decide) (by rw [h13]; decide) (by rw [h13]; rfl) (by decide) ?_
    refine lv_aload_n (pc := 150) hx hb d_R_operateAlone_150 rfl (lv_at hl 0 rfl) ?_
    refine lv_aload_n (pc := 151) hx hb d_R_operateAlone_151 rfl (lv_at hl 0 rfl) ?_
    refine GR_a (pc := 152) X hC d_R_operateAlone_152 ?_
    refine callVO (q0 := 3) (pc := 155) (As := [.int (st.1 0)]) (rest := []) X (k_R_loadY l g rt o st (st.1 0)) hC (NR_R_loadY_54 X rfl rfl ⟨by decide, by decide⟩) rfl rfl rfl hl.1 (Nat.le_of_ble_eq_true rfl) rfl d_R_operateAlone_155 ⟨Nat.zero_le _, Nat.zero_le _⟩ (fun st14 H locs est14 hC => ?_)
    replace he := bS_go he est14
    refine lv_goto (pc := 158) (tgt := 239) hx hb d_R_operateAlone_158 (by decide) ?_
    exact B239 _ _ _ st14   hC (lv_sub hl [] rfl) he
  replace he := if_no he h13
  by_cases h15 : v1 = 8
  · replace he := if_go he h15
    refine lv_tableIn (pc := 1) (tgt := 161) hx hb d_R_operateAlone_1 (by rw [h15]; decide) (by rw [h15]; decide) (by rw [h15]; rfl) (by decide) ?_
    refine lv_aload_n (pc := 161) hx hb d_R_operateAlone_161 rfl (lv_at hl 0 rfl) ?_
    refine lv_aload_n (pc := 162) hx hb d_R_operateAlone_162 rfl (lv_at hl 0 rfl) ?_
    refine GR_y (pc := 163) X hC d_R_operateAlone_163 ?_
    refine callVO (q0 := 3) (pc := 166) (As := [.int (st.1 2)]) (rest := []) X (k_R_loadA l g rt o st (st.1 2)) hC (NR_R_loadA_39 X rfl rfl ⟨by decide, by decide⟩) rfl rfl rfl hl.1 (Nat.le_of_ble_eq_true rfl) rfl d_R_operateAlone_166 ⟨Nat.zero_le _, Nat.zero_le _⟩ (fun st16 H locs est16 hC => ?_)
    replace he := bS_go he est16
    refine lv_goto (pc := 169) (tgt := 239) hx hb d_R_operateAlone_169 (by decide) ?_
    exact B239 _ _ _ st16   hC (lv_sub hl [] rfl) he
  replace he := if_no he h15
  by_cases h17 : v1 = 9
  · replace he := if_go he h17
    refine lv_tableIn (pc := 1) (tgt := 172) hx hb d_R_operateAlone_1 (by rw [h17]; decide) (by rw [h17]; decide) (by rw [h17]; rfl) (by decide) ?_
    refine lv_aload_n (pc := 172) hx hb d_R_operateAlone_172 rfl (lv_at hl 0 rfl) ?_
    refine lv_iconst (pc := 173) (v := 1) hx hb d_R_operateAlone_173 (by decide) ?_
    refine lv_iconst (pc := 174) (v := 0) hx hb d_R_operateAlone_174 (by decide) ?_
    refine callVO (q0 := 3) (pc := 175) (As := [.int 1, .int 0]) (rest := []) X (k_R_put l g rt o st 1 0) hC (NR_R_put_57 X rfl rfl ⟨by decide, by decide⟩) rfl rfl rfl hl.1 (Nat.le_of_ble_eq_true rfl) rfl d_R_operateAlone_175 ⟨Nat.zero_le _, Nat.zero_le _⟩ (fun st18 H locs est18 hC => ?_)
    replace he := bS_go he est18
    refine lv_goto (pc := 178) (tgt := 239) hx hb d_R_operateAlone_178 (by decide) ?_
    exact B239 _ _ _ st18   hC (lv_sub hl [] rfl) he
  replace he := if_no he h17
  by_cases h19 : v1 = 10
  · replace he := if_go he h19
    refine lv_tableIn (pc := 1) (tgt := 181) hx hb d_R_operateAlone_1 (by rw [h19]; decide) (by rw [h19]; decide) (by rw [h19]; rfl) (by decide) ?_
    refine lv_aload_n (pc := 181) hx hb d_R_operateAlone_181 rfl (lv_at hl 0 rfl) ?_
    refine lv_iconst (pc := 182) (v := 1) hx hb d_R_operateAlone_182 (by decide) ?_
    refine lv_iconst (pc := 183) (v := 1) hx hb d_R_operateAlone_183 (by decide) ?_
    refine callVO (q0 := 3) (pc := 184) (As := [.int 1, .int 1]) (rest := []) X (k_R_put l g rt o st 1 1) hC (NR_R_put_57 X rfl rfl ⟨by decide, by decide⟩) rfl rfl rfl hl.1 (Nat.le_of_ble_eq_true rfl) rfl d_R_operateAlone_184 ⟨Nat.zero_le _, Nat.zero_le _⟩ (fun st20 H locs est20 hC => ?_)
    replace he := bS_go he est20
    refine lv_goto (pc := 187) (tgt := 239) hx hb d_R_operateAlone_187 (by decide) ?_
    exact B239 _ _ _ st20   hC (lv_sub hl [] rfl) he
  replace he := if_no he h19
  by_cases h21 : v1 = 11
  · replace he := if_go he h21
    refine lv_tableIn (pc := 1) (tgt := 190) hx hb d_R_operateAlone_1 (by rw [h21]; decide) (by rw [h21]; decide) (by rw [h21]; rfl) (by decide) ?_
    refine lv_aload_n (pc := 190) hx hb d_R_operateAlone_190 rfl (lv_at hl 0 rfl) ?_
    refine lv_iconst (pc := 191) (v := 4) hx hb d_R_operateAlone_191 (by decide) ?_
    refine lv_iconst (pc := 192) (v := 0) hx hb d_R_operateAlone_192 (by decide) ?_
    refine callVO (q0 := 3) (pc := 193) (As := [.int 4, .int 0]) (rest := []) X (k_R_put l g rt o st 4 0) hC (NR_R_put_57 X rfl rfl ⟨by decide, by decide⟩) rfl rfl rfl hl.1 (Nat.le_of_ble_eq_true rfl) rfl d_R_operateAlone_193 ⟨Nat.zero_le _, Nat.zero_le _⟩ (fun st22 H locs est22 hC => ?_)
    replace he := bS_go he est22
    refine lv_goto (pc := 196) (tgt := 239) hx hb d_R_operateAlone_196 (by decide) ?_
    exact B239 _ _ _ st22   hC (lv_sub hl [] rfl) he
  replace he := if_no he h21
  by_cases h23 : v1 = 12
  · replace he := if_go he h23
    refine lv_tableIn (pc := 1) (tgt := 199) hx hb d_R_operateAlone_1 (by rw [h23]; decide) (by rw [h23]; decide) (by rw [h23]; rfl) (by decide) ?_
    refine lv_aload_n (pc := 199) hx hb d_R_operateAlone_199 rfl (lv_at hl 0 rfl) ?_
    refine lv_iconst (pc := 200) (v := 4) hx hb d_R_operateAlone_200 (by decide) ?_
    refine lv_iconst (pc := 201) (v := 1) hx hb d_R_operateAlone_201 (by decide) ?_
    refine callVO (q0 := 3) (pc := 202) (As := [.int 4, .int 1]) (rest := []) X (k_R_put l g rt o st 4 1) hC (NR_R_put_57 X rfl rfl ⟨by decide, by decide⟩) rfl rfl rfl hl.1 (Nat.le_of_ble_eq_true rfl) rfl d_R_operateAlone_202 ⟨Nat.zero_le _, Nat.zero_le _⟩ (fun st24 H locs est24 hC => ?_)
    replace he := bS_go he est24
    refine lv_goto (pc := 205) (tgt := 239) hx hb d_R_operateAlone_205 (by decide) ?_
    exact B239 _ _ _ st24   hC (lv_sub hl [] rfl) he
  replace he := if_no he h23
  by_cases h25 : v1 = 13
  · replace he := if_go he h25
    refine lv_tableIn (pc := 1) (tgt := 208) hx hb d_R_operateAlone_1 (by rw [h25]; decide) (by rw [h25]; decide) (by rw [h25]; rfl) (by decide) ?_
    refine lv_aload_n (pc := 208) hx hb d_R_operateAlone_208 rfl (lv_at hl 0 rfl) ?_
    refine lv_bipush (pc := 209) (v := 8) hx hb d_R_operateAlone_209 (by decide) ?_
    refine lv_iconst (pc := 211) (v := 0) hx hb d_R_operateAlone_211 (by decide) ?_
    refine callVO (q0 := 3) (pc := 212) (As := [.int 8, .int 0]) (rest := []) X (k_R_put l g rt o st 8 0) hC (NR_R_put_57 X rfl rfl ⟨by decide, by decide⟩) rfl rfl rfl hl.1 (Nat.le_of_ble_eq_true rfl) rfl d_R_operateAlone_212 ⟨Nat.zero_le _, Nat.zero_le _⟩ (fun st26 H locs est26 hC => ?_)
    replace he := bS_go he est26
    refine lv_goto (pc := 215) (tgt := 239) hx hb d_R_operateAlone_215 (by decide) ?_
    exact B239 _ _ _ st26   hC (lv_sub hl [] rfl) he
  replace he := if_no he h25
  by_cases h27 : v1 = 14
  · replace he := if_go he h27
    refine lv_tableIn (pc := 1) (tgt := 218) hx hb d_R_operateAlone_1 (by rw [h27]; decide) (by rw [h27]; decide) (by rw [h27]; rfl) (by decide) ?_
    refine lv_aload_n (pc := 218) hx hb d_R_operateAlone_218 rfl (lv_at hl 0 rfl) ?_
    refine lv_bipush (pc := 219) (v := 8) hx hb d_R_operateAlone_219 (by decide) ?_
    refine lv_iconst (pc := 221) (v := 1) hx hb d_R_operateAlone_221 (by decide) ?_
    refine callVO (q0 := 3) (pc := 222) (As := [.int 8, .int 1]) (rest := []) X (k_R_put l g rt o st 8 1) hC (NR_R_put_57 X rfl rfl ⟨by decide, by decide⟩) rfl rfl rfl hl.1 (Nat.le_of_ble_eq_true rfl) rfl d_R_operateAlone_222 ⟨Nat.zero_le _, Nat.zero_le _⟩ (fun st28 H locs est28 hC => ?_)
    replace he := bS_go he est28
    refine lv_goto (pc := 225) (tgt := 239) hx hb d_R_operateAlone_225 (by decide) ?_
    exact B239 _ _ _ st28   hC (lv_sub hl [] rfl) he
  replace he := if_no he h27
  by_cases h29 : v1 = 15
  · replace he := if_go he h29
    refine lv_tableIn (pc := 1) (tgt := 228) hx hb d_R_operateAlone_1 (by rw [h29]; decide) (by rw [h29]; decide) (by rw [h29]; rfl) (by decide) ?_
    refine lv_aload_n (pc := 228) hx hb d_R_operateAlone_228 rfl (lv_at hl 0 rfl) ?_
    refine lv_aload_n (pc := 229) hx hb d_R_operateAlone_229 rfl (lv_at hl 0 rfl) ?_
    refine GR_x (pc := 230) X hC d_R_operateAlone_230 ?_
    refine PR_s (pc := 233) X hC d_R_operateAlone_233 (fun st30 H locs est30 hC => ?_)
    replace he := bS_go he est30
    refine lv_goto (pc := 236) (tgt := 239) hx hb d_R_operateAlone_236 (by decide) ?_
    exact B239 _ _ _ st30   hC (lv_sub hl [] rfl) he
  replace he := if_no he h29
  refine lv_tableOut (pc := 1) (tgt := 239) hx hb d_R_operateAlone_1 (by have nh1 := lv_neT (a := 1) h1 (by decide); have nh3 := lv_neT (a := 2) h3 (by decide); have nh5 := lv_neT (a := 3) h5 (by decide); have nh7 := lv_neT (a := 4) h7 (by decide); have nh9 := lv_neT (a := 5) h9 (by decide); have nh11 := lv_neT (a := 6) h11 (by decide); have nh13 := lv_neT (a := 7) h13 (by decide); have nh15 := lv_neT (a := 8) h15 (by decide); have nh17 := lv_neT (a := 9) h17 (by decide); have nh19 := lv_neT (a := 10) h19 (by decide); have nh21 := lv_neT (a := 11) h21 (by decide); have nh23 := lv_neT (a := 12) h23 (by decide); have nh25 := lv_neT (a := 13) h25 (by decide); have nh27 := lv_neT (a := 14) h27 (by decide); have nh29 := lv_neT (a := 15) h29 (by decide); omega) (by decide) ?_
  exact B239 _ _ _ st   hC (lv_sub hl [] rfl) he
def f_R_takeFlags (st : CS) (v1 : Int32) : CS := bS (sV st 5 (v1 &&& 207)) (fun st1 => st1)
abbrev rm_R_takeFlags : Room := { frames := 0, cells := 0, slots := 0, locals := 0 }
set_option maxHeartbeats 4000000 in
set_option maxRecDepth 100000 in
theorem k_R_takeFlags (l : Launch) (g : CG) (rt : MS) (o : Nat → Int64) (st : CS) (v1 : Int32) : KV l g y_R_takeFlags (Cond.code y_R_takeFlags c_R_takeFlags 2 none :: ALL) rm_R_takeFlags [.ref (g.regs), .int v1] (wC g rt o) st (f_R_takeFlags st v1) := by
  refine KV.ofW (by decide) (Nat.le_of_ble_eq_true rfl) ?_
  intro p e s m args below meth c A Q ls Rv X he RET hC hl
  obtain ⟨hx, hb⟩ := FX_xb X
  have hl : lv_has ls 2 [(0, .ref (g.regs)), (1, .int v1)] := hl
  unfold f_R_takeFlags at he
  refine lv_aload_n (pc := 0) hx hb d_R_takeFlags_0 rfl (lv_at hl 0 rfl) ?_
  refine lv_iload_n (pc := 1) hx hb d_R_takeFlags_1 rfl (lv_at hl 1 rfl) ?_
  refine lv_sipush (pc := 2) (v := 207) hx hb d_R_takeFlags_2 (by decide) ?_
  refine lv_iand (pc := 5) hx hb d_R_takeFlags_5 ?_
  refine PR_flags (pc := 6) X hC d_R_takeFlags_6 (fun st1 H locs est1 hC => ?_)
  replace he := bS_go he est1
  exact RET (pc := 9) d_R_takeFlags_9 hC he
end
section
/-! rows of fields, constants and callees (printed by my own program) -/
section RW
variable {p : Program} {l : Launch} {e : Env} {R : Room} {s : State} {m : MethodId} {args : Array Value} {below : List Frame} {meth : Method} {c : Code} {H : Heap} {locs : List Loc} {cells slots : Nat} {Q : State → Prop}
variable {cc : ByteArray} {pc nL : Nat} {ls : Array Slot} {rest : List Value} {g : CG} {A : Nat → Prop} {st cs : CS} {rt : MS} {o : Nat → Int64} {ws : va_W}
theorem GCR_a (X : FX p m c cc nL s args "ClockedChip" g A) (hC : HC g A s (wC g rt o st) H locs) (hdg : decode cc pc = .ok (.getfield 74, 3)) (kk : W p l e R s m args below meth c H locs cells slots Q (F0 m (pc + 3) ls (.int (st.1 0) :: rest))) : W p l e R s m args below meth c H locs cells slots Q (F0 m pc ls (.ref g.regs :: rest)) :=
  va_getN (D := g.1) (ci := 1) (C := "ClockedChip$Registers") (T := TR) (N := 6) X.1.1 X.1.2.1 X.1.2.2.2.2 in_R X.1.2.2.2.1 X.2.1 hC.1 3 rfl rfl 0 (by decide) (va_Nw.use rfl (X.2.2.1.2.2.2.2.2.2 _ (List.mem_append_left _ (List.mem_of_getElem? (i := 28) rfl)) rfl)) (fun _ h9 => h9) rfl hdg kk
theorem GCR_pc (X : FX p m c cc nL s args "ClockedChip" g A) (hC : HC g A s (wC g rt o st) H locs) (hdg : decode cc pc = .ok (.getfield 86, 3)) (kk : W p l e R s m args below meth c H locs cells slots Q (F0 m (pc + 3) ls (.int (st.1 4) :: rest))) : W p l e R s m args below meth c H locs cells slots Q (F0 m pc ls (.ref g.regs :: rest)) :=
  va_getN (D := g.1) (ci := 1) (C := "ClockedChip$Registers") (T := TR) (N := 6) X.1.1 X.1.2.1 X.1.2.2.2.2 in_R X.1.2.2.2.1 X.2.1 hC.1 3 rfl rfl 4 (by decide) (va_Nw.use rfl (X.2.2.1.2.2.2.2.2.2 _ (List.mem_append_left _ (List.mem_of_getElem? (i := 37) rfl)) rfl)) (fun _ h9 => h9) rfl hdg kk
theorem GCR_s (X : FX p m c cc nL s args "ClockedChip" g A) (hC : HC g A s (wC g rt o st) H locs) (hdg : decode cc pc = .ok (.getfield 83, 3)) (kk : W p l e R s m args below meth c H locs cells slots Q (F0 m (pc + 3) ls (.int (st.1 3) :: rest))) : W p l e R s m args below meth c H locs cells slots Q (F0 m pc ls (.ref g.regs :: rest)) :=
  va_getN (D := g.1) (ci := 1) (C := "ClockedChip$Registers") (T := TR) (N := 6) X.1.1 X.1.2.1 X.1.2.2.2.2 in_R X.1.2.2.2.1 X.2.1 hC.1 3 rfl rfl 3 (by decide) (va_Nw.use rfl (X.2.2.1.2.2.2.2.2.2 _ (List.mem_append_left _ (List.mem_of_getElem? (i := 34) rfl)) rfl)) (fun _ h9 => h9) rfl hdg kk
theorem GCR_x (X : FX p m c cc nL s args "ClockedChip" g A) (hC : HC g A s (wC g rt o st) H locs) (hdg : decode cc pc = .ok (.getfield 77, 3)) (kk : W p l e R s m args below meth c H locs cells slots Q (F0 m (pc + 3) ls (.int (st.1 1) :: rest))) : W p l e R s m args below meth c H locs cells slots Q (F0 m pc ls (.ref g.regs :: rest)) :=
  va_getN (D := g.1) (ci := 1) (C := "ClockedChip$Registers") (T := TR) (N := 6) X.1.1 X.1.2.1 X.1.2.2.2.2 in_R X.1.2.2.2.1 X.2.1 hC.1 3 rfl rfl 1 (by decide) (va_Nw.use rfl (X.2.2.1.2.2.2.2.2.2 _ (List.mem_append_left _ (List.mem_of_getElem? (i := 30) rfl)) rfl)) (fun _ h9 => h9) rfl hdg kk
theorem GCR_y (X : FX p m c cc nL s args "ClockedChip" g A) (hC : HC g A s (wC g rt o st) H locs) (hdg : decode cc pc = .ok (.getfield 80, 3)) (kk : W p l e R s m args below meth c H locs cells slots Q (F0 m (pc + 3) ls (.int (st.1 2) :: rest))) : W p l e R s m args below meth c H locs cells slots Q (F0 m pc ls (.ref g.regs :: rest)) :=
  va_getN (D := g.1) (ci := 1) (C := "ClockedChip$Registers") (T := TR) (N := 6) X.1.1 X.1.2.1 X.1.2.2.2.2 in_R X.1.2.2.2.1 X.2.1 hC.1 3 rfl rfl 2 (by decide) (va_Nw.use rfl (X.2.2.1.2.2.2.2.2.2 _ (List.mem_append_left _ (List.mem_of_getElem? (i := 32) rfl)) rfl)) (fun _ h9 => h9) rfl hdg kk
theorem GC_aim (X : FX p m c cc nL s args "ClockedChip" g A) (hC : HC g A s (wC g rt o st) H locs) (hdg : decode cc pc = .ok (.getfield 127, 3)) (kk : W p l e R s m args below meth c H locs cells slots Q (F0 m (pc + 3) ls (.int (st.1 11) :: rest))) : W p l e R s m args below meth c H locs cells slots Q (F0 m pc ls (.ref g.chip :: rest)) :=
  va_get (D := g.1) (ci := 0) (C := "ClockedChip") (T := TC) (N := 13) X.1.1 X.1.2.1 X.1.2.2.2.2 in_C X.1.2.2.2.1 X.2.1 hC.1 0 rfl rfl 10 (by decide) (X.1.2.2.2.2 _ (in_ALL (List.mem_append_left _ (List.mem_of_getElem? (i := 68) rfl)) rfl)) (fun _ h9 => h9) rfl hdg kk
theorem GC_done (X : FX p m c cc nL s args "ClockedChip" g A) (hC : HC g A s (wC g rt o st) H locs) (hdg : decode cc pc = .ok (.getfield 95, 3)) (kk : W p l e R s m args below meth c H locs cells slots Q (F0 m (pc + 3) ls (.int (st.1 9) :: rest))) : W p l e R s m args below meth c H locs cells slots Q (F0 m pc ls (.ref g.chip :: rest)) :=
  va_get (D := g.1) (ci := 0) (C := "ClockedChip") (T := TC) (N := 13) X.1.1 X.1.2.1 X.1.2.2.2.2 in_C X.1.2.2.2.1 X.2.1 hC.1 0 rfl rfl 8 (by decide) (X.1.2.2.2.2 _ (in_ALL (List.mem_append_left _ (List.mem_of_getElem? (i := 66) rfl)) rfl)) (fun _ h9 => h9) rfl hdg kk
theorem GC_ended (X : FX p m c cc nL s args "ClockedChip" g A) (hC : HC g A s (wC g rt o st) H locs) (hdg : decode cc pc = .ok (.getfield 49, 3)) (kk : W p l e R s m args below meth c H locs cells slots Q (F0 m (pc + 3) ls (.int (st.1 10) :: rest))) : W p l e R s m args below meth c H locs cells slots Q (F0 m pc ls (.ref g.chip :: rest)) :=
  va_get (D := g.1) (ci := 0) (C := "ClockedChip") (T := TC) (N := 13) X.1.1 X.1.2.1 X.1.2.2.2.2 in_C X.1.2.2.2.1 X.2.1 hC.1 0 rfl rfl 9 (by decide) (X.1.2.2.2.2 _ (in_ALL (List.mem_append_left _ (List.mem_of_getElem? (i := 67) rfl)) rfl)) (fun _ h9 => h9) rfl hdg kk
theorem GC_held (X : FX p m c cc nL s args "ClockedChip" g A) (hC : HC g A s (wC g rt o st) H locs) (hdg : decode cc pc = .ok (.getfield 141, 3)) (kk : W p l e R s m args below meth c H locs cells slots Q (F0 m (pc + 3) ls (.int (st.1 13) :: rest))) : W p l e R s m args below meth c H locs cells slots Q (F0 m pc ls (.ref g.chip :: rest)) :=
  va_get (D := g.1) (ci := 0) (C := "ClockedChip") (T := TC) (N := 13) X.1.1 X.1.2.1 X.1.2.2.2.2 in_C X.1.2.2.2.1 X.2.1 hC.1 0 rfl rfl 12 (by decide) (X.1.2.2.2.2 _ (in_ALL (List.mem_append_left _ (List.mem_of_getElem? (i := 70) rfl)) rfl)) (fun _ h9 => h9) rfl hdg kk
theorem GC_kind (X : FX p m c cc nL s args "ClockedChip" g A) (hC : HC g A s (wC g rt o st) H locs) (hdg : decode cc pc = .ok (.getfield 39, 3)) (kk : W p l e R s m args below meth c H locs cells slots Q (F0 m (pc + 3) ls (.ref (g.adK st.2.2.1.val) :: rest))) : W p l e R s m args below meth c H locs cells slots Q (F0 m pc ls (.ref g.chip :: rest)) :=
  va_get (D := g.1) (ci := 0) (C := "ClockedChip") (T := TC) (N := 13) X.1.1 X.1.2.1 X.1.2.2.2.2 in_C X.1.2.2.2.1 X.2.1 hC.1 0 rfl rfl 5 (by decide) (X.1.2.2.2.2 _ (in_ALL (List.mem_append_left _ (List.mem_of_getElem? (i := 63) rfl)) rfl)) (fun _ h9 => h9) rfl hdg kk
theorem GC_memory (X : FX p m c cc nL s args "ClockedChip" g A) (hC : HC g A s (wC g rt o st) H locs) (hdg : decode cc pc = .ok (.getfield 9, 3)) (kk : W p l e R s m args below meth c H locs cells slots Q (F0 m (pc + 3) ls (.ref g.mem :: rest))) : W p l e R s m args below meth c H locs cells slots Q (F0 m pc ls (.ref g.chip :: rest)) :=
  va_get (D := g.1) (ci := 0) (C := "ClockedChip") (T := TC) (N := 13) X.1.1 X.1.2.1 X.1.2.2.2.2 in_C X.1.2.2.2.1 X.2.1 hC.1 0 rfl rfl 0 (by decide) (X.1.2.2.2.2 _ (in_ALL (List.mem_append_left _ (List.mem_of_getElem? (i := 58) rfl)) rfl)) (fun _ h9 => h9) rfl hdg kk
theorem GC_mode (X : FX p m c cc nL s args "ClockedChip" g A) (hC : HC g A s (wC g rt o st) H locs) (hdg : decode cc pc = .ok (.getfield 274, 3)) (kk : W p l e R s m args below meth c H locs cells slots Q (F0 m (pc + 3) ls (.int (st.1 8) :: rest))) : W p l e R s m args below meth c H locs cells slots Q (F0 m pc ls (.ref g.chip :: rest)) :=
  va_get (D := g.1) (ci := 0) (C := "ClockedChip") (T := TC) (N := 13) X.1.1 X.1.2.1 X.1.2.2.2.2 in_C X.1.2.2.2.1 X.2.1 hC.1 0 rfl rfl 7 (by decide) (X.1.2.2.2.2 _ (in_ALL (List.mem_append_left _ (List.mem_of_getElem? (i := 65) rfl)) rfl)) (fun _ h9 => h9) rfl hdg kk
theorem GC_nmiWanted (X : FX p m c cc nL s args "ClockedChip" g A) (hC : HC g A s (wC g rt o st) H locs) (hdg : decode cc pc = .ok (.getfield 60, 3)) (kk : W p l e R s m args below meth c H locs cells slots Q (F0 m (pc + 3) ls (.int (st.1 6) :: rest))) : W p l e R s m args below meth c H locs cells slots Q (F0 m pc ls (.ref g.chip :: rest)) :=
  va_get (D := g.1) (ci := 0) (C := "ClockedChip") (T := TC) (N := 13) X.1.1 X.1.2.1 X.1.2.2.2.2 in_C X.1.2.2.2.1 X.2.1 hC.1 0 rfl rfl 3 (by decide) (X.1.2.2.2.2 _ (in_ALL (List.mem_append_left _ (List.mem_of_getElem? (i := 61) rfl)) rfl)) (fun _ h9 => h9) rfl hdg kk
theorem GC_operation (X : FX p m c cc nL s args "ClockedChip" g A) (hC : HC g A s (wC g rt o st) H locs) (hdg : decode cc pc = .ok (.getfield 144, 3)) (kk : W p l e R s m args below meth c H locs cells slots Q (F0 m (pc + 3) ls (.int (st.1 7) :: rest))) : W p l e R s m args below meth c H locs cells slots Q (F0 m pc ls (.ref g.chip :: rest)) :=
  va_get (D := g.1) (ci := 0) (C := "ClockedChip") (T := TC) (N := 13) X.1.1 X.1.2.1 X.1.2.2.2.2 in_C X.1.2.2.2.1 X.2.1 hC.1 0 rfl rfl 6 (by decide) (X.1.2.2.2.2 _ (in_ALL (List.mem_append_left _ (List.mem_of_getElem? (i := 64) rfl)) rfl)) (fun _ h9 => h9) rfl hdg kk
theorem GC_pins (X : FX p m c cc nL s args "ClockedChip" g A) (hC : HC g A s (wC g rt o st) H locs) (hdg : decode cc pc = .ok (.getfield 13, 3)) (kk : W p l e R s m args below meth c H locs cells slots Q (F0 m (pc + 3) ls (.ref g.pins :: rest))) : W p l e R s m args below meth c H locs cells slots Q (F0 m pc ls (.ref g.chip :: rest)) :=
  va_get (D := g.1) (ci := 0) (C := "ClockedChip") (T := TC) (N := 13) X.1.1 X.1.2.1 X.1.2.2.2.2 in_C X.1.2.2.2.1 X.2.1 hC.1 0 rfl rfl 1 (by decide) (X.1.2.2.2.2 _ (in_ALL (List.mem_append_left _ (List.mem_of_getElem? (i := 59) rfl)) rfl)) (fun _ h9 => h9) rfl hdg kk
theorem GC_registers (X : FX p m c cc nL s args "ClockedChip" g A) (hC : HC g A s (wC g rt o st) H locs) (hdg : decode cc pc = .ok (.getfield 20, 3)) (kk : W p l e R s m args below meth c H locs cells slots Q (F0 m (pc + 3) ls (.ref g.regs :: rest))) : W p l e R s m args below meth c H locs cells slots Q (F0 m pc ls (.ref g.chip :: rest)) :=
  va_get (D := g.1) (ci := 0) (C := "ClockedChip") (T := TC) (N := 13) X.1.1 X.1.2.1 X.1.2.2.2.2 in_C X.1.2.2.2.1 X.2.1 hC.1 0 rfl rfl 2 (by decide) (X.1.2.2.2.2 _ (in_ALL (List.mem_append_left _ (List.mem_of_getElem? (i := 60) rfl)) rfl)) (fun _ h9 => h9) rfl hdg kk
theorem GC_step (X : FX p m c cc nL s args "ClockedChip" g A) (hC : HC g A s (wC g rt o st) H locs) (hdg : decode cc pc = .ok (.getfield 30, 3)) (kk : W p l e R s m args below meth c H locs cells slots Q (F0 m (pc + 3) ls (.ref (g.adS st.2.1.val) :: rest))) : W p l e R s m args below meth c H locs cells slots Q (F0 m pc ls (.ref g.chip :: rest)) :=
  va_get (D := g.1) (ci := 0) (C := "ClockedChip") (T := TC) (N := 13) X.1.1 X.1.2.1 X.1.2.2.2.2 in_C X.1.2.2.2.1 X.2.1 hC.1 0 rfl rfl 4 (by decide) (X.1.2.2.2.2 _ (in_ALL (List.mem_append_left _ (List.mem_of_getElem? (i := 62) rfl)) rfl)) (fun _ h9 => h9) rfl hdg kk
theorem GC_stp_place {k : Fin 35} (X : FX p m c cc nL s args "ClockedChip" g A) (hC : HC g A s ws H locs) (hdg : decode cc pc = .ok (.getfield 124, 3)) (kk : W p l e R s m args below meth c H locs cells slots Q (F0 m (pc + 3) ls (.int (plS k) :: rest))) : W p l e R s m args below meth c H locs cells slots Q (F0 m pc ls (.ref (g.adS k.val) :: rest)) := by
  obtain ⟨cf, kf, fi, f, cell, h1, h2, h3, h4, h5, h6⟩ := ((X.2.2.1.1.1 k.val k.isLt).2.2 ("ClockedChip$Step", "place", "I", plL) (List.mem_cons_of_mem _ List.mem_cons_self)).kept hC.2.2.2.1
  exact va_Wgetf X.1.1 X.1.2.1 X.1.2.2.2.1 (va_Nw.use rfl (X.2.2.1.2.2.2.2.2.2 _ (List.mem_append_right _ (List.mem_append_right _ (List.mem_append_right _ (List.mem_of_getElem? (i := 151) rfl)))) rfl)) h1 h2 h3 h4 (v := .int (plS k)) h5 rfl rfl hdg kk
theorem GC_stp_writes {k : Fin 35} (X : FX p m c cc nL s args "ClockedChip" g A) (hC : HC g A s ws H locs) (hdg : decode cc pc = .ok (.getfield 112, 3)) (kk : W p l e R s m args below meth c H locs cells slots Q (F0 m (pc + 3) ls (.int (wrS k) :: rest))) : W p l e R s m args below meth c H locs cells slots Q (F0 m pc ls (.ref (g.adS k.val) :: rest)) := by
  obtain ⟨cf, kf, fi, f, cell, h1, h2, h3, h4, h5, h6⟩ := ((X.2.2.1.1.1 k.val k.isLt).2.2 ("ClockedChip$Step", "writes", "Z", wrL) (List.mem_cons_of_mem _ (List.mem_cons_of_mem _ List.mem_cons_self))).kept hC.2.2.2.1
  exact va_Wgetf X.1.1 X.1.2.1 X.1.2.2.2.1 (va_Nw.use rfl (X.2.2.1.2.2.2.2.2.2 _ (List.mem_append_right _ (List.mem_append_right _ (List.mem_append_right _ (List.mem_of_getElem? (i := 152) rfl)))) rfl)) h1 h2 h3 h4 (v := .int (wrS k)) h5 rfl rfl hdg kk
theorem GC_target (X : FX p m c cc nL s args "ClockedChip" g A) (hC : HC g A s (wC g rt o st) H locs) (hdg : decode cc pc = .ok (.getfield 209, 3)) (kk : W p l e R s m args below meth c H locs cells slots Q (F0 m (pc + 3) ls (.int (st.1 12) :: rest))) : W p l e R s m args below meth c H locs cells slots Q (F0 m pc ls (.ref g.chip :: rest)) :=
  va_get (D := g.1) (ci := 0) (C := "ClockedChip") (T := TC) (N := 13) X.1.1 X.1.2.1 X.1.2.2.2.2 in_C X.1.2.2.2.1 X.2.1 hC.1 0 rfl rfl 11 (by decide) (X.1.2.2.2.2 _ (in_ALL (List.mem_append_left _ (List.mem_of_getElem? (i := 69) rfl)) rfl)) (fun _ h9 => h9) rfl hdg kk
theorem LC_101 (X : FX p m c cc nL s args "ClockedChip" g A) (hdg : decode cc pc = .ok (.ldc 101, 2)) (kk : W p l e R s m args below meth c H locs cells slots Q (F0 m (pc + 2) ls (.int 65535 :: rest))) : W p l e R s m args below meth c H locs cells slots Q (F0 m pc ls rest) := lv_ldc X.1.1 X.1.2.1 X.1.2.2.2.1 (X.1.2.2.2.2 _ (in_ALL (List.mem_append_left _ (List.mem_of_getElem? (i := 121) rfl)) rfl)) hdg kk
theorem LC_130 (X : FX p m c cc nL s args "ClockedChip" g A) (hdg : decode cc pc = .ok (.ldc 130, 2)) (kk : W p l e R s m args below meth c H locs cells slots Q (F0 m (pc + 2) ls (.int 65530 :: rest))) : W p l e R s m args below meth c H locs cells slots Q (F0 m pc ls rest) := lv_ldc X.1.1 X.1.2.1 X.1.2.2.2.1 (X.1.2.2.2.2 _ (in_ALL (List.mem_append_left _ (List.mem_of_getElem? (i := 118) rfl)) rfl)) hdg kk
theorem LC_131 (X : FX p m c cc nL s args "ClockedChip" g A) (hdg : decode cc pc = .ok (.ldc 131, 2)) (kk : W p l e R s m args below meth c H locs cells slots Q (F0 m (pc + 2) ls (.int 65534 :: rest))) : W p l e R s m args below meth c H locs cells slots Q (F0 m pc ls rest) := lv_ldc X.1.1 X.1.2.1 X.1.2.2.2.1 (X.1.2.2.2.2 _ (in_ALL (List.mem_append_left _ (List.mem_of_getElem? (i := 119) rfl)) rfl)) hdg kk
theorem LC_132 (X : FX p m c cc nL s args "ClockedChip" g A) (hdg : decode cc pc = .ok (.ldc 132, 2)) (kk : W p l e R s m args below meth c H locs cells slots Q (F0 m (pc + 2) ls (.int 65532 :: rest))) : W p l e R s m args below meth c H locs cells slots Q (F0 m pc ls rest) := lv_ldc X.1.1 X.1.2.1 X.1.2.2.2.1 (X.1.2.2.2.2 _ (in_ALL (List.mem_append_left _ (List.mem_of_getElem? (i := 120) rfl)) rfl)) hdg kk
theorem LC_380 (X : FX p m c cc nL s args "ClockedChip" g A) (hdg : decode cc pc = .ok (.ldc_w 380, 3)) (kk : W p l e R s m args below meth c H locs cells slots Q (F0 m (pc + 3) ls (.int 65280 :: rest))) : W p l e R s m args below meth c H locs cells slots Q (F0 m pc ls rest) := lv_ldcw X.1.1 X.1.2.1 X.1.2.2.2.1 (X.1.2.2.2.2 _ (in_ALL (List.mem_append_right _ (List.mem_append_left _ (List.mem_of_getElem? (i := 145) rfl))) rfl)) hdg kk
theorem LC_411 (X : FX p m c cc nL s args "ClockedChip" g A) (hdg : decode cc pc = .ok (.ldc_w 411, 3)) (kk : W p l e R s m args below meth c H locs cells slots Q (F0 m (pc + 3) ls (.int 65533 :: rest))) : W p l e R s m args below meth c H locs cells slots Q (F0 m pc ls rest) := lv_ldcw X.1.1 X.1.2.1 X.1.2.2.2.1 (X.1.2.2.2.2 _ (in_ALL (List.mem_append_right _ (List.mem_append_left _ (List.mem_of_getElem? (i := 217) rfl))) rfl)) hdg kk
theorem NC_C_accessIndexed_354 {rm : Room} (X : FX p m c cc nL s args "ClockedChip" g A) (hc : rm.cells = 0) (hs : rm.slots = 0) (hR : rm.frames + 1 ≤ R.frames ∧ 8 + (5 + 11) + rm.locals ≤ R.locals) : CNO R s args "ClockedChip" 354 y_C_accessIndexed c_C_accessIndexed 5 none rm 2 :=
  ⟨callB_of 2 X.1.2.2.2.2 (goodIn_code w_C_accessIndexed) rfl hc hs (X.1.2.2.2.2 _ (in_ALL (List.mem_append_left _ (List.mem_of_getElem? (i := 1) rfl)) rfl)) (X.1.2.2.2.2 _ (in_ALL (List.mem_append_right _ (List.mem_append_left _ (List.mem_of_getElem? (i := 105) rfl))) rfl)) ⟨by decide, by decide, by decide +kernel⟩ hR, X.1.2.2.2.2 _ (in_ALL (List.mem_append_right _ (List.mem_append_left _ (List.mem_of_getElem? (i := 107) rfl))) rfl), (X.1.2.2.2.2 _ (in_sel (q := (y_C_accessIndexed, 13)) (by decide +kernel) rfl))⟩
theorem NC_C_accessOperandAt_212 {rm : Room} (X : FX p m c cc nL s args "ClockedChip" g A) (hc : rm.cells = 0) (hs : rm.slots = 0) (hR : rm.frames + 1 ≤ R.frames ∧ 8 + (2 + 11) + rm.locals ≤ R.locals) : CNO R s args "ClockedChip" 212 y_C_accessOperandAt c_C_accessOperandAt 2 none rm 1 :=
  ⟨callB_of 1 X.1.2.2.2.2 (goodIn_code w_C_accessOperandAt) rfl hc hs (X.1.2.2.2.2 _ (in_ALL (List.mem_append_left _ (List.mem_of_getElem? (i := 1) rfl)) rfl)) (X.1.2.2.2.2 _ (in_ALL (List.mem_append_right _ (List.mem_append_left _ (List.mem_of_getElem? (i := 77) rfl))) rfl)) ⟨by decide, by decide, by decide +kernel⟩ hR, X.1.2.2.2.2 _ (in_ALL (List.mem_append_right _ (List.mem_append_left _ (List.mem_of_getElem? (i := 79) rfl))) rfl), (X.1.2.2.2.2 _ (in_sel (q := (y_C_accessOperandAt, 13)) (by decide +kernel) rfl))⟩
theorem NC_C_addressOfStep_109 {rm : Room} (X : FX p m c cc nL s args "ClockedChip" g A) (hc : rm.cells = 0) (hs : rm.slots = 0) (hR : rm.frames + 1 ≤ R.frames ∧ 8 + (1 + 11) + rm.locals ≤ R.locals) : CNO R s args "ClockedChip" 109 y_C_addressOfStep c_C_addressOfStep 1 (some .int) rm 0 :=
  ⟨callB_of 0 X.1.2.2.2.2 (goodIn_code w_C_addressOfStep) rfl hc hs (X.1.2.2.2.2 _ (in_ALL (List.mem_append_left _ (List.mem_of_getElem? (i := 1) rfl)) rfl)) (X.1.2.2.2.2 _ (in_ALL (List.mem_append_left _ (List.mem_of_getElem? (i := 114) rfl)) rfl)) ⟨by decide, by decide, by decide +kernel⟩ hR, X.1.2.2.2.2 _ (in_ALL (List.mem_append_left _ (List.mem_of_getElem? (i := 116) rfl)) rfl), (X.1.2.2.2.2 _ (in_sel (q := (y_C_addressOfStep, 13)) (by decide +kernel) rfl))⟩
theorem NC_C_afterBranchDistance_218 {rm : Room} (X : FX p m c cc nL s args "ClockedChip" g A) (hc : rm.cells = 0) (hs : rm.slots = 0) (hR : rm.frames + 1 ≤ R.frames ∧ 8 + (3 + 11) + rm.locals ≤ R.locals) : CNO R s args "ClockedChip" 218 y_C_afterBranchDistance c_C_afterBranchDistance 3 none rm 1 :=
  ⟨callB_of 1 X.1.2.2.2.2 (goodIn_code w_C_afterBranchDistance) rfl hc hs (X.1.2.2.2.2 _ (in_ALL (List.mem_append_left _ (List.mem_of_getElem? (i := 1) rfl)) rfl)) (X.1.2.2.2.2 _ (in_ALL (List.mem_append_right _ (List.mem_append_left _ (List.mem_of_getElem? (i := 131) rfl))) rfl)) ⟨by decide, by decide, by decide +kernel⟩ hR, X.1.2.2.2.2 _ (in_ALL (List.mem_append_right _ (List.mem_append_left _ (List.mem_of_getElem? (i := 133) rfl))) rfl), (X.1.2.2.2.2 _ (in_sel (q := (y_C_afterBranchDistance, 13)) (by decide +kernel) rfl))⟩
theorem NC_C_afterBranchIdle_221 {rm : Room} (X : FX p m c cc nL s args "ClockedChip" g A) (hc : rm.cells = 0) (hs : rm.slots = 0) (hR : rm.frames + 1 ≤ R.frames ∧ 8 + (2 + 11) + rm.locals ≤ R.locals) : CNO R s args "ClockedChip" 221 y_C_afterBranchIdle c_C_afterBranchIdle 2 none rm 0 :=
  ⟨callB_of 0 X.1.2.2.2.2 (goodIn_code w_C_afterBranchIdle) rfl hc hs (X.1.2.2.2.2 _ (in_ALL (List.mem_append_left _ (List.mem_of_getElem? (i := 1) rfl)) rfl)) (X.1.2.2.2.2 _ (in_ALL (List.mem_append_right _ (List.mem_append_left _ (List.mem_of_getElem? (i := 141) rfl))) rfl)) ⟨by decide, by decide, by decide +kernel⟩ hR, X.1.2.2.2.2 _ (in_ALL (List.mem_append_right _ (List.mem_append_left _ (List.mem_of_getElem? (i := 143) rfl))) rfl), (X.1.2.2.2.2 _ (in_sel (q := (y_C_afterBranchIdle, 13)) (by decide +kernel) rfl))⟩
theorem NC_C_afterBreakNext_227 {rm : Room} (X : FX p m c cc nL s args "ClockedChip" g A) (hc : rm.cells = 0) (hs : rm.slots = 0) (hR : rm.frames + 1 ≤ R.frames ∧ 8 + (1 + 11) + rm.locals ≤ R.locals) : CNO R s args "ClockedChip" 227 y_C_afterBreakNext c_C_afterBreakNext 1 none rm 0 :=
  ⟨callB_of 0 X.1.2.2.2.2 (goodIn_code w_C_afterBreakNext) rfl hc hs (X.1.2.2.2.2 _ (in_ALL (List.mem_append_left _ (List.mem_of_getElem? (i := 1) rfl)) rfl)) (X.1.2.2.2.2 _ (in_ALL (List.mem_append_right _ (List.mem_append_left _ (List.mem_of_getElem? (i := 148) rfl))) rfl)) ⟨by decide, by decide, by decide +kernel⟩ hR, X.1.2.2.2.2 _ (in_ALL (List.mem_append_right _ (List.mem_append_left _ (List.mem_of_getElem? (i := 150) rfl))) rfl), (X.1.2.2.2.2 _ (in_sel (q := (y_C_afterBreakNext, 13)) (by decide +kernel) rfl))⟩
theorem NC_C_afterChangeRead_215 {rm : Room} (X : FX p m c cc nL s args "ClockedChip" g A) (hc : rm.cells = 0) (hs : rm.slots = 0) (hR : rm.frames + 1 ≤ R.frames ∧ 8 + (2 + 11) + rm.locals ≤ R.locals) : CNO R s args "ClockedChip" 215 y_C_afterChangeRead c_C_afterChangeRead 2 none rm 1 :=
  ⟨callB_of 1 X.1.2.2.2.2 (goodIn_code w_C_afterChangeRead) rfl hc hs (X.1.2.2.2.2 _ (in_ALL (List.mem_append_left _ (List.mem_of_getElem? (i := 1) rfl)) rfl)) (X.1.2.2.2.2 _ (in_ALL (List.mem_append_right _ (List.mem_append_left _ (List.mem_of_getElem? (i := 125) rfl))) rfl)) ⟨by decide, by decide, by decide +kernel⟩ hR, X.1.2.2.2.2 _ (in_ALL (List.mem_append_right _ (List.mem_append_left _ (List.mem_of_getElem? (i := 127) rfl))) rfl), (X.1.2.2.2.2 _ (in_sel (q := (y_C_afterChangeRead, 13)) (by decide +kernel) rfl))⟩
theorem NC_C_afterFarLow_203 {rm : Room} (X : FX p m c cc nL s args "ClockedChip" g A) (hc : rm.cells = 0) (hs : rm.slots = 0) (hR : rm.frames + 1 ≤ R.frames ∧ 8 + (2 + 11) + rm.locals ≤ R.locals) : CNO R s args "ClockedChip" 203 y_C_afterFarLow c_C_afterFarLow 2 none rm 1 :=
  ⟨callB_of 1 X.1.2.2.2.2 (goodIn_code w_C_afterFarLow) rfl hc hs (X.1.2.2.2.2 _ (in_ALL (List.mem_append_left _ (List.mem_of_getElem? (i := 1) rfl)) rfl)) (X.1.2.2.2.2 _ (in_ALL (List.mem_append_right _ (List.mem_append_left _ (List.mem_of_getElem? (i := 111) rfl))) rfl)) ⟨by decide, by decide, by decide +kernel⟩ hR, X.1.2.2.2.2 _ (in_ALL (List.mem_append_right _ (List.mem_append_left _ (List.mem_of_getElem? (i := 113) rfl))) rfl), (X.1.2.2.2.2 _ (in_sel (q := (y_C_afterFarLow, 13)) (by decide +kernel) rfl))⟩
theorem NC_C_afterFarPage_206 {rm : Room} (X : FX p m c cc nL s args "ClockedChip" g A) (hc : rm.cells = 0) (hs : rm.slots = 0) (hR : rm.frames + 1 ≤ R.frames ∧ 8 + (2 + 11) + rm.locals ≤ R.locals) : CNO R s args "ClockedChip" 206 y_C_afterFarPage c_C_afterFarPage 2 none rm 1 :=
  ⟨callB_of 1 X.1.2.2.2.2 (goodIn_code w_C_afterFarPage) rfl hc hs (X.1.2.2.2.2 _ (in_ALL (List.mem_append_left _ (List.mem_of_getElem? (i := 1) rfl)) rfl)) (X.1.2.2.2.2 _ (in_ALL (List.mem_append_right _ (List.mem_append_left _ (List.mem_of_getElem? (i := 117) rfl))) rfl)) ⟨by decide, by decide, by decide +kernel⟩ hR, X.1.2.2.2.2 _ (in_ALL (List.mem_append_right _ (List.mem_append_left _ (List.mem_of_getElem? (i := 119) rfl))) rfl), (X.1.2.2.2.2 _ (in_sel (q := (y_C_afterFarPage, 13)) (by decide +kernel) rfl))⟩
theorem NC_C_afterFetch_182 {rm : Room} (X : FX p m c cc nL s args "ClockedChip" g A) (hc : rm.cells = 0) (hs : rm.slots = 0) (hR : rm.frames + 1 ≤ R.frames ∧ 8 + (2 + 11) + rm.locals ≤ R.locals) : CNO R s args "ClockedChip" 182 y_C_afterFetch c_C_afterFetch 2 none rm 1 :=
  ⟨callB_of 1 X.1.2.2.2.2 (goodIn_code w_C_afterFetch) rfl hc hs (X.1.2.2.2.2 _ (in_ALL (List.mem_append_left _ (List.mem_of_getElem? (i := 1) rfl)) rfl)) (X.1.2.2.2.2 _ (in_ALL (List.mem_append_left _ (List.mem_of_getElem? (i := 198) rfl)) rfl)) ⟨by decide, by decide, by decide +kernel⟩ hR, X.1.2.2.2.2 _ (in_ALL (List.mem_append_left _ (List.mem_of_getElem? (i := 200) rfl)) rfl), (X.1.2.2.2.2 _ (in_sel (q := (y_C_afterFetch, 13)) (by decide +kernel) rfl))⟩
theorem NC_C_afterPcIdle_230 {rm : Room} (X : FX p m c cc nL s args "ClockedChip" g A) (hc : rm.cells = 0) (hs : rm.slots = 0) (hR : rm.frames + 1 ≤ R.frames ∧ 8 + (1 + 11) + rm.locals ≤ R.locals) : CNO R s args "ClockedChip" 230 y_C_afterPcIdle c_C_afterPcIdle 1 none rm 0 :=
  ⟨callB_of 0 X.1.2.2.2.2 (goodIn_code w_C_afterPcIdle) rfl hc hs (X.1.2.2.2.2 _ (in_ALL (List.mem_append_left _ (List.mem_of_getElem? (i := 1) rfl)) rfl)) (X.1.2.2.2.2 _ (in_ALL (List.mem_append_right _ (List.mem_append_left _ (List.mem_of_getElem? (i := 154) rfl))) rfl)) ⟨by decide, by decide, by decide +kernel⟩ hR, X.1.2.2.2.2 _ (in_ALL (List.mem_append_right _ (List.mem_append_left _ (List.mem_of_getElem? (i := 156) rfl))) rfl), (X.1.2.2.2.2 _ (in_sel (q := (y_C_afterPcIdle, 13)) (by decide +kernel) rfl))⟩
theorem NC_C_afterPointerLow_197 {rm : Room} (X : FX p m c cc nL s args "ClockedChip" g A) (hc : rm.cells = 0) (hs : rm.slots = 0) (hR : rm.frames + 1 ≤ R.frames ∧ 8 + (2 + 11) + rm.locals ≤ R.locals) : CNO R s args "ClockedChip" 197 y_C_afterPointerLow c_C_afterPointerLow 2 none rm 1 :=
  ⟨callB_of 1 X.1.2.2.2.2 (goodIn_code w_C_afterPointerLow) rfl hc hs (X.1.2.2.2.2 _ (in_ALL (List.mem_append_left _ (List.mem_of_getElem? (i := 1) rfl)) rfl)) (X.1.2.2.2.2 _ (in_ALL (List.mem_append_right _ (List.mem_append_left _ (List.mem_of_getElem? (i := 95) rfl))) rfl)) ⟨by decide, by decide, by decide +kernel⟩ hR, X.1.2.2.2.2 _ (in_ALL (List.mem_append_right _ (List.mem_append_left _ (List.mem_of_getElem? (i := 97) rfl))) rfl), (X.1.2.2.2.2 _ (in_sel (q := (y_C_afterPointerLow, 13)) (by decide +kernel) rfl))⟩
theorem NC_C_afterPointerPage_200 {rm : Room} (X : FX p m c cc nL s args "ClockedChip" g A) (hc : rm.cells = 0) (hs : rm.slots = 0) (hR : rm.frames + 1 ≤ R.frames ∧ 8 + (2 + 11) + rm.locals ≤ R.locals) : CNO R s args "ClockedChip" 200 y_C_afterPointerPage c_C_afterPointerPage 2 none rm 1 :=
  ⟨callB_of 1 X.1.2.2.2.2 (goodIn_code w_C_afterPointerPage) rfl hc hs (X.1.2.2.2.2 _ (in_ALL (List.mem_append_left _ (List.mem_of_getElem? (i := 1) rfl)) rfl)) (X.1.2.2.2.2 _ (in_ALL (List.mem_append_right _ (List.mem_append_left _ (List.mem_of_getElem? (i := 101) rfl))) rfl)) ⟨by decide, by decide, by decide +kernel⟩ hR, X.1.2.2.2.2 _ (in_ALL (List.mem_append_right _ (List.mem_append_left _ (List.mem_of_getElem? (i := 103) rfl))) rfl), (X.1.2.2.2.2 _ (in_sel (q := (y_C_afterPointerPage, 13)) (by decide +kernel) rfl))⟩
theorem NC_C_afterPullByte_240 {rm : Room} (X : FX p m c cc nL s args "ClockedChip" g A) (hc : rm.cells = 0) (hs : rm.slots = 0) (hR : rm.frames + 1 ≤ R.frames ∧ 8 + (2 + 11) + rm.locals ≤ R.locals) : CNO R s args "ClockedChip" 240 y_C_afterPullByte c_C_afterPullByte 2 none rm 1 :=
  ⟨callB_of 1 X.1.2.2.2.2 (goodIn_code w_C_afterPullByte) rfl hc hs (X.1.2.2.2.2 _ (in_ALL (List.mem_append_left _ (List.mem_of_getElem? (i := 1) rfl)) rfl)) (X.1.2.2.2.2 _ (in_ALL (List.mem_append_right _ (List.mem_append_left _ (List.mem_of_getElem? (i := 176) rfl))) rfl)) ⟨by decide, by decide, by decide +kernel⟩ hR, X.1.2.2.2.2 _ (in_ALL (List.mem_append_right _ (List.mem_append_left _ (List.mem_of_getElem? (i := 178) rfl))) rfl), (X.1.2.2.2.2 _ (in_sel (q := (y_C_afterPullByte, 13)) (by decide +kernel) rfl))⟩
theorem NC_C_afterPullLow_243 {rm : Room} (X : FX p m c cc nL s args "ClockedChip" g A) (hc : rm.cells = 0) (hs : rm.slots = 0) (hR : rm.frames + 1 ≤ R.frames ∧ 8 + (2 + 11) + rm.locals ≤ R.locals) : CNO R s args "ClockedChip" 243 y_C_afterPullLow c_C_afterPullLow 2 none rm 1 :=
  ⟨callB_of 1 X.1.2.2.2.2 (goodIn_code w_C_afterPullLow) rfl hc hs (X.1.2.2.2.2 _ (in_ALL (List.mem_append_left _ (List.mem_of_getElem? (i := 1) rfl)) rfl)) (X.1.2.2.2.2 _ (in_ALL (List.mem_append_right _ (List.mem_append_left _ (List.mem_of_getElem? (i := 185) rfl))) rfl)) ⟨by decide, by decide, by decide +kernel⟩ hR, X.1.2.2.2.2 _ (in_ALL (List.mem_append_right _ (List.mem_append_left _ (List.mem_of_getElem? (i := 187) rfl))) rfl), (X.1.2.2.2.2 _ (in_sel (q := (y_C_afterPullLow, 13)) (by decide +kernel) rfl))⟩
theorem NC_C_afterPullPage_246 {rm : Room} (X : FX p m c cc nL s args "ClockedChip" g A) (hc : rm.cells = 0) (hs : rm.slots = 0) (hR : rm.frames + 1 ≤ R.frames ∧ 8 + (2 + 11) + rm.locals ≤ R.locals) : CNO R s args "ClockedChip" 246 y_C_afterPullPage c_C_afterPullPage 2 none rm 1 :=
  ⟨callB_of 1 X.1.2.2.2.2 (goodIn_code w_C_afterPullPage) rfl hc hs (X.1.2.2.2.2 _ (in_ALL (List.mem_append_left _ (List.mem_of_getElem? (i := 1) rfl)) rfl)) (X.1.2.2.2.2 _ (in_ALL (List.mem_append_right _ (List.mem_append_left _ (List.mem_of_getElem? (i := 191) rfl))) rfl)) ⟨by decide, by decide, by decide +kernel⟩ hR, X.1.2.2.2.2 _ (in_ALL (List.mem_append_right _ (List.mem_append_left _ (List.mem_of_getElem? (i := 193) rfl))) rfl), (X.1.2.2.2.2 _ (in_sel (q := (y_C_afterPullPage, 13)) (by decide +kernel) rfl))⟩
theorem NC_C_afterRead_121 {rm : Room} (X : FX p m c cc nL s args "ClockedChip" g A) (hc : rm.cells = 0) (hs : rm.slots = 0) (hR : rm.frames + 1 ≤ R.frames ∧ 8 + (2 + 11) + rm.locals ≤ R.locals) : CNO R s args "ClockedChip" 121 y_C_afterRead c_C_afterRead 2 none rm 1 :=
  ⟨callB_of 1 X.1.2.2.2.2 (goodIn_code w_C_afterRead) rfl hc hs (X.1.2.2.2.2 _ (in_ALL (List.mem_append_left _ (List.mem_of_getElem? (i := 1) rfl)) rfl)) (X.1.2.2.2.2 _ (in_ALL (List.mem_append_left _ (List.mem_of_getElem? (i := 194) rfl)) rfl)) ⟨by decide, by decide, by decide +kernel⟩ hR, X.1.2.2.2.2 _ (in_ALL (List.mem_append_left _ (List.mem_of_getElem? (i := 196) rfl)) rfl), (X.1.2.2.2.2 _ (in_sel (q := (y_C_afterRead, 13)) (by decide +kernel) rfl))⟩
theorem NC_C_afterResetLow_264 {rm : Room} (X : FX p m c cc nL s args "ClockedChip" g A) (hc : rm.cells = 0) (hs : rm.slots = 0) (hR : rm.frames + 1 ≤ R.frames ∧ 8 + (2 + 11) + rm.locals ≤ R.locals) : CNO R s args "ClockedChip" 264 y_C_afterResetLow c_C_afterResetLow 2 none rm 1 :=
  ⟨callB_of 1 X.1.2.2.2.2 (goodIn_code w_C_afterResetLow) rfl hc hs (X.1.2.2.2.2 _ (in_ALL (List.mem_append_left _ (List.mem_of_getElem? (i := 1) rfl)) rfl)) (X.1.2.2.2.2 _ (in_ALL (List.mem_append_right _ (List.mem_append_left _ (List.mem_of_getElem? (i := 213) rfl))) rfl)) ⟨by decide, by decide, by decide +kernel⟩ hR, X.1.2.2.2.2 _ (in_ALL (List.mem_append_right _ (List.mem_append_left _ (List.mem_of_getElem? (i := 215) rfl))) rfl), (X.1.2.2.2.2 _ (in_sel (q := (y_C_afterResetLow, 13)) (by decide +kernel) rfl))⟩
theorem NC_C_afterResetStack_261 {rm : Room} (X : FX p m c cc nL s args "ClockedChip" g A) (hc : rm.cells = 0) (hs : rm.slots = 0) (hR : rm.frames + 1 ≤ R.frames ∧ 8 + (1 + 11) + rm.locals ≤ R.locals) : CNO R s args "ClockedChip" 261 y_C_afterResetStack c_C_afterResetStack 1 none rm 0 :=
  ⟨callB_of 0 X.1.2.2.2.2 (goodIn_code w_C_afterResetStack) rfl hc hs (X.1.2.2.2.2 _ (in_ALL (List.mem_append_left _ (List.mem_of_getElem? (i := 1) rfl)) rfl)) (X.1.2.2.2.2 _ (in_ALL (List.mem_append_right _ (List.mem_append_left _ (List.mem_of_getElem? (i := 207) rfl))) rfl)) ⟨by decide, by decide, by decide +kernel⟩ hR, X.1.2.2.2.2 _ (in_ALL (List.mem_append_right _ (List.mem_append_left _ (List.mem_of_getElem? (i := 209) rfl))) rfl), (X.1.2.2.2.2 _ (in_sel (q := (y_C_afterResetStack, 13)) (by decide +kernel) rfl))⟩
theorem NC_C_afterStackOrVectorRead_233 {rm : Room} (X : FX p m c cc nL s args "ClockedChip" g A) (hc : rm.cells = 0) (hs : rm.slots = 0) (hR : rm.frames + 1 ≤ R.frames ∧ 8 + (2 + 11) + rm.locals ≤ R.locals) : CNO R s args "ClockedChip" 233 y_C_afterStackOrVectorRead c_C_afterStackOrVectorRead 2 none rm 1 :=
  ⟨callB_of 1 X.1.2.2.2.2 (goodIn_code w_C_afterStackOrVectorRead) rfl hc hs (X.1.2.2.2.2 _ (in_ALL (List.mem_append_left _ (List.mem_of_getElem? (i := 1) rfl)) rfl)) (X.1.2.2.2.2 _ (in_ALL (List.mem_append_right _ (List.mem_append_left _ (List.mem_of_getElem? (i := 164) rfl))) rfl)) ⟨by decide, by decide, by decide +kernel⟩ hR, X.1.2.2.2.2 _ (in_ALL (List.mem_append_right _ (List.mem_append_left _ (List.mem_of_getElem? (i := 166) rfl))) rfl), (X.1.2.2.2.2 _ (in_sel (q := (y_C_afterStackOrVectorRead, 13)) (by decide +kernel) rfl))⟩
theorem NC_C_afterVectorLow_255 {rm : Room} (X : FX p m c cc nL s args "ClockedChip" g A) (hc : rm.cells = 0) (hs : rm.slots = 0) (hR : rm.frames + 1 ≤ R.frames ∧ 8 + (2 + 11) + rm.locals ≤ R.locals) : CNO R s args "ClockedChip" 255 y_C_afterVectorLow c_C_afterVectorLow 2 none rm 1 :=
  ⟨callB_of 1 X.1.2.2.2.2 (goodIn_code w_C_afterVectorLow) rfl hc hs (X.1.2.2.2.2 _ (in_ALL (List.mem_append_left _ (List.mem_of_getElem? (i := 1) rfl)) rfl)) (X.1.2.2.2.2 _ (in_ALL (List.mem_append_right _ (List.mem_append_left _ (List.mem_of_getElem? (i := 197) rfl))) rfl)) ⟨by decide, by decide, by decide +kernel⟩ hR, X.1.2.2.2.2 _ (in_ALL (List.mem_append_right _ (List.mem_append_left _ (List.mem_of_getElem? (i := 199) rfl))) rfl), (X.1.2.2.2.2 _ (in_sel (q := (y_C_afterVectorLow, 13)) (by decide +kernel) rfl))⟩
theorem NC_C_afterWrite_118 {rm : Room} (X : FX p m c cc nL s args "ClockedChip" g A) (hc : rm.cells = 0) (hs : rm.slots = 0) (hR : rm.frames + 1 ≤ R.frames ∧ 8 + (1 + 11) + rm.locals ≤ R.locals) : CNO R s args "ClockedChip" 118 y_C_afterWrite c_C_afterWrite 1 none rm 0 :=
  ⟨callB_of 0 X.1.2.2.2.2 (goodIn_code w_C_afterWrite) rfl hc hs (X.1.2.2.2.2 _ (in_ALL (List.mem_append_left _ (List.mem_of_getElem? (i := 1) rfl)) rfl)) (X.1.2.2.2.2 _ (in_ALL (List.mem_append_left _ (List.mem_of_getElem? (i := 144) rfl)) rfl)) ⟨by decide, by decide, by decide +kernel⟩ hR, X.1.2.2.2.2 _ (in_ALL (List.mem_append_left _ (List.mem_of_getElem? (i := 146) rfl)) rfl), (X.1.2.2.2.2 _ (in_sel (q := (y_C_afterWrite, 13)) (by decide +kernel) rfl))⟩
theorem NC_C_afterZeroByte_191 {rm : Room} (X : FX p m c cc nL s args "ClockedChip" g A) (hc : rm.cells = 0) (hs : rm.slots = 0) (hR : rm.frames + 1 ≤ R.frames ∧ 8 + (2 + 11) + rm.locals ≤ R.locals) : CNO R s args "ClockedChip" 191 y_C_afterZeroByte c_C_afterZeroByte 2 none rm 1 :=
  ⟨callB_of 1 X.1.2.2.2.2 (goodIn_code w_C_afterZeroByte) rfl hc hs (X.1.2.2.2.2 _ (in_ALL (List.mem_append_left _ (List.mem_of_getElem? (i := 1) rfl)) rfl)) (X.1.2.2.2.2 _ (in_ALL (List.mem_append_right _ (List.mem_append_left _ (List.mem_of_getElem? (i := 73) rfl))) rfl)) ⟨by decide, by decide, by decide +kernel⟩ hR, X.1.2.2.2.2 _ (in_ALL (List.mem_append_right _ (List.mem_append_left _ (List.mem_of_getElem? (i := 75) rfl))) rfl), (X.1.2.2.2.2 _ (in_sel (q := (y_C_afterZeroByte, 13)) (by decide +kernel) rfl))⟩
theorem NC_C_afterZeroIdle_194 {rm : Room} (X : FX p m c cc nL s args "ClockedChip" g A) (hc : rm.cells = 0) (hs : rm.slots = 0) (hR : rm.frames + 1 ≤ R.frames ∧ 8 + (2 + 11) + rm.locals ≤ R.locals) : CNO R s args "ClockedChip" 194 y_C_afterZeroIdle c_C_afterZeroIdle 2 none rm 0 :=
  ⟨callB_of 0 X.1.2.2.2.2 (goodIn_code w_C_afterZeroIdle) rfl hc hs (X.1.2.2.2.2 _ (in_ALL (List.mem_append_left _ (List.mem_of_getElem? (i := 1) rfl)) rfl)) (X.1.2.2.2.2 _ (in_ALL (List.mem_append_right _ (List.mem_append_left _ (List.mem_of_getElem? (i := 91) rfl))) rfl)) ⟨by decide, by decide, by decide +kernel⟩ hR, X.1.2.2.2.2 _ (in_ALL (List.mem_append_right _ (List.mem_append_left _ (List.mem_of_getElem? (i := 93) rfl))) rfl), (X.1.2.2.2.2 _ (in_sel (q := (y_C_afterZeroIdle, 13)) (by decide +kernel) rfl))⟩
theorem NC_C_begin_70 {rm : Room} (X : FX p m c cc nL s args "ClockedChip" g A) (hc : rm.cells = 0) (hs : rm.slots = 0) (hR : rm.frames + 1 ≤ R.frames ∧ 8 + (3 + 11) + rm.locals ≤ R.locals) : CNO R s args "ClockedChip" 70 y_C_begin c_C_begin 3 none rm 2 :=
  ⟨callB_of 2 X.1.2.2.2.2 (goodIn_code w_C_begin) rfl hc hs (X.1.2.2.2.2 _ (in_ALL (List.mem_append_left _ (List.mem_of_getElem? (i := 1) rfl)) rfl)) (X.1.2.2.2.2 _ (in_ALL (List.mem_append_left _ (List.mem_of_getElem? (i := 175) rfl)) rfl)) ⟨by decide, by decide, by decide +kernel⟩ hR, X.1.2.2.2.2 _ (in_ALL (List.mem_append_left _ (List.mem_of_getElem? (i := 177) rfl)) rfl), (X.1.2.2.2.2 _ (in_sel (q := (y_C_begin, 13)) (by decide +kernel) rfl))⟩
theorem NC_C_byteToWrite_115 {rm : Room} (X : FX p m c cc nL s args "ClockedChip" g A) (hc : rm.cells = 0) (hs : rm.slots = 0) (hR : rm.frames + 1 ≤ R.frames ∧ 8 + (1 + 11) + rm.locals ≤ R.locals) : CNO R s args "ClockedChip" 115 y_C_byteToWrite c_C_byteToWrite 1 (some .int) rm 0 :=
  ⟨callB_of 0 X.1.2.2.2.2 (goodIn_code w_C_byteToWrite) rfl hc hs (X.1.2.2.2.2 _ (in_ALL (List.mem_append_left _ (List.mem_of_getElem? (i := 1) rfl)) rfl)) (X.1.2.2.2.2 _ (in_ALL (List.mem_append_left _ (List.mem_of_getElem? (i := 122) rfl)) rfl)) ⟨by decide, by decide, by decide +kernel⟩ hR, X.1.2.2.2.2 _ (in_ALL (List.mem_append_left _ (List.mem_of_getElem? (i := 124) rfl)) rfl), (X.1.2.2.2.2 _ (in_sel (q := (y_C_byteToWrite, 13)) (by decide +kernel) rfl))⟩
theorem NC_C_end_161 {rm : Room} (X : FX p m c cc nL s args "ClockedChip" g A) (hc : rm.cells = 0) (hs : rm.slots = 0) (hR : rm.frames + 1 ≤ R.frames ∧ 8 + (2 + 11) + rm.locals ≤ R.locals) : CNO R s args "ClockedChip" 161 y_C_end c_C_end 2 none rm 0 :=
  ⟨callB_of 0 X.1.2.2.2.2 (goodIn_code w_C_end) rfl hc hs (X.1.2.2.2.2 _ (in_ALL (List.mem_append_left _ (List.mem_of_getElem? (i := 1) rfl)) rfl)) (X.1.2.2.2.2 _ (in_ALL (List.mem_append_left _ (List.mem_of_getElem? (i := 163) rfl)) rfl)) ⟨by decide, by decide, by decide +kernel⟩ hR, X.1.2.2.2.2 _ (in_ALL (List.mem_append_left _ (List.mem_of_getElem? (i := 165) rfl)) rfl), (X.1.2.2.2.2 _ (in_sel (q := (y_C_end, 13)) (by decide +kernel) rfl))⟩
theorem NC_C_goTo_224 {rm : Room} (X : FX p m c cc nL s args "ClockedChip" g A) (hc : rm.cells = 0) (hs : rm.slots = 0) (hR : rm.frames + 1 ≤ R.frames ∧ 8 + (2 + 11) + rm.locals ≤ R.locals) : CNO R s args "ClockedChip" 224 y_C_goTo c_C_goTo 2 none rm 1 :=
  ⟨callB_of 1 X.1.2.2.2.2 (goodIn_code w_C_goTo) rfl hc hs (X.1.2.2.2.2 _ (in_ALL (List.mem_append_left _ (List.mem_of_getElem? (i := 1) rfl)) rfl)) (X.1.2.2.2.2 _ (in_ALL (List.mem_append_right _ (List.mem_append_left _ (List.mem_of_getElem? (i := 121) rfl))) rfl)) ⟨by decide, by decide, by decide +kernel⟩ hR, X.1.2.2.2.2 _ (in_ALL (List.mem_append_right _ (List.mem_append_left _ (List.mem_of_getElem? (i := 123) rfl))) rfl), (X.1.2.2.2.2 _ (in_sel (q := (y_C_goTo, 13)) (by decide +kernel) rfl))⟩
theorem NC_C_kindWithOperand_281 {rm : Room} (X : FX p m c cc nL s args "ClockedChip" g A) (hc : rm.cells = 0) (hs : rm.slots = 0) (hR : rm.frames + 1 ≤ R.frames ∧ 8 + (1 + 11) + rm.locals ≤ R.locals) : CNO R s args "ClockedChip" 281 y_C_kindWithOperand c_C_kindWithOperand 1 (some (.object "ClockedChip$Kind")) rm 0 :=
  ⟨callB_of 0 X.1.2.2.2.2 (goodIn_code w_C_kindWithOperand) rfl hc hs (X.1.2.2.2.2 _ (in_ALL (List.mem_append_left _ (List.mem_of_getElem? (i := 1) rfl)) rfl)) (X.1.2.2.2.2 _ (in_ALL (List.mem_append_left _ (List.mem_of_getElem? (i := 223) rfl)) rfl)) ⟨by decide, by decide, by decide +kernel⟩ hR, X.1.2.2.2.2 _ (in_ALL (List.mem_append_left _ (List.mem_of_getElem? (i := 225) rfl)) rfl), (X.1.2.2.2.2 _ (in_sel (q := (y_C_kindWithOperand, 13)) (by decide +kernel) rfl))⟩
theorem NC_C_kindWithoutOperand_277 {rm : Room} (X : FX p m c cc nL s args "ClockedChip" g A) (hc : rm.cells = 0) (hs : rm.slots = 0) (hR : rm.frames + 1 ≤ R.frames ∧ 8 + (1 + 11) + rm.locals ≤ R.locals) : CNO R s args "ClockedChip" 277 y_C_kindWithoutOperand c_C_kindWithoutOperand 1 (some (.object "ClockedChip$Kind")) rm 0 :=
  ⟨callB_of 0 X.1.2.2.2.2 (goodIn_code w_C_kindWithoutOperand) rfl hc hs (X.1.2.2.2.2 _ (in_ALL (List.mem_append_left _ (List.mem_of_getElem? (i := 1) rfl)) rfl)) (X.1.2.2.2.2 _ (in_ALL (List.mem_append_left _ (List.mem_of_getElem? (i := 207) rfl)) rfl)) ⟨by decide, by decide, by decide +kernel⟩ hR, X.1.2.2.2.2 _ (in_ALL (List.mem_append_left _ (List.mem_of_getElem? (i := 209) rfl)) rfl), (X.1.2.2.2.2 _ (in_sel (q := (y_C_kindWithoutOperand, 13)) (by decide +kernel) rfl))⟩
theorem NC_C_runCycle_42 {rm : Room} (X : FX p m c cc nL s args "ClockedChip" g A) (hc : rm.cells = 0) (hs : rm.slots = 0) (hR : rm.frames + 1 ≤ R.frames ∧ 8 + (3 + 11) + rm.locals ≤ R.locals) : CNO R s args "ClockedChip" 42 y_C_runCycle c_C_runCycle 3 (some .int) rm 0 :=
  ⟨callB_of 0 X.1.2.2.2.2 (goodIn_code w_C_runCycle) rfl hc hs (X.1.2.2.2.2 _ (in_ALL (List.mem_append_left _ (List.mem_of_getElem? (i := 1) rfl)) rfl)) (X.1.2.2.2.2 _ (in_ALL (List.mem_append_left _ (List.mem_of_getElem? (i := 110) rfl)) rfl)) ⟨by decide, by decide, by decide +kernel⟩ hR, X.1.2.2.2.2 _ (in_ALL (List.mem_append_left _ (List.mem_of_getElem? (i := 112) rfl)) rfl), (X.1.2.2.2.2 _ (in_sel (q := (y_C_runCycle, 13)) (by decide +kernel) rfl))⟩
theorem NC_C_secondStepByMode_324 {rm : Room} (X : FX p m c cc nL s args "ClockedChip" g A) (hc : rm.cells = 0) (hs : rm.slots = 0) (hR : rm.frames + 1 ≤ R.frames ∧ 8 + (1 + 11) + rm.locals ≤ R.locals) : CNO R s args "ClockedChip" 324 y_C_secondStepByMode c_C_secondStepByMode 1 (some (.object "ClockedChip$Step")) rm 0 :=
  ⟨callB_of 0 X.1.2.2.2.2 (goodIn_code w_C_secondStepByMode) rfl hc hs (X.1.2.2.2.2 _ (in_ALL (List.mem_append_left _ (List.mem_of_getElem? (i := 1) rfl)) rfl)) (X.1.2.2.2.2 _ (in_ALL (List.mem_append_right _ (List.mem_append_left _ (List.mem_of_getElem? (i := 6) rfl))) rfl)) ⟨by decide, by decide, by decide +kernel⟩ hR, X.1.2.2.2.2 _ (in_ALL (List.mem_append_right _ (List.mem_append_left _ (List.mem_of_getElem? (i := 8) rfl))) rfl), (X.1.2.2.2.2 _ (in_sel (q := (y_C_secondStepByMode, 13)) (by decide +kernel) rfl))⟩
theorem NC_C_secondStep_284 {rm : Room} (X : FX p m c cc nL s args "ClockedChip" g A) (hc : rm.cells = 0) (hs : rm.slots = 0) (hR : rm.frames + 1 ≤ R.frames ∧ 8 + (1 + 11) + rm.locals ≤ R.locals) : CNO R s args "ClockedChip" 284 y_C_secondStep c_C_secondStep 1 (some (.object "ClockedChip$Step")) rm 0 :=
  ⟨callB_of 0 X.1.2.2.2.2 (goodIn_code w_C_secondStep) rfl hc hs (X.1.2.2.2.2 _ (in_ALL (List.mem_append_left _ (List.mem_of_getElem? (i := 1) rfl)) rfl)) (X.1.2.2.2.2 _ (in_ALL (List.mem_append_left _ (List.mem_of_getElem? (i := 237) rfl)) rfl)) ⟨by decide, by decide, by decide +kernel⟩ hR, X.1.2.2.2.2 _ (in_ALL (List.mem_append_left _ (List.mem_of_getElem? (i := 239) rfl)) rfl), (X.1.2.2.2.2 _ (in_sel (q := (y_C_secondStep, 13)) (by decide +kernel) rfl))⟩
theorem NC_C_stepAfterStackIdle_236 {rm : Room} (X : FX p m c cc nL s args "ClockedChip" g A) (hc : rm.cells = 0) (hs : rm.slots = 0) (hR : rm.frames + 1 ≤ R.frames ∧ 8 + (1 + 11) + rm.locals ≤ R.locals) : CNO R s args "ClockedChip" 236 y_C_stepAfterStackIdle c_C_stepAfterStackIdle 1 (some (.object "ClockedChip$Step")) rm 0 :=
  ⟨callB_of 0 X.1.2.2.2.2 (goodIn_code w_C_stepAfterStackIdle) rfl hc hs (X.1.2.2.2.2 _ (in_ALL (List.mem_append_left _ (List.mem_of_getElem? (i := 1) rfl)) rfl)) (X.1.2.2.2.2 _ (in_ALL (List.mem_append_right _ (List.mem_append_left _ (List.mem_of_getElem? (i := 168) rfl))) rfl)) ⟨by decide, by decide, by decide +kernel⟩ hR, X.1.2.2.2.2 _ (in_ALL (List.mem_append_right _ (List.mem_append_left _ (List.mem_of_getElem? (i := 170) rfl))) rfl), (X.1.2.2.2.2 _ (in_sel (q := (y_C_stepAfterStackIdle, 13)) (by decide +kernel) rfl))⟩
theorem NC_R_changed_147 {rm : Room} (X : FX p m c cc nL s args "ClockedChip" g A) (hc : rm.cells = 0) (hs : rm.slots = 0) (hR : rm.frames + 1 ≤ R.frames ∧ 8 + (3 + 11) + rm.locals ≤ R.locals) : CNV R s args "ClockedChip" "ClockedChip" 147 y_R_changed c_R_changed 3 (some .int) rm 2 :=
  ⟨va_cnB 2 X.1.2.2.2.2 (goodIn_code w_R_changed) rfl hc hs (X.2.2.1.2.2.2.2.2.2 _ (List.mem_append_left _ (List.mem_of_getElem? (i := 134) rfl)) rfl) (X.1.2.2.2.2 _ (in_ALL (List.mem_append_left _ (List.mem_of_getElem? (i := 2) rfl)) rfl)) ⟨by decide, by decide, by decide +kernel⟩ hR, X.1.2.2.2.2 _ (in_ALL (List.mem_append_left _ (List.mem_of_getElem? (i := 136) rfl)) rfl), (X.1.2.2.2.2 _ (in_sel (q := (y_R_changed, 6)) (by decide +kernel) rfl))⟩
theorem NC_R_flagsOfChange_157 {rm : Room} (X : FX p m c cc nL s args "ClockedChip" g A) (hc : rm.cells = 0) (hs : rm.slots = 0) (hR : rm.frames + 1 ≤ R.frames ∧ 8 + (3 + 11) + rm.locals ≤ R.locals) : CNV R s args "ClockedChip" "ClockedChip" 157 y_R_flagsOfChange c_R_flagsOfChange 3 none rm 2 :=
  ⟨va_cnB 2 X.1.2.2.2.2 (goodIn_code w_R_flagsOfChange) rfl hc hs (X.2.2.1.2.2.2.2.2.2 _ (List.mem_append_left _ (List.mem_of_getElem? (i := 150) rfl)) rfl) (X.1.2.2.2.2 _ (in_ALL (List.mem_append_left _ (List.mem_of_getElem? (i := 2) rfl)) rfl)) ⟨by decide, by decide, by decide +kernel⟩ hR, X.1.2.2.2.2 _ (in_ALL (List.mem_append_left _ (List.mem_of_getElem? (i := 152) rfl)) rfl), (X.1.2.2.2.2 _ (in_sel (q := (y_R_flagsOfChange, 6)) (by decide +kernel) rfl))⟩
theorem NC_R_has_267 {rm : Room} (X : FX p m c cc nL s args "ClockedChip" g A) (hc : rm.cells = 0) (hs : rm.slots = 0) (hR : rm.frames + 1 ≤ R.frames ∧ 8 + (2 + 11) + rm.locals ≤ R.locals) : CNV R s args "ClockedChip" "ClockedChip" 267 y_R_has c_R_has 2 (some .boolean) rm 1 :=
  ⟨va_cnB 1 X.1.2.2.2.2 (goodIn_code w_R_has) rfl hc hs (X.2.2.1.2.2.2.2.2.2 _ (List.mem_append_left _ (List.mem_of_getElem? (i := 167) rfl)) rfl) (X.1.2.2.2.2 _ (in_ALL (List.mem_append_left _ (List.mem_of_getElem? (i := 2) rfl)) rfl)) ⟨by decide, by decide, by decide +kernel⟩ hR, X.1.2.2.2.2 _ (in_ALL (List.mem_append_left _ (List.mem_of_getElem? (i := 169) rfl)) rfl), (X.1.2.2.2.2 _ (in_sel (q := (y_R_has, 6)) (by decide +kernel) rfl))⟩
theorem NC_R_loadA_396 {rm : Room} (X : FX p m c cc nL s args "ClockedChip" g A) (hc : rm.cells = 0) (hs : rm.slots = 0) (hR : rm.frames + 1 ≤ R.frames ∧ 8 + (2 + 11) + rm.locals ≤ R.locals) : CNV R s args "ClockedChip" "ClockedChip" 396 y_R_loadA c_R_loadA 2 none rm 1 :=
  ⟨va_cnB 1 X.1.2.2.2.2 (goodIn_code w_R_loadA) rfl hc hs (X.2.2.1.2.2.2.2.2.2 _ (List.mem_append_right _ (List.mem_append_left _ (List.mem_of_getElem? (i := 184) rfl))) rfl) (X.1.2.2.2.2 _ (in_ALL (List.mem_append_left _ (List.mem_of_getElem? (i := 2) rfl)) rfl)) ⟨by decide, by decide, by decide +kernel⟩ hR, X.1.2.2.2.2 _ (in_ALL (List.mem_append_right _ (List.mem_append_left _ (List.mem_of_getElem? (i := 30) rfl))) rfl), (X.1.2.2.2.2 _ (in_sel (q := (y_R_loadA, 6)) (by decide +kernel) rfl))⟩
theorem NC_R_moveStack_164 {rm : Room} (X : FX p m c cc nL s args "ClockedChip" g A) (hc : rm.cells = 0) (hs : rm.slots = 0) (hR : rm.frames + 1 ≤ R.frames ∧ 8 + (2 + 11) + rm.locals ≤ R.locals) : CNV R s args "ClockedChip" "ClockedChip" 164 y_R_moveStack c_R_moveStack 2 none rm 1 :=
  ⟨va_cnB 1 X.1.2.2.2.2 (goodIn_code w_R_moveStack) rfl hc hs (X.2.2.1.2.2.2.2.2.2 _ (List.mem_append_left _ (List.mem_of_getElem? (i := 179) rfl)) rfl) (X.1.2.2.2.2 _ (in_ALL (List.mem_append_left _ (List.mem_of_getElem? (i := 2) rfl)) rfl)) ⟨by decide, by decide, by decide +kernel⟩ hR, X.1.2.2.2.2 _ (in_ALL (List.mem_append_left _ (List.mem_of_getElem? (i := 181) rfl)) rfl), (X.1.2.2.2.2 _ (in_sel (q := (y_R_moveStack, 6)) (by decide +kernel) rfl))⟩
theorem NC_R_nextPc_185 {rm : Room} (X : FX p m c cc nL s args "ClockedChip" g A) (hc : rm.cells = 0) (hs : rm.slots = 0) (hR : rm.frames + 1 ≤ R.frames ∧ 8 + (1 + 11) + rm.locals ≤ R.locals) : CNV R s args "ClockedChip" "ClockedChip" 185 y_R_nextPc c_R_nextPc 1 none rm 0 :=
  ⟨va_cnB 0 X.1.2.2.2.2 (goodIn_code w_R_nextPc) rfl hc hs (X.2.2.1.2.2.2.2.2.2 _ (List.mem_append_left _ (List.mem_of_getElem? (i := 202) rfl)) rfl) (X.1.2.2.2.2 _ (in_ALL (List.mem_append_left _ (List.mem_of_getElem? (i := 2) rfl)) rfl)) ⟨by decide, by decide, by decide +kernel⟩ hR, X.1.2.2.2.2 _ (in_ALL (List.mem_append_left _ (List.mem_of_getElem? (i := 204) rfl)) rfl), (X.1.2.2.2.2 _ (in_sel (q := (y_R_nextPc, 6)) (by decide +kernel) rfl))⟩
theorem NC_R_operateAlone_384 {rm : Room} (X : FX p m c cc nL s args "ClockedChip" g A) (hc : rm.cells = 0) (hs : rm.slots = 0) (hR : rm.frames + 1 ≤ R.frames ∧ 8 + (2 + 11) + rm.locals ≤ R.locals) : CNV R s args "ClockedChip" "ClockedChip" 384 y_R_operateAlone c_R_operateAlone 2 none rm 1 :=
  ⟨va_cnB 1 X.1.2.2.2.2 (goodIn_code w_R_operateAlone) rfl hc hs (X.2.2.1.2.2.2.2.2.2 _ (List.mem_append_right _ (List.mem_append_left _ (List.mem_of_getElem? (i := 158) rfl))) rfl) (X.1.2.2.2.2 _ (in_ALL (List.mem_append_left _ (List.mem_of_getElem? (i := 2) rfl)) rfl)) ⟨by decide, by decide, by decide +kernel⟩ hR, X.1.2.2.2.2 _ (in_ALL (List.mem_append_right _ (List.mem_append_left _ (List.mem_of_getElem? (i := 160) rfl))) rfl), (X.1.2.2.2.2 _ (in_sel (q := (y_R_operateAlone, 6)) (by decide +kernel) rfl))⟩
theorem NC_R_operate_188 {rm : Room} (X : FX p m c cc nL s args "ClockedChip" g A) (hc : rm.cells = 0) (hs : rm.slots = 0) (hR : rm.frames + 1 ≤ R.frames ∧ 8 + (3 + 11) + rm.locals ≤ R.locals) : CNV R s args "ClockedChip" "ClockedChip" 188 y_R_operate c_R_operate 3 none rm 2 :=
  ⟨va_cnB 2 X.1.2.2.2.2 (goodIn_code w_R_operate) rfl hc hs (X.2.2.1.2.2.2.2.2.2 _ (List.mem_append_right _ (List.mem_append_left _ (List.mem_of_getElem? (i := 24) rfl))) rfl) (X.1.2.2.2.2 _ (in_ALL (List.mem_append_left _ (List.mem_of_getElem? (i := 2) rfl)) rfl)) ⟨by decide, by decide, by decide +kernel⟩ hR, X.1.2.2.2.2 _ (in_ALL (List.mem_append_right _ (List.mem_append_left _ (List.mem_of_getElem? (i := 26) rfl))) rfl), (X.1.2.2.2.2 _ (in_sel (q := (y_R_operate, 6)) (by decide +kernel) rfl))⟩
theorem NC_R_p_89 {rm : Room} (X : FX p m c cc nL s args "ClockedChip" g A) (hc : rm.cells = 0) (hs : rm.slots = 0) (hR : rm.frames + 1 ≤ R.frames ∧ 8 + (1 + 11) + rm.locals ≤ R.locals) : CNV R s args "ClockedChip" "ClockedChip" 89 y_R_p c_R_p 1 (some .int) rm 0 :=
  ⟨va_cnB 0 X.1.2.2.2.2 (goodIn_code w_R_p) rfl hc hs (X.2.2.1.2.2.2.2.2.2 _ (List.mem_append_left _ (List.mem_of_getElem? (i := 138) rfl)) rfl) (X.1.2.2.2.2 _ (in_ALL (List.mem_append_left _ (List.mem_of_getElem? (i := 2) rfl)) rfl)) ⟨by decide, by decide, by decide +kernel⟩ hR, X.1.2.2.2.2 _ (in_ALL (List.mem_append_left _ (List.mem_of_getElem? (i := 140) rfl)) rfl), (X.1.2.2.2.2 _ (in_sel (q := (y_R_p, 6)) (by decide +kernel) rfl))⟩
theorem NC_R_put_105 {rm : Room} (X : FX p m c cc nL s args "ClockedChip" g A) (hc : rm.cells = 0) (hs : rm.slots = 0) (hR : rm.frames + 1 ≤ R.frames ∧ 8 + (3 + 11) + rm.locals ≤ R.locals) : CNV R s args "ClockedChip" "ClockedChip" 105 y_R_put c_R_put 3 none rm 2 :=
  ⟨va_cnB 2 X.1.2.2.2.2 (goodIn_code w_R_put) rfl hc hs (X.2.2.1.2.2.2.2.2.2 _ (List.mem_append_left _ (List.mem_of_getElem? (i := 191) rfl)) rfl) (X.1.2.2.2.2 _ (in_ALL (List.mem_append_left _ (List.mem_of_getElem? (i := 2) rfl)) rfl)) ⟨by decide, by decide, by decide +kernel⟩ hR, X.1.2.2.2.2 _ (in_ALL (List.mem_append_left _ (List.mem_of_getElem? (i := 156) rfl)) rfl), (X.1.2.2.2.2 _ (in_sel (q := (y_R_put, 6)) (by decide +kernel) rfl))⟩
theorem NC_R_takeFlags_102 {rm : Room} (X : FX p m c cc nL s args "ClockedChip" g A) (hc : rm.cells = 0) (hs : rm.slots = 0) (hR : rm.frames + 1 ≤ R.frames ∧ 8 + (2 + 11) + rm.locals ≤ R.locals) : CNV R s args "ClockedChip" "ClockedChip" 102 y_R_takeFlags c_R_takeFlags 2 none rm 1 :=
  ⟨va_cnB 1 X.1.2.2.2.2 (goodIn_code w_R_takeFlags) rfl hc hs (X.2.2.1.2.2.2.2.2.2 _ (List.mem_append_right _ (List.mem_append_left _ (List.mem_of_getElem? (i := 180) rfl))) rfl) (X.1.2.2.2.2 _ (in_ALL (List.mem_append_left _ (List.mem_of_getElem? (i := 2) rfl)) rfl)) ⟨by decide, by decide, by decide +kernel⟩ hR, X.1.2.2.2.2 _ (in_ALL (List.mem_append_right _ (List.mem_append_left _ (List.mem_of_getElem? (i := 182) rfl))) rfl), (X.1.2.2.2.2 _ (in_sel (q := (y_R_takeFlags, 6)) (by decide +kernel) rfl))⟩
theorem NC_R_takesBranch_374 {rm : Room} (X : FX p m c cc nL s args "ClockedChip" g A) (hc : rm.cells = 0) (hs : rm.slots = 0) (hR : rm.frames + 1 ≤ R.frames ∧ 8 + (3 + 11) + rm.locals ≤ R.locals) : CNV R s args "ClockedChip" "ClockedChip" 374 y_R_takesBranch c_R_takesBranch 3 (some .boolean) rm 1 :=
  ⟨va_cnB 1 X.1.2.2.2.2 (goodIn_code w_R_takesBranch) rfl hc hs (X.2.2.1.2.2.2.2.2.2 _ (List.mem_append_right _ (List.mem_append_left _ (List.mem_of_getElem? (i := 135) rfl))) rfl) (X.1.2.2.2.2 _ (in_ALL (List.mem_append_left _ (List.mem_of_getElem? (i := 2) rfl)) rfl)) ⟨by decide, by decide, by decide +kernel⟩ hR, X.1.2.2.2.2 _ (in_ALL (List.mem_append_right _ (List.mem_append_left _ (List.mem_of_getElem? (i := 137) rfl))) rfl), (X.1.2.2.2.2 _ (in_sel (q := (y_R_takesBranch, 6)) (by decide +kernel) rfl))⟩
theorem OC_knd {k : Fin 16} (X : FX p m c cc nL s args "ClockedChip" g A) (hC : HC g A s ws H locs) (hsize : ls.size = nL) (hroom : (rest.map fun v => v.category).sum ≤ 8) (hR : 1 ≤ R.frames ∧ 20 ≤ R.locals) (hf : cells ≤ R.cells ∧ slots ≤ R.slots) (hdg : decode cc pc = .ok (.invokevirtual 323, 3)) (kk : W p l e R s m args below meth c H locs cells slots Q (F0 m (pc + 3) ls (.int (oK k) :: rest))) : W p l e R s m args below meth c H locs cells slots Q (F0 m pc ls (.ref (g.adK k.val) :: rest)) :=
  ordRow (E := "ClockedChip$Kind") X (X.2.2.1.2.1.1 k.val k.isLt).2.1 ((X.2.2.1.2.1.1 k.val k.isLt).2.2 ("java/lang/Enum", "ordinal", "I", oLK) List.mem_cons_self) hC hsize hroom hR hf (X.1.2.2.2.2 _ (in_ALL (List.mem_append_right _ (List.mem_append_left _ (List.mem_of_getElem? (i := 3) rfl))) rfl)) (X.1.2.2.2.2 _ (in_ALL (List.mem_append_right _ (List.mem_append_left _ (List.mem_of_getElem? (i := 4) rfl))) rfl)) (X.1.2.2.2.2 _ (in_ALL (List.mem_append_right _ (List.mem_append_left _ (List.mem_of_getElem? (i := 5) rfl))) rfl)) hdg kk
theorem OC_stp {k : Fin 35} (X : FX p m c cc nL s args "ClockedChip" g A) (hC : HC g A s ws H locs) (hsize : ls.size = nL) (hroom : (rest.map fun v => v.category).sum ≤ 8) (hR : 1 ≤ R.frames ∧ 20 ≤ R.locals) (hf : cells ≤ R.cells ∧ slots ≤ R.slots) (hdg : decode cc pc = .ok (.invokevirtual 138, 3)) (kk : W p l e R s m args below meth c H locs cells slots Q (F0 m (pc + 3) ls (.int (oS k) :: rest))) : W p l e R s m args below meth c H locs cells slots Q (F0 m pc ls (.ref (g.adS k.val) :: rest)) :=
  ordRow (E := "ClockedChip$Step") X (X.2.2.1.1.1 k.val k.isLt).2.1 ((X.2.2.1.1.1 k.val k.isLt).2.2 ("java/lang/Enum", "ordinal", "I", oLS) List.mem_cons_self) hC hsize hroom hR hf (X.1.2.2.2.2 _ (in_ALL (List.mem_append_left _ (List.mem_of_getElem? (i := 128) rfl)) rfl)) (X.1.2.2.2.2 _ (in_ALL (List.mem_append_left _ (List.mem_of_getElem? (i := 129) rfl)) rfl)) (X.1.2.2.2.2 _ (in_ALL (List.mem_append_left _ (List.mem_of_getElem? (i := 131) rfl)) rfl)) hdg kk
theorem PCR_pc (X : FX p m c cc nL s args "ClockedChip" g A) (hC : HC g A s (wC g rt o st) H locs) {x : Int32} (hdg : decode cc pc = .ok (.putfield 86, 3)) (kk : ∀ (u : CS) (H1 : Heap) (locs1 : List Loc), sV st 4 x = u → HC g A s (wC g rt o u) H1 locs1 → W p l e R s m args below meth c H1 locs1 cells slots Q (F0 m (pc + 3) ls rest)) : W p l e R s m args below meth c H locs cells slots Q (F0 m pc ls (.int x :: .ref g.regs :: rest)) :=
  va_putN (D := g.1) (ci := 1) (v := .int x) (ty := .int) (C := "ClockedChip$Registers") (T := TR) (N := 6) X.1.1 X.1.2.1 X.1.2.2.2.2 in_R tyR tyR_ok nmR X.1.2.2.2.1 X.2.1 hC.1 hC.2.1 hC.2.2 3 rfl rfl 4 (by decide) (va_Nw.use rfl (X.2.2.1.2.2.2.2.2.2 _ (List.mem_append_left _ (List.mem_of_getElem? (i := 37) rfl)) rfl)) (fun _ h9 => h9) rfl (by decide +kernel) rfl rfl (Nat.le_of_ble_eq_true rfl) hdg (fun H1 locs1 hP hD hS => kk _ H1 locs1 rfl ⟨hP, hD, hS⟩)
theorem PC_aim (X : FX p m c cc nL s args "ClockedChip" g A) (hC : HC g A s (wC g rt o st) H locs) {x : Int32} (hdg : decode cc pc = .ok (.putfield 127, 3)) (kk : ∀ (u : CS) (H1 : Heap) (locs1 : List Loc), sV st 11 x = u → HC g A s (wC g rt o u) H1 locs1 → W p l e R s m args below meth c H1 locs1 cells slots Q (F0 m (pc + 3) ls rest)) : W p l e R s m args below meth c H locs cells slots Q (F0 m pc ls (.int x :: .ref g.chip :: rest)) :=
  va_put (D := g.1) (ci := 0) (v := .int x) (ty := .int) (C := "ClockedChip") (T := TC) (N := 13) X.1.1 X.1.2.1 X.1.2.2.2.2 in_C tyC tyC_ok nmC X.1.2.2.2.1 X.2.1 hC.1 hC.2.1 hC.2.2 0 rfl rfl 10 (by decide) (X.1.2.2.2.2 _ (in_ALL (List.mem_append_left _ (List.mem_of_getElem? (i := 68) rfl)) rfl)) (fun _ h9 => h9) rfl (by decide +kernel) rfl rfl (Nat.le_of_ble_eq_true rfl) hdg (fun H1 locs1 hP hD hS => kk _ H1 locs1 rfl ⟨hP, hD, hS⟩)
theorem PC_done (X : FX p m c cc nL s args "ClockedChip" g A) (hC : HC g A s (wC g rt o st) H locs) {x : Int32} (hdg : decode cc pc = .ok (.putfield 95, 3)) (kk : ∀ (u : CS) (H1 : Heap) (locs1 : List Loc), sV st 9 x = u → HC g A s (wC g rt o u) H1 locs1 → W p l e R s m args below meth c H1 locs1 cells slots Q (F0 m (pc + 3) ls rest)) : W p l e R s m args below meth c H locs cells slots Q (F0 m pc ls (.int x :: .ref g.chip :: rest)) :=
  va_put (D := g.1) (ci := 0) (v := .int x) (ty := .int) (C := "ClockedChip") (T := TC) (N := 13) X.1.1 X.1.2.1 X.1.2.2.2.2 in_C tyC tyC_ok nmC X.1.2.2.2.1 X.2.1 hC.1 hC.2.1 hC.2.2 0 rfl rfl 8 (by decide) (X.1.2.2.2.2 _ (in_ALL (List.mem_append_left _ (List.mem_of_getElem? (i := 66) rfl)) rfl)) (fun _ h9 => h9) rfl (by decide +kernel) rfl rfl (Nat.le_of_ble_eq_true rfl) hdg (fun H1 locs1 hP hD hS => kk _ H1 locs1 rfl ⟨hP, hD, hS⟩)
theorem PC_ended (X : FX p m c cc nL s args "ClockedChip" g A) (hC : HC g A s (wC g rt o st) H locs) {x : Int32} (hdg : decode cc pc = .ok (.putfield 49, 3)) (kk : ∀ (u : CS) (H1 : Heap) (locs1 : List Loc), sV st 10 x = u → HC g A s (wC g rt o u) H1 locs1 → W p l e R s m args below meth c H1 locs1 cells slots Q (F0 m (pc + 3) ls rest)) : W p l e R s m args below meth c H locs cells slots Q (F0 m pc ls (.int x :: .ref g.chip :: rest)) :=
  va_put (D := g.1) (ci := 0) (v := .int x) (ty := .int) (C := "ClockedChip") (T := TC) (N := 13) X.1.1 X.1.2.1 X.1.2.2.2.2 in_C tyC tyC_ok nmC X.1.2.2.2.1 X.2.1 hC.1 hC.2.1 hC.2.2 0 rfl rfl 9 (by decide) (X.1.2.2.2.2 _ (in_ALL (List.mem_append_left _ (List.mem_of_getElem? (i := 67) rfl)) rfl)) (fun _ h9 => h9) rfl (by decide +kernel) rfl rfl (Nat.le_of_ble_eq_true rfl) hdg (fun H1 locs1 hP hD hS => kk _ H1 locs1 rfl ⟨hP, hD, hS⟩)
theorem PC_held (X : FX p m c cc nL s args "ClockedChip" g A) (hC : HC g A s (wC g rt o st) H locs) {x : Int32} (hdg : decode cc pc = .ok (.putfield 141, 3)) (kk : ∀ (u : CS) (H1 : Heap) (locs1 : List Loc), sV st 13 x = u → HC g A s (wC g rt o u) H1 locs1 → W p l e R s m args below meth c H1 locs1 cells slots Q (F0 m (pc + 3) ls rest)) : W p l e R s m args below meth c H locs cells slots Q (F0 m pc ls (.int x :: .ref g.chip :: rest)) :=
  va_put (D := g.1) (ci := 0) (v := .int x) (ty := .int) (C := "ClockedChip") (T := TC) (N := 13) X.1.1 X.1.2.1 X.1.2.2.2.2 in_C tyC tyC_ok nmC X.1.2.2.2.1 X.2.1 hC.1 hC.2.1 hC.2.2 0 rfl rfl 12 (by decide) (X.1.2.2.2.2 _ (in_ALL (List.mem_append_left _ (List.mem_of_getElem? (i := 70) rfl)) rfl)) (fun _ h9 => h9) rfl (by decide +kernel) rfl rfl (Nat.le_of_ble_eq_true rfl) hdg (fun H1 locs1 hP hD hS => kk _ H1 locs1 rfl ⟨hP, hD, hS⟩)
theorem PC_kind (X : FX p m c cc nL s args "ClockedChip" g A) (hC : HC g A s (wC g rt o st) H locs) {x : Fin 16} (hdg : decode cc pc = .ok (.putfield 39, 3)) (kk : ∀ (u : CS) (H1 : Heap) (locs1 : List Loc), sK st x = u → HC g A s (wC g rt o u) H1 locs1 → W p l e R s m args below meth c H1 locs1 cells slots Q (F0 m (pc + 3) ls rest)) : W p l e R s m args below meth c H locs cells slots Q (F0 m pc ls (.ref (g.adK x.val) :: .ref g.chip :: rest)) :=
  va_put (D := g.1) (ci := 0) (v := .ref (g.adK x.val)) (ty := .object "ClockedChip$Kind") (C := "ClockedChip") (T := TC) (N := 13) X.1.1 X.1.2.1 X.1.2.2.2.2 in_C tyC tyC_ok nmC X.1.2.2.2.1 X.2.1 hC.1 hC.2.1 hC.2.2 0 rfl rfl 5 (by decide) (X.1.2.2.2.2 _ (in_ALL (List.mem_append_left _ (List.mem_of_getElem? (i := 63) rfl)) rfl)) (fun _ h9 => h9) rfl (by decide +kernel) rfl rfl (Nat.le_of_ble_eq_true rfl) hdg (fun H1 locs1 hP hD hS => kk _ H1 locs1 rfl ⟨hP, hD, hS⟩)
theorem PC_mode (X : FX p m c cc nL s args "ClockedChip" g A) (hC : HC g A s (wC g rt o st) H locs) {x : Int32} (hdg : decode cc pc = .ok (.putfield 274, 3)) (kk : ∀ (u : CS) (H1 : Heap) (locs1 : List Loc), sV st 8 x = u → HC g A s (wC g rt o u) H1 locs1 → W p l e R s m args below meth c H1 locs1 cells slots Q (F0 m (pc + 3) ls rest)) : W p l e R s m args below meth c H locs cells slots Q (F0 m pc ls (.int x :: .ref g.chip :: rest)) :=
  va_put (D := g.1) (ci := 0) (v := .int x) (ty := .int) (C := "ClockedChip") (T := TC) (N := 13) X.1.1 X.1.2.1 X.1.2.2.2.2 in_C tyC tyC_ok nmC X.1.2.2.2.1 X.2.1 hC.1 hC.2.1 hC.2.2 0 rfl rfl 7 (by decide) (X.1.2.2.2.2 _ (in_ALL (List.mem_append_left _ (List.mem_of_getElem? (i := 65) rfl)) rfl)) (fun _ h9 => h9) rfl (by decide +kernel) rfl rfl (Nat.le_of_ble_eq_true rfl) hdg (fun H1 locs1 hP hD hS => kk _ H1 locs1 rfl ⟨hP, hD, hS⟩)
theorem PC_nmiWanted (X : FX p m c cc nL s args "ClockedChip" g A) (hC : HC g A s (wC g rt o st) H locs) {x : Int32} (hz : x = 0 ∨ x = 1) (hdg : decode cc pc = .ok (.putfield 60, 3)) (kk : ∀ (u : CS) (H1 : Heap) (locs1 : List Loc), sV st 6 x = u → HC g A s (wC g rt o u) H1 locs1 → W p l e R s m args below meth c H1 locs1 cells slots Q (F0 m (pc + 3) ls rest)) : W p l e R s m args below meth c H locs cells slots Q (F0 m pc ls (.int x :: .ref g.chip :: rest)) :=
  va_put (D := g.1) (ci := 0) (v := .int x) (ty := .boolean) (C := "ClockedChip") (T := TC) (N := 13) X.1.1 X.1.2.1 X.1.2.2.2.2 in_C tyC tyC_ok nmC X.1.2.2.2.1 X.2.1 hC.1 hC.2.1 hC.2.2 0 rfl rfl 3 (by decide) (X.1.2.2.2.2 _ (in_ALL (List.mem_append_left _ (List.mem_of_getElem? (i := 61) rfl)) rfl)) (fun _ h9 => h9) rfl (by decide +kernel) (ck_nz hz) (ck_fz hz) (Nat.le_of_ble_eq_true rfl) hdg (fun H1 locs1 hP hD hS => kk _ H1 locs1 rfl ⟨hP, hD, hS⟩)
theorem PC_operation (X : FX p m c cc nL s args "ClockedChip" g A) (hC : HC g A s (wC g rt o st) H locs) {x : Int32} (hdg : decode cc pc = .ok (.putfield 144, 3)) (kk : ∀ (u : CS) (H1 : Heap) (locs1 : List Loc), sV st 7 x = u → HC g A s (wC g rt o u) H1 locs1 → W p l e R s m args below meth c H1 locs1 cells slots Q (F0 m (pc + 3) ls rest)) : W p l e R s m args below meth c H locs cells slots Q (F0 m pc ls (.int x :: .ref g.chip :: rest)) :=
  va_put (D := g.1) (ci := 0) (v := .int x) (ty := .int) (C := "ClockedChip") (T := TC) (N := 13) X.1.1 X.1.2.1 X.1.2.2.2.2 in_C tyC tyC_ok nmC X.1.2.2.2.1 X.2.1 hC.1 hC.2.1 hC.2.2 0 rfl rfl 6 (by decide) (X.1.2.2.2.2 _ (in_ALL (List.mem_append_left _ (List.mem_of_getElem? (i := 64) rfl)) rfl)) (fun _ h9 => h9) rfl (by decide +kernel) rfl rfl (Nat.le_of_ble_eq_true rfl) hdg (fun H1 locs1 hP hD hS => kk _ H1 locs1 rfl ⟨hP, hD, hS⟩)
theorem PC_step (X : FX p m c cc nL s args "ClockedChip" g A) (hC : HC g A s (wC g rt o st) H locs) {x : Fin 35} (hdg : decode cc pc = .ok (.putfield 30, 3)) (kk : ∀ (u : CS) (H1 : Heap) (locs1 : List Loc), sS st x = u → HC g A s (wC g rt o u) H1 locs1 → W p l e R s m args below meth c H1 locs1 cells slots Q (F0 m (pc + 3) ls rest)) : W p l e R s m args below meth c H locs cells slots Q (F0 m pc ls (.ref (g.adS x.val) :: .ref g.chip :: rest)) :=
  va_put (D := g.1) (ci := 0) (v := .ref (g.adS x.val)) (ty := .object "ClockedChip$Step") (C := "ClockedChip") (T := TC) (N := 13) X.1.1 X.1.2.1 X.1.2.2.2.2 in_C tyC tyC_ok nmC X.1.2.2.2.1 X.2.1 hC.1 hC.2.1 hC.2.2 0 rfl rfl 4 (by decide) (X.1.2.2.2.2 _ (in_ALL (List.mem_append_left _ (List.mem_of_getElem? (i := 62) rfl)) rfl)) (fun _ h9 => h9) rfl (by decide +kernel) rfl rfl (Nat.le_of_ble_eq_true rfl) hdg (fun H1 locs1 hP hD hS => kk _ H1 locs1 rfl ⟨hP, hD, hS⟩)
theorem PC_target (X : FX p m c cc nL s args "ClockedChip" g A) (hC : HC g A s (wC g rt o st) H locs) {x : Int32} (hdg : decode cc pc = .ok (.putfield 209, 3)) (kk : ∀ (u : CS) (H1 : Heap) (locs1 : List Loc), sV st 12 x = u → HC g A s (wC g rt o u) H1 locs1 → W p l e R s m args below meth c H1 locs1 cells slots Q (F0 m (pc + 3) ls rest)) : W p l e R s m args below meth c H locs cells slots Q (F0 m pc ls (.int x :: .ref g.chip :: rest)) :=
  va_put (D := g.1) (ci := 0) (v := .int x) (ty := .int) (C := "ClockedChip") (T := TC) (N := 13) X.1.1 X.1.2.1 X.1.2.2.2.2 in_C tyC tyC_ok nmC X.1.2.2.2.1 X.2.1 hC.1 hC.2.1 hC.2.2 0 rfl rfl 11 (by decide) (X.1.2.2.2.2 _ (in_ALL (List.mem_append_left _ (List.mem_of_getElem? (i := 69) rfl)) rfl)) (fun _ h9 => h9) rfl (by decide +kernel) rfl rfl (Nat.le_of_ble_eq_true rfl) hdg (fun H1 locs1 hP hD hS => kk _ H1 locs1 rfl ⟨hP, hD, hS⟩)
theorem SC_knd_BRANCH (X : FX p m c cc nL s args "ClockedChip" g A) (hC : HC g A s ws H locs) (hdg : decode cc pc = .ok (.getstatic 299, 3)) (kk : W p l e R s m args below meth c H locs cells slots Q (F0 m (pc + 3) ls (.ref (g.adK (3 : Fin 16).val) :: rest))) : W p l e R s m args below meth c H locs cells slots Q (F0 m pc ls rest) :=
  va_gets X.1.1 X.1.2.1 (X.2.2.1.2.1.1 3 (by decide)).1 hC.2.2 X.1.2.2.2.1 (X.1.2.2.2.2 _ (in_ALL (List.mem_append_left _ (List.mem_of_getElem? (i := 233) rfl)) rfl)) (fun _ h => h) hdg kk
theorem SC_knd_BREAK (X : FX p m c cc nL s args "ClockedChip" g A) (hC : HC g A s ws H locs) (hdg : decode cc pc = .ok (.getstatic 151, 3)) (kk : W p l e R s m args below meth c H locs cells slots Q (F0 m (pc + 3) ls (.ref (g.adK (11 : Fin 16).val) :: rest))) : W p l e R s m args below meth c H locs cells slots Q (F0 m pc ls rest) :=
  va_gets X.1.1 X.1.2.1 (X.2.2.1.2.1.1 11 (by decide)).1 hC.2.2 X.1.2.2.2.1 (X.1.2.2.2.2 _ (in_ALL (List.mem_append_left _ (List.mem_of_getElem? (i := 142) rfl)) rfl)) (fun _ h => h) hdg kk
theorem SC_knd_CALL (X : FX p m c cc nL s args "ClockedChip" g A) (hC : HC g A s ws H locs) (hdg : decode cc pc = .ok (.getstatic 170, 3)) (kk : W p l e R s m args below meth c H locs cells slots Q (F0 m (pc + 3) ls (.ref (g.adK (5 : Fin 16).val) :: rest))) : W p l e R s m args below meth c H locs cells slots Q (F0 m pc ls rest) :=
  va_gets X.1.1 X.1.2.1 (X.2.2.1.2.1.1 5 (by decide)).1 hC.2.2 X.1.2.2.2.1 (X.1.2.2.2.2 _ (in_ALL (List.mem_append_left _ (List.mem_of_getElem? (i := 185) rfl)) rfl)) (fun _ h => h) hdg kk
theorem SC_knd_CHANGE (X : FX p m c cc nL s args "ClockedChip" g A) (hC : HC g A s ws H locs) (hdg : decode cc pc = .ok (.getstatic 296, 3)) (kk : W p l e R s m args below meth c H locs cells slots Q (F0 m (pc + 3) ls (.ref (g.adK (2 : Fin 16).val) :: rest))) : W p l e R s m args below meth c H locs cells slots Q (F0 m pc ls rest) :=
  va_gets X.1.1 X.1.2.1 (X.2.2.1.2.1.1 2 (by decide)).1 hC.2.2 X.1.2.2.2.1 (X.1.2.2.2.2 _ (in_ALL (List.mem_append_left _ (List.mem_of_getElem? (i := 231) rfl)) rfl)) (fun _ h => h) hdg kk
theorem SC_knd_INTERRUPT (X : FX p m c cc nL s args "ClockedChip" g A) (hC : HC g A s ws H locs) (hdg : decode cc pc = .ok (.getstatic 271, 3)) (kk : W p l e R s m args below meth c H locs cells slots Q (F0 m (pc + 3) ls (.ref (g.adK (13 : Fin 16).val) :: rest))) : W p l e R s m args below meth c H locs cells slots Q (F0 m pc ls rest) :=
  va_gets X.1.1 X.1.2.1 (X.2.2.1.2.1.1 13 (by decide)).1 hC.2.2 X.1.2.2.2.1 (X.1.2.2.2.2 _ (in_ALL (List.mem_append_left _ (List.mem_of_getElem? (i := 171) rfl)) rfl)) (fun _ h => h) hdg kk
theorem SC_knd_JAM (X : FX p m c cc nL s args "ClockedChip" g A) (hC : HC g A s ws H locs) (hdg : decode cc pc = .ok (.getstatic 287, 3)) (kk : W p l e R s m args below meth c H locs cells slots Q (F0 m (pc + 3) ls (.ref (g.adK (12 : Fin 16).val) :: rest))) : W p l e R s m args below meth c H locs cells slots Q (F0 m pc ls rest) :=
  va_gets X.1.1 X.1.2.1 (X.2.2.1.2.1.1 12 (by decide)).1 hC.2.2 X.1.2.2.2.1 (X.1.2.2.2.2 _ (in_ALL (List.mem_append_left _ (List.mem_of_getElem? (i := 221) rfl)) rfl)) (fun _ h => h) hdg kk
theorem SC_knd_JUMP (X : FX p m c cc nL s args "ClockedChip" g A) (hC : HC g A s ws H locs) (hdg : decode cc pc = .ok (.getstatic 302, 3)) (kk : W p l e R s m args below meth c H locs cells slots Q (F0 m (pc + 3) ls (.ref (g.adK (4 : Fin 16).val) :: rest))) : W p l e R s m args below meth c H locs cells slots Q (F0 m pc ls rest) :=
  va_gets X.1.1 X.1.2.1 (X.2.2.1.2.1.1 4 (by decide)).1 hC.2.2 X.1.2.2.2.1 (X.1.2.2.2.2 _ (in_ALL (List.mem_append_left _ (List.mem_of_getElem? (i := 235) rfl)) rfl)) (fun _ h => h) hdg kk
theorem SC_knd_NOT_READ_YET (X : FX p m c cc nL s args "ClockedChip" g A) (hC : HC g A s ws H locs) (hdg : decode cc pc = .ok (.getstatic 33, 3)) (kk : W p l e R s m args below meth c H locs cells slots Q (F0 m (pc + 3) ls (.ref (g.adK (15 : Fin 16).val) :: rest))) : W p l e R s m args below meth c H locs cells slots Q (F0 m pc ls rest) :=
  va_gets X.1.1 X.1.2.1 (X.2.2.1.2.1.1 15 (by decide)).1 hC.2.2 X.1.2.2.2.1 (X.1.2.2.2.2 _ (in_ALL (List.mem_append_left _ (List.mem_of_getElem? (i := 56) rfl)) rfl)) (fun _ h => h) hdg kk
theorem SC_knd_ON_REGISTERS (X : FX p m c cc nL s args "ClockedChip" g A) (hC : HC g A s ws H locs) (hdg : decode cc pc = .ok (.getstatic 305, 3)) (kk : W p l e R s m args below meth c H locs cells slots Q (F0 m (pc + 3) ls (.ref (g.adK (6 : Fin 16).val) :: rest))) : W p l e R s m args below meth c H locs cells slots Q (F0 m pc ls rest) :=
  va_gets X.1.1 X.1.2.1 (X.2.2.1.2.1.1 6 (by decide)).1 hC.2.2 X.1.2.2.2.1 (X.1.2.2.2.2 _ (in_ALL (List.mem_append_left _ (List.mem_of_getElem? (i := 211) rfl)) rfl)) (fun _ h => h) hdg kk
theorem SC_knd_PULL (X : FX p m c cc nL s args "ClockedChip" g A) (hC : HC g A s ws H locs) (hdg : decode cc pc = .ok (.getstatic 311, 3)) (kk : W p l e R s m args below meth c H locs cells slots Q (F0 m (pc + 3) ls (.ref (g.adK (8 : Fin 16).val) :: rest))) : W p l e R s m args below meth c H locs cells slots Q (F0 m pc ls rest) :=
  va_gets X.1.1 X.1.2.1 (X.2.2.1.2.1.1 8 (by decide)).1 hC.2.2 X.1.2.2.2.1 (X.1.2.2.2.2 _ (in_ALL (List.mem_append_left _ (List.mem_of_getElem? (i := 215) rfl)) rfl)) (fun _ h => h) hdg kk
theorem SC_knd_PUSH (X : FX p m c cc nL s args "ClockedChip" g A) (hC : HC g A s ws H locs) (hdg : decode cc pc = .ok (.getstatic 308, 3)) (kk : W p l e R s m args below meth c H locs cells slots Q (F0 m (pc + 3) ls (.ref (g.adK (7 : Fin 16).val) :: rest))) : W p l e R s m args below meth c H locs cells slots Q (F0 m pc ls rest) :=
  va_gets X.1.1 X.1.2.1 (X.2.2.1.2.1.1 7 (by decide)).1 hC.2.2 X.1.2.2.2.1 (X.1.2.2.2.2 _ (in_ALL (List.mem_append_left _ (List.mem_of_getElem? (i := 213) rfl)) rfl)) (fun _ h => h) hdg kk
theorem SC_knd_READ (X : FX p m c cc nL s args "ClockedChip" g A) (hC : HC g A s ws H locs) (hdg : decode cc pc = .ok (.getstatic 293, 3)) (kk : W p l e R s m args below meth c H locs cells slots Q (F0 m (pc + 3) ls (.ref (g.adK (0 : Fin 16).val) :: rest))) : W p l e R s m args below meth c H locs cells slots Q (F0 m pc ls rest) :=
  va_gets X.1.1 X.1.2.1 (X.2.2.1.2.1.1 0 (by decide)).1 hC.2.2 X.1.2.2.2.1 (X.1.2.2.2.2 _ (in_ALL (List.mem_append_left _ (List.mem_of_getElem? (i := 229) rfl)) rfl)) (fun _ h => h) hdg kk
theorem SC_knd_RESET (X : FX p m c cc nL s args "ClockedChip" g A) (hC : HC g A s ws H locs) (hdg : decode cc pc = .ok (.getstatic 64, 3)) (kk : W p l e R s m args below meth c H locs cells slots Q (F0 m (pc + 3) ls (.ref (g.adK (14 : Fin 16).val) :: rest))) : W p l e R s m args below meth c H locs cells slots Q (F0 m pc ls rest) :=
  va_gets X.1.1 X.1.2.1 (X.2.2.1.2.1.1 14 (by decide)).1 hC.2.2 X.1.2.2.2.1 (X.1.2.2.2.2 _ (in_ALL (List.mem_append_right _ (List.mem_append_left _ (List.mem_of_getElem? (i := 222) rfl))) rfl)) (fun _ h => h) hdg kk
theorem SC_knd_RETURN (X : FX p m c cc nL s args "ClockedChip" g A) (hC : HC g A s ws H locs) (hdg : decode cc pc = .ok (.getstatic 314, 3)) (kk : W p l e R s m args below meth c H locs cells slots Q (F0 m (pc + 3) ls (.ref (g.adK (9 : Fin 16).val) :: rest))) : W p l e R s m args below meth c H locs cells slots Q (F0 m pc ls rest) :=
  va_gets X.1.1 X.1.2.1 (X.2.2.1.2.1.1 9 (by decide)).1 hC.2.2 X.1.2.2.2.1 (X.1.2.2.2.2 _ (in_ALL (List.mem_append_left _ (List.mem_of_getElem? (i := 217) rfl)) rfl)) (fun _ h => h) hdg kk
theorem SC_knd_RETURN_FROM_INTERRUPT (X : FX p m c cc nL s args "ClockedChip" g A) (hC : HC g A s ws H locs) (hdg : decode cc pc = .ok (.getstatic 317, 3)) (kk : W p l e R s m args below meth c H locs cells slots Q (F0 m (pc + 3) ls (.ref (g.adK (10 : Fin 16).val) :: rest))) : W p l e R s m args below meth c H locs cells slots Q (F0 m pc ls rest) :=
  va_gets X.1.1 X.1.2.1 (X.2.2.1.2.1.1 10 (by decide)).1 hC.2.2 X.1.2.2.2.1 (X.1.2.2.2.2 _ (in_ALL (List.mem_append_left _ (List.mem_of_getElem? (i := 219) rfl)) rfl)) (fun _ h => h) hdg kk
theorem SC_knd_STORE (X : FX p m c cc nL s args "ClockedChip" g A) (hC : HC g A s ws H locs) (hdg : decode cc pc = .ok (.getstatic 290, 3)) (kk : W p l e R s m args below meth c H locs cells slots Q (F0 m (pc + 3) ls (.ref (g.adK (1 : Fin 16).val) :: rest))) : W p l e R s m args below meth c H locs cells slots Q (F0 m pc ls rest) :=
  va_gets X.1.1 X.1.2.1 (X.2.2.1.2.1.1 1 (by decide)).1 hC.2.2 X.1.2.2.2.1 (X.1.2.2.2.2 _ (in_ALL (List.mem_append_left _ (List.mem_of_getElem? (i := 227) rfl)) rfl)) (fun _ h => h) hdg kk
theorem SC_mapK (X : FX p m c cc nL s args "ClockedChip" g A) (hC : HC g A s ws H locs) (hdg : decode cc pc = .ok (.getstatic 320, 3)) (kk : W p l e R s m args below meth c H locs cells slots Q (F0 m (pc + 3) ls (.ref g.mapK :: rest))) : W p l e R s m args below meth c H locs cells slots Q (F0 m pc ls rest) :=
  va_gets X.1.1 X.1.2.1 X.2.2.1.2.2.2.1 hC.2.2 X.1.2.2.2.1 (X.1.2.2.2.2 _ (in_ALL (List.mem_append_right _ (List.mem_append_left _ (List.mem_of_getElem? (i := 1) rfl))) rfl)) (fun _ h => h) hdg kk
theorem SC_mapS (X : FX p m c cc nL s args "ClockedChip" g A) (hC : HC g A s ws H locs) (hdg : decode cc pc = .ok (.getstatic 133, 3)) (kk : W p l e R s m args below meth c H locs cells slots Q (F0 m (pc + 3) ls (.ref g.mapS :: rest))) : W p l e R s m args below meth c H locs cells slots Q (F0 m pc ls rest) :=
  va_gets X.1.1 X.1.2.1 X.2.2.1.2.2.1 hC.2.2 X.1.2.2.2.1 (X.1.2.2.2.2 _ (in_ALL (List.mem_append_left _ (List.mem_of_getElem? (i := 126) rfl)) rfl)) (fun _ h => h) hdg kk
theorem SC_stp_BRANCH_DISTANCE (X : FX p m c cc nL s args "ClockedChip" g A) (hC : HC g A s ws H locs) (hdg : decode cc pc = .ok (.getstatic 327, 3)) (kk : W p l e R s m args below meth c H locs cells slots Q (F0 m (pc + 3) ls (.ref (g.adS (14 : Fin 35).val) :: rest))) : W p l e R s m args below meth c H locs cells slots Q (F0 m pc ls rest) :=
  va_gets X.1.1 X.1.2.1 (X.2.2.1.1.1 14 (by decide)).1 hC.2.2 X.1.2.2.2.1 (X.1.2.2.2.2 _ (in_ALL (List.mem_append_right _ (List.mem_append_left _ (List.mem_of_getElem? (i := 16) rfl))) rfl)) (fun _ h => h) hdg kk
theorem SC_stp_BRANCH_IDLE (X : FX p m c cc nL s args "ClockedChip" g A) (hC : HC g A s ws H locs) (hdg : decode cc pc = .ok (.getstatic 377, 3)) (kk : W p l e R s m args below meth c H locs cells slots Q (F0 m (pc + 3) ls (.ref (g.adS (15 : Fin 35).val) :: rest))) : W p l e R s m args below meth c H locs cells slots Q (F0 m pc ls rest) :=
  va_gets X.1.1 X.1.2.1 (X.2.2.1.1.1 15 (by decide)).1 hC.2.2 X.1.2.2.2.1 (X.1.2.2.2.2 _ (in_ALL (List.mem_append_right _ (List.mem_append_left _ (List.mem_of_getElem? (i := 139) rfl))) rfl)) (fun _ h => h) hdg kk
theorem SC_stp_BRANCH_OTHER_PAGE (X : FX p m c cc nL s args "ClockedChip" g A) (hC : HC g A s ws H locs) (hdg : decode cc pc = .ok (.getstatic 381, 3)) (kk : W p l e R s m args below meth c H locs cells slots Q (F0 m (pc + 3) ls (.ref (g.adS (16 : Fin 35).val) :: rest))) : W p l e R s m args below meth c H locs cells slots Q (F0 m pc ls rest) :=
  va_gets X.1.1 X.1.2.1 (X.2.2.1.1.1 16 (by decide)).1 hC.2.2 X.1.2.2.2.1 (X.1.2.2.2.2 _ (in_ALL (List.mem_append_right _ (List.mem_append_left _ (List.mem_of_getElem? (i := 146) rfl))) rfl)) (fun _ h => h) hdg kk
theorem SC_stp_BREAK_NEXT (X : FX p m c cc nL s args "ClockedChip" g A) (hC : HC g A s ws H locs) (hdg : decode cc pc = .ok (.getstatic 333, 3)) (kk : W p l e R s m args below meth c H locs cells slots Q (F0 m (pc + 3) ls (.ref (g.adS (17 : Fin 35).val) :: rest))) : W p l e R s m args below meth c H locs cells slots Q (F0 m pc ls rest) :=
  va_gets X.1.1 X.1.2.1 (X.2.2.1.1.1 17 (by decide)).1 hC.2.2 X.1.2.2.2.1 (X.1.2.2.2.2 _ (in_ALL (List.mem_append_right _ (List.mem_append_left _ (List.mem_of_getElem? (i := 18) rfl))) rfl)) (fun _ h => h) hdg kk
theorem SC_stp_CHANGE_NEW (X : FX p m c cc nL s args "ClockedChip" g A) (hC : HC g A s ws H locs) (hdg : decode cc pc = .ok (.getstatic 154, 3)) (kk : W p l e R s m args below meth c H locs cells slots Q (F0 m (pc + 3) ls (.ref (g.adS (13 : Fin 35).val) :: rest))) : W p l e R s m args below meth c H locs cells slots Q (F0 m pc ls rest) :=
  va_gets X.1.1 X.1.2.1 (X.2.2.1.1.1 13 (by decide)).1 hC.2.2 X.1.2.2.2.1 (X.1.2.2.2.2 _ (in_ALL (List.mem_append_left _ (List.mem_of_getElem? (i := 148) rfl)) rfl)) (fun _ h => h) hdg kk
theorem SC_stp_CHANGE_READ (X : FX p m c cc nL s args "ClockedChip" g A) (hC : HC g A s ws H locs) (hdg : decode cc pc = .ok (.getstatic 365, 3)) (kk : W p l e R s m args below meth c H locs cells slots Q (F0 m (pc + 3) ls (.ref (g.adS (11 : Fin 35).val) :: rest))) : W p l e R s m args below meth c H locs cells slots Q (F0 m pc ls rest) :=
  va_gets X.1.1 X.1.2.1 (X.2.2.1.1.1 11 (by decide)).1 hC.2.2 X.1.2.2.2.1 (X.1.2.2.2.2 _ (in_ALL (List.mem_append_right _ (List.mem_append_left _ (List.mem_of_getElem? (i := 83) rfl))) rfl)) (fun _ h => h) hdg kk
theorem SC_stp_CHANGE_SAME (X : FX p m c cc nL s args "ClockedChip" g A) (hC : HC g A s ws H locs) (hdg : decode cc pc = .ok (.getstatic 371, 3)) (kk : W p l e R s m args below meth c H locs cells slots Q (F0 m (pc + 3) ls (.ref (g.adS (12 : Fin 35).val) :: rest))) : W p l e R s m args below meth c H locs cells slots Q (F0 m pc ls rest) :=
  va_gets X.1.1 X.1.2.1 (X.2.2.1.1.1 12 (by decide)).1 hC.2.2 X.1.2.2.2.1 (X.1.2.2.2.2 _ (in_ALL (List.mem_append_right _ (List.mem_append_left _ (List.mem_of_getElem? (i := 129) rfl))) rfl)) (fun _ h => h) hdg kk
theorem SC_stp_FAR_LOW (X : FX p m c cc nL s args "ClockedChip" g A) (hC : HC g A s ws H locs) (hdg : decode cc pc = .ok (.getstatic 330, 3)) (kk : W p l e R s m args below meth c H locs cells slots Q (F0 m (pc + 3) ls (.ref (g.adS (6 : Fin 35).val) :: rest))) : W p l e R s m args below meth c H locs cells slots Q (F0 m pc ls rest) :=
  va_gets X.1.1 X.1.2.1 (X.2.2.1.1.1 6 (by decide)).1 hC.2.2 X.1.2.2.2.1 (X.1.2.2.2.2 _ (in_ALL (List.mem_append_right _ (List.mem_append_left _ (List.mem_of_getElem? (i := 12) rfl))) rfl)) (fun _ h => h) hdg kk
theorem SC_stp_FAR_PAGE (X : FX p m c cc nL s args "ClockedChip" g A) (hC : HC g A s ws H locs) (hdg : decode cc pc = .ok (.getstatic 173, 3)) (kk : W p l e R s m args below meth c H locs cells slots Q (F0 m (pc + 3) ls (.ref (g.adS (7 : Fin 35).val) :: rest))) : W p l e R s m args below meth c H locs cells slots Q (F0 m pc ls rest) :=
  va_gets X.1.1 X.1.2.1 (X.2.2.1.1.1 7 (by decide)).1 hC.2.2 X.1.2.2.2.1 (X.1.2.2.2.2 _ (in_ALL (List.mem_append_left _ (List.mem_of_getElem? (i := 187) rfl)) rfl)) (fun _ h => h) hdg kk
theorem SC_stp_FETCH (X : FX p m c cc nL s args "ClockedChip" g A) (hC : HC g A s ws H locs) (hdg : decode cc pc = .ok (.getstatic 24, 3)) (kk : W p l e R s m args below meth c H locs cells slots Q (F0 m (pc + 3) ls (.ref (g.adS (0 : Fin 35).val) :: rest))) : W p l e R s m args below meth c H locs cells slots Q (F0 m pc ls rest) :=
  va_gets X.1.1 X.1.2.1 (X.2.2.1.1.1 0 (by decide)).1 hC.2.2 X.1.2.2.2.1 (X.1.2.2.2.2 _ (in_ALL (List.mem_append_left _ (List.mem_of_getElem? (i := 54) rfl)) rfl)) (fun _ h => h) hdg kk
theorem SC_stp_HALF_IDLE (X : FX p m c cc nL s args "ClockedChip" g A) (hC : HC g A s ws H locs) (hdg : decode cc pc = .ok (.getstatic 360, 3)) (kk : W p l e R s m args below meth c H locs cells slots Q (F0 m (pc + 3) ls (.ref (g.adS (8 : Fin 35).val) :: rest))) : W p l e R s m args below meth c H locs cells slots Q (F0 m pc ls rest) :=
  va_gets X.1.1 X.1.2.1 (X.2.2.1.1.1 8 (by decide)).1 hC.2.2 X.1.2.2.2.1 (X.1.2.2.2.2 _ (in_ALL (List.mem_append_right _ (List.mem_append_left _ (List.mem_of_getElem? (i := 109) rfl))) rfl)) (fun _ h => h) hdg kk
theorem SC_stp_IMMEDIATE (X : FX p m c cc nL s args "ClockedChip" g A) (hC : HC g A s ws H locs) (hdg : decode cc pc = .ok (.getstatic 339, 3)) (kk : W p l e R s m args below meth c H locs cells slots Q (F0 m (pc + 3) ls (.ref (g.adS (1 : Fin 35).val) :: rest))) : W p l e R s m args below meth c H locs cells slots Q (F0 m pc ls rest) :=
  va_gets X.1.1 X.1.2.1 (X.2.2.1.1.1 1 (by decide)).1 hC.2.2 X.1.2.2.2.1 (X.1.2.2.2.2 _ (in_ALL (List.mem_append_right _ (List.mem_append_left _ (List.mem_of_getElem? (i := 10) rfl))) rfl)) (fun _ h => h) hdg kk
theorem SC_stp_INTERRUPT_IDLE (X : FX p m c cc nL s args "ClockedChip" g A) (hC : HC g A s ws H locs) (hdg : decode cc pc = .ok (.getstatic 249, 3)) (kk : W p l e R s m args below meth c H locs cells slots Q (F0 m (pc + 3) ls (.ref (g.adS (28 : Fin 35).val) :: rest))) : W p l e R s m args below meth c H locs cells slots Q (F0 m pc ls rest) :=
  va_gets X.1.1 X.1.2.1 (X.2.2.1.1.1 28 (by decide)).1 hC.2.2 X.1.2.2.2.1 (X.1.2.2.2.2 _ (in_ALL (List.mem_append_left _ (List.mem_of_getElem? (i := 173) rfl)) rfl)) (fun _ h => h) hdg kk
theorem SC_stp_JAMMED (X : FX p m c cc nL s args "ClockedChip" g A) (hC : HC g A s ws H locs) (hdg : decode cc pc = .ok (.getstatic 92, 3)) (kk : W p l e R s m args below meth c H locs cells slots Q (F0 m (pc + 3) ls (.ref (g.adS (34 : Fin 35).val) :: rest))) : W p l e R s m args below meth c H locs cells slots Q (F0 m pc ls rest) :=
  va_gets X.1.1 X.1.2.1 (X.2.2.1.1.1 34 (by decide)).1 hC.2.2 X.1.2.2.2.1 (X.1.2.2.2.2 _ (in_ALL (List.mem_append_right _ (List.mem_append_left _ (List.mem_of_getElem? (i := 20) rfl))) rfl)) (fun _ h => h) hdg kk
theorem SC_stp_OPERAND (X : FX p m c cc nL s args "ClockedChip" g A) (hC : HC g A s ws H locs) (hdg : decode cc pc = .ok (.getstatic 368, 3)) (kk : W p l e R s m args below meth c H locs cells slots Q (F0 m (pc + 3) ls (.ref (g.adS (9 : Fin 35).val) :: rest))) : W p l e R s m args below meth c H locs cells slots Q (F0 m pc ls rest) :=
  va_gets X.1.1 X.1.2.1 (X.2.2.1.1.1 9 (by decide)).1 hC.2.2 X.1.2.2.2.1 (X.1.2.2.2.2 _ (in_ALL (List.mem_append_right _ (List.mem_append_left _ (List.mem_of_getElem? (i := 85) rfl))) rfl)) (fun _ h => h) hdg kk
theorem SC_stp_PC_IDLE (X : FX p m c cc nL s args "ClockedChip" g A) (hC : HC g A s ws H locs) (hdg : decode cc pc = .ok (.getstatic 336, 3)) (kk : W p l e R s m args below meth c H locs cells slots Q (F0 m (pc + 3) ls (.ref (g.adS (18 : Fin 35).val) :: rest))) : W p l e R s m args below meth c H locs cells slots Q (F0 m pc ls rest) :=
  va_gets X.1.1 X.1.2.1 (X.2.2.1.1.1 18 (by decide)).1 hC.2.2 X.1.2.2.2.1 (X.1.2.2.2.2 _ (in_ALL (List.mem_append_right _ (List.mem_append_left _ (List.mem_of_getElem? (i := 22) rfl))) rfl)) (fun _ h => h) hdg kk
theorem SC_stp_POINTER_LOW (X : FX p m c cc nL s args "ClockedChip" g A) (hC : HC g A s ws H locs) (hdg : decode cc pc = .ok (.getstatic 348, 3)) (kk : W p l e R s m args below meth c H locs cells slots Q (F0 m (pc + 3) ls (.ref (g.adS (4 : Fin 35).val) :: rest))) : W p l e R s m args below meth c H locs cells slots Q (F0 m pc ls rest) :=
  va_gets X.1.1 X.1.2.1 (X.2.2.1.1.1 4 (by decide)).1 hC.2.2 X.1.2.2.2.1 (X.1.2.2.2.2 _ (in_ALL (List.mem_append_right _ (List.mem_append_left _ (List.mem_of_getElem? (i := 89) rfl))) rfl)) (fun _ h => h) hdg kk
theorem SC_stp_POINTER_PAGE (X : FX p m c cc nL s args "ClockedChip" g A) (hC : HC g A s ws H locs) (hdg : decode cc pc = .ok (.getstatic 351, 3)) (kk : W p l e R s m args below meth c H locs cells slots Q (F0 m (pc + 3) ls (.ref (g.adS (5 : Fin 35).val) :: rest))) : W p l e R s m args below meth c H locs cells slots Q (F0 m pc ls rest) :=
  va_gets X.1.1 X.1.2.1 (X.2.2.1.1.1 5 (by decide)).1 hC.2.2 X.1.2.2.2.1 (X.1.2.2.2.2 _ (in_ALL (List.mem_append_right _ (List.mem_append_left _ (List.mem_of_getElem? (i := 99) rfl))) rfl)) (fun _ h => h) hdg kk
theorem SC_stp_PULL_BYTE (X : FX p m c cc nL s args "ClockedChip" g A) (hC : HC g A s ws H locs) (hdg : decode cc pc = .ok (.getstatic 393, 3)) (kk : W p l e R s m args below meth c H locs cells slots Q (F0 m (pc + 3) ls (.ref (g.adS (24 : Fin 35).val) :: rest))) : W p l e R s m args below meth c H locs cells slots Q (F0 m pc ls rest) :=
  va_gets X.1.1 X.1.2.1 (X.2.2.1.1.1 24 (by decide)).1 hC.2.2 X.1.2.2.2.1 (X.1.2.2.2.2 _ (in_ALL (List.mem_append_right _ (List.mem_append_left _ (List.mem_of_getElem? (i := 174) rfl))) rfl)) (fun _ h => h) hdg kk
theorem SC_stp_PULL_LOW (X : FX p m c cc nL s args "ClockedChip" g A) (hC : HC g A s ws H locs) (hdg : decode cc pc = .ok (.getstatic 390, 3)) (kk : W p l e R s m args below meth c H locs cells slots Q (F0 m (pc + 3) ls (.ref (g.adS (25 : Fin 35).val) :: rest))) : W p l e R s m args below meth c H locs cells slots Q (F0 m pc ls rest) :=
  va_gets X.1.1 X.1.2.1 (X.2.2.1.1.1 25 (by decide)).1 hC.2.2 X.1.2.2.2.1 (X.1.2.2.2.2 _ (in_ALL (List.mem_append_right _ (List.mem_append_left _ (List.mem_of_getElem? (i := 172) rfl))) rfl)) (fun _ h => h) hdg kk
theorem SC_stp_PULL_PAGE (X : FX p m c cc nL s args "ClockedChip" g A) (hC : HC g A s ws H locs) (hdg : decode cc pc = .ok (.getstatic 399, 3)) (kk : W p l e R s m args below meth c H locs cells slots Q (F0 m (pc + 3) ls (.ref (g.adS (26 : Fin 35).val) :: rest))) : W p l e R s m args below meth c H locs cells slots Q (F0 m pc ls rest) :=
  va_gets X.1.1 X.1.2.1 (X.2.2.1.1.1 26 (by decide)).1 hC.2.2 X.1.2.2.2.1 (X.1.2.2.2.2 _ (in_ALL (List.mem_append_right _ (List.mem_append_left _ (List.mem_of_getElem? (i := 189) rfl))) rfl)) (fun _ h => h) hdg kk
theorem SC_stp_PUSH_LOW (X : FX p m c cc nL s args "ClockedChip" g A) (hC : HC g A s ws H locs) (hdg : decode cc pc = .ok (.getstatic 167, 3)) (kk : W p l e R s m args below meth c H locs cells slots Q (F0 m (pc + 3) ls (.ref (g.adS (22 : Fin 35).val) :: rest))) : W p l e R s m args below meth c H locs cells slots Q (F0 m pc ls rest) :=
  va_gets X.1.1 X.1.2.1 (X.2.2.1.1.1 22 (by decide)).1 hC.2.2 X.1.2.2.2.1 (X.1.2.2.2.2 _ (in_ALL (List.mem_append_left _ (List.mem_of_getElem? (i := 183) rfl)) rfl)) (fun _ h => h) hdg kk
theorem SC_stp_PUSH_P (X : FX p m c cc nL s args "ClockedChip" g A) (hC : HC g A s ws H locs) (hdg : decode cc pc = .ok (.getstatic 176, 3)) (kk : W p l e R s m args below meth c H locs cells slots Q (F0 m (pc + 3) ls (.ref (g.adS (23 : Fin 35).val) :: rest))) : W p l e R s m args below meth c H locs cells slots Q (F0 m pc ls rest) :=
  va_gets X.1.1 X.1.2.1 (X.2.2.1.1.1 23 (by decide)).1 hC.2.2 X.1.2.2.2.1 (X.1.2.2.2.2 _ (in_ALL (List.mem_append_left _ (List.mem_of_getElem? (i := 189) rfl)) rfl)) (fun _ h => h) hdg kk
theorem SC_stp_PUSH_PAGE (X : FX p m c cc nL s args "ClockedChip" g A) (hC : HC g A s ws H locs) (hdg : decode cc pc = .ok (.getstatic 252, 3)) (kk : W p l e R s m args below meth c H locs cells slots Q (F0 m (pc + 3) ls (.ref (g.adS (21 : Fin 35).val) :: rest))) : W p l e R s m args below meth c H locs cells slots Q (F0 m pc ls rest) :=
  va_gets X.1.1 X.1.2.1 (X.2.2.1.1.1 21 (by decide)).1 hC.2.2 X.1.2.2.2.1 (X.1.2.2.2.2 _ (in_ALL (List.mem_append_right _ (List.mem_append_left _ (List.mem_of_getElem? (i := 152) rfl))) rfl)) (fun _ h => h) hdg kk
theorem SC_stp_PUSH_REGISTER (X : FX p m c cc nL s args "ClockedChip" g A) (hC : HC g A s ws H locs) (hdg : decode cc pc = .ok (.getstatic 387, 3)) (kk : W p l e R s m args below meth c H locs cells slots Q (F0 m (pc + 3) ls (.ref (g.adS (20 : Fin 35).val) :: rest))) : W p l e R s m args below meth c H locs cells slots Q (F0 m pc ls rest) :=
  va_gets X.1.1 X.1.2.1 (X.2.2.1.1.1 20 (by decide)).1 hC.2.2 X.1.2.2.2.1 (X.1.2.2.2.2 _ (in_ALL (List.mem_append_right _ (List.mem_append_left _ (List.mem_of_getElem? (i := 162) rfl))) rfl)) (fun _ h => h) hdg kk
theorem SC_stp_RESET_IDLE (X : FX p m c cc nL s args "ClockedChip" g A) (hC : HC g A s ws H locs) (hdg : decode cc pc = .ok (.getstatic 67, 3)) (kk : W p l e R s m args below meth c H locs cells slots Q (F0 m (pc + 3) ls (.ref (g.adS (31 : Fin 35).val) :: rest))) : W p l e R s m args below meth c H locs cells slots Q (F0 m pc ls rest) :=
  va_gets X.1.1 X.1.2.1 (X.2.2.1.1.1 31 (by decide)).1 hC.2.2 X.1.2.2.2.1 (X.1.2.2.2.2 _ (in_ALL (List.mem_append_right _ (List.mem_append_left _ (List.mem_of_getElem? (i := 203) rfl))) rfl)) (fun _ h => h) hdg kk
theorem SC_stp_RESET_LOW (X : FX p m c cc nL s args "ClockedChip" g A) (hC : HC g A s ws H locs) (hdg : decode cc pc = .ok (.getstatic 408, 3)) (kk : W p l e R s m args below meth c H locs cells slots Q (F0 m (pc + 3) ls (.ref (g.adS (33 : Fin 35).val) :: rest))) : W p l e R s m args below meth c H locs cells slots Q (F0 m pc ls rest) :=
  va_gets X.1.1 X.1.2.1 (X.2.2.1.1.1 33 (by decide)).1 hC.2.2 X.1.2.2.2.1 (X.1.2.2.2.2 _ (in_ALL (List.mem_append_right _ (List.mem_append_left _ (List.mem_of_getElem? (i := 211) rfl))) rfl)) (fun _ h => h) hdg kk
theorem SC_stp_RESET_STACK (X : FX p m c cc nL s args "ClockedChip" g A) (hC : HC g A s ws H locs) (hdg : decode cc pc = .ok (.getstatic 258, 3)) (kk : W p l e R s m args below meth c H locs cells slots Q (F0 m (pc + 3) ls (.ref (g.adS (32 : Fin 35).val) :: rest))) : W p l e R s m args below meth c H locs cells slots Q (F0 m pc ls rest) :=
  va_gets X.1.1 X.1.2.1 (X.2.2.1.1.1 32 (by decide)).1 hC.2.2 X.1.2.2.2.1 (X.1.2.2.2.2 _ (in_ALL (List.mem_append_right _ (List.mem_append_left _ (List.mem_of_getElem? (i := 205) rfl))) rfl)) (fun _ h => h) hdg kk
theorem SC_stp_RETURN_IDLE (X : FX p m c cc nL s args "ClockedChip" g A) (hC : HC g A s ws H locs) (hdg : decode cc pc = .ok (.getstatic 402, 3)) (kk : W p l e R s m args below meth c H locs cells slots Q (F0 m (pc + 3) ls (.ref (g.adS (27 : Fin 35).val) :: rest))) : W p l e R s m args below meth c H locs cells slots Q (F0 m pc ls rest) :=
  va_gets X.1.1 X.1.2.1 (X.2.2.1.1.1 27 (by decide)).1 hC.2.2 X.1.2.2.2.1 (X.1.2.2.2.2 _ (in_ALL (List.mem_append_right _ (List.mem_append_left _ (List.mem_of_getElem? (i := 195) rfl))) rfl)) (fun _ h => h) hdg kk
theorem SC_stp_STACK_IDLE (X : FX p m c cc nL s args "ClockedChip" g A) (hC : HC g A s ws H locs) (hdg : decode cc pc = .ok (.getstatic 357, 3)) (kk : W p l e R s m args below meth c H locs cells slots Q (F0 m (pc + 3) ls (.ref (g.adS (19 : Fin 35).val) :: rest))) : W p l e R s m args below meth c H locs cells slots Q (F0 m pc ls rest) :=
  va_gets X.1.1 X.1.2.1 (X.2.2.1.1.1 19 (by decide)).1 hC.2.2 X.1.2.2.2.1 (X.1.2.2.2.2 _ (in_ALL (List.mem_append_right _ (List.mem_append_left _ (List.mem_of_getElem? (i := 115) rfl))) rfl)) (fun _ h => h) hdg kk
theorem SC_stp_STORE (X : FX p m c cc nL s args "ClockedChip" g A) (hC : HC g A s ws H locs) (hdg : decode cc pc = .ok (.getstatic 363, 3)) (kk : W p l e R s m args below meth c H locs cells slots Q (F0 m (pc + 3) ls (.ref (g.adS (10 : Fin 35).val) :: rest))) : W p l e R s m args below meth c H locs cells slots Q (F0 m pc ls rest) :=
  va_gets X.1.1 X.1.2.1 (X.2.2.1.1.1 10 (by decide)).1 hC.2.2 X.1.2.2.2.1 (X.1.2.2.2.2 _ (in_ALL (List.mem_append_right _ (List.mem_append_left _ (List.mem_of_getElem? (i := 81) rfl))) rfl)) (fun _ h => h) hdg kk
theorem SC_stp_VECTOR_LOW (X : FX p m c cc nL s args "ClockedChip" g A) (hC : HC g A s ws H locs) (hdg : decode cc pc = .ok (.getstatic 179, 3)) (kk : W p l e R s m args below meth c H locs cells slots Q (F0 m (pc + 3) ls (.ref (g.adS (29 : Fin 35).val) :: rest))) : W p l e R s m args below meth c H locs cells slots Q (F0 m pc ls rest) :=
  va_gets X.1.1 X.1.2.1 (X.2.2.1.1.1 29 (by decide)).1 hC.2.2 X.1.2.2.2.1 (X.1.2.2.2.2 _ (in_ALL (List.mem_append_left _ (List.mem_of_getElem? (i := 192) rfl)) rfl)) (fun _ h => h) hdg kk
theorem SC_stp_VECTOR_PAGE (X : FX p m c cc nL s args "ClockedChip" g A) (hC : HC g A s ws H locs) (hdg : decode cc pc = .ok (.getstatic 405, 3)) (kk : W p l e R s m args below meth c H locs cells slots Q (F0 m (pc + 3) ls (.ref (g.adS (30 : Fin 35).val) :: rest))) : W p l e R s m args below meth c H locs cells slots Q (F0 m pc ls rest) :=
  va_gets X.1.1 X.1.2.1 (X.2.2.1.1.1 30 (by decide)).1 hC.2.2 X.1.2.2.2.1 (X.1.2.2.2.2 _ (in_ALL (List.mem_append_right _ (List.mem_append_left _ (List.mem_of_getElem? (i := 201) rfl))) rfl)) (fun _ h => h) hdg kk
theorem SC_stp_ZERO_BYTE (X : FX p m c cc nL s args "ClockedChip" g A) (hC : HC g A s ws H locs) (hdg : decode cc pc = .ok (.getstatic 342, 3)) (kk : W p l e R s m args below meth c H locs cells slots Q (F0 m (pc + 3) ls (.ref (g.adS (2 : Fin 35).val) :: rest))) : W p l e R s m args below meth c H locs cells slots Q (F0 m pc ls rest) :=
  va_gets X.1.1 X.1.2.1 (X.2.2.1.1.1 2 (by decide)).1 hC.2.2 X.1.2.2.2.1 (X.1.2.2.2.2 _ (in_ALL (List.mem_append_right _ (List.mem_append_left _ (List.mem_of_getElem? (i := 14) rfl))) rfl)) (fun _ h => h) hdg kk
theorem SC_stp_ZERO_IDLE (X : FX p m c cc nL s args "ClockedChip" g A) (hC : HC g A s ws H locs) (hdg : decode cc pc = .ok (.getstatic 345, 3)) (kk : W p l e R s m args below meth c H locs cells slots Q (F0 m (pc + 3) ls (.ref (g.adS (3 : Fin 35).val) :: rest))) : W p l e R s m args below meth c H locs cells slots Q (F0 m pc ls rest) :=
  va_gets X.1.1 X.1.2.1 (X.2.2.1.1.1 3 (by decide)).1 hC.2.2 X.1.2.2.2.1 (X.1.2.2.2.2 _ (in_ALL (List.mem_append_right _ (List.mem_append_left _ (List.mem_of_getElem? (i := 87) rfl))) rfl)) (fun _ h => h) hdg kk
end RW
end
section
/-! contracts of methods (printed by my own program: pure pictures and walks) -/
def f_C_poke (st : CS) (v1 : Int32) (v2 : Int32) : Int32 × CS := bS ((rM st v1) : Int32) (fun y1 => bS (sM st v1 (v2 &&& 255)) (fun st2 => (y1, st2)))
abbrev rm_C_poke : Room := { frames := 0, cells := 0, slots := 0, locals := 0 }
set_option maxHeartbeats 4000000 in
set_option maxRecDepth 100000 in
theorem k_C_poke (l : Launch) (g : CG) (rt : MS) (o : Nat → Int64) (st : CS) (v1 : Int32) (v2 : Int32) : KI l g y_C_poke (Cond.code y_C_poke c_C_poke 4 (some .int) :: ALL) rm_C_poke [.ref (g.chip), .int v1, .int v2] (wC g rt o) st (f_C_poke st v1 v2) := by
  refine KI.ofW (by decide) (Nat.le_of_ble_eq_true rfl) ?_
  intro p e s m args below meth c A Q ls Rv X he RET hC hl
  obtain ⟨hx, hb⟩ := FX_xb X
  have hl : lv_has ls 4 [(0, .ref (g.chip)), (1, .int v1), (2, .int v2)] := hl
  unfold f_C_poke at he
  refine lv_aload_n (pc := 0) hx hb d_C_poke_0 rfl (lv_at hl 0 rfl) ?_
  refine GC_memory (pc := 1) X hC d_C_poke_1 ?_
  refine lv_iload_n (pc := 4) hx hb d_C_poke_4 rfl (lv_at hl 1 rfl) ?_
  refine lv_sipush (pc := 5) (v := 1023) hx hb d_C_poke_5 (by decide) ?_
  refine lv_iand (pc := 8) hx hb d_C_poke_8 ?_
  refine Amem (pc := 9) (i := v1) X hC d_C_poke_9 ?_
  refine lv_topi (fun y1 ey1 => ?_)
  replace he := bS_go he ey1.symm
  refine lv_istore_n (pc := 10) (nL := 4) (lv' := [(3, .int y1), (0, .ref (g.chip)), (1, .int v1), (2, .int v2)]) hx hb d_C_poke_10 rfl hl (by decide) rfl (fun ls hl => ?_)
  refine lv_aload_n (pc := 11) hx hb d_C_poke_11 rfl (lv_at hl 1 rfl) ?_
  refine GC_memory (pc := 12) X hC d_C_poke_12 ?_
  refine lv_iload_n (pc := 15) hx hb d_C_poke_15 rfl (lv_at hl 2 rfl) ?_
  refine lv_sipush (pc := 16) (v := 1023) hx hb d_C_poke_16 (by decide) ?_
  refine lv_iand (pc := 19) hx hb d_C_poke_19 ?_
  refine lv_iload_n (pc := 20) hx hb d_C_poke_20 rfl (lv_at hl 3 rfl) ?_
  refine lv_sipush (pc := 21) (v := 255) hx hb d_C_poke_21 (by decide) ?_
  refine lv_iand (pc := 24) hx hb d_C_poke_24 ?_
  refine Bmem (pc := 25) (i := v1) X hC d_C_poke_25 (fun st2 H locs est2 hC => ?_)
  replace he := bS_go he est2
  refine lv_iload_n (pc := 26) hx hb d_C_poke_26 rfl (lv_at hl 0 rfl) ?_
  exact RET (pc := 27) d_C_poke_27 hC he
def f_C_peek (st : CS) (v1 : Int32) : Int32 × CS := ((rM st v1), st)
abbrev rm_C_peek : Room := { frames := 0, cells := 0, slots := 0, locals := 0 }
set_option maxHeartbeats 4000000 in
set_option maxRecDepth 100000 in
theorem k_C_peek (l : Launch) (g : CG) (rt : MS) (o : Nat → Int64) (st : CS) (v1 : Int32) : KI l g y_C_peek (Cond.code y_C_peek c_C_peek 2 (some .int) :: ALL) rm_C_peek [.ref (g.chip), .int v1] (wC g rt o) st (f_C_peek st v1) := by
  refine KI.ofW (by decide) (Nat.le_of_ble_eq_true rfl) ?_
  intro p e s m args below meth c A Q ls Rv X he RET hC hl
  obtain ⟨hx, hb⟩ := FX_xb X
  have hl : lv_has ls 2 [(0, .ref (g.chip)), (1, .int v1)] := hl
  unfold f_C_peek at he
  refine lv_aload_n (pc := 0) hx hb d_C_peek_0 rfl (lv_at hl 0 rfl) ?_
  refine GC_memory (pc := 1) X hC d_C_peek_1 ?_
  refine lv_iload_n (pc := 4) hx hb d_C_peek_4 rfl (lv_at hl 1 rfl) ?_
  refine lv_sipush (pc := 5) (v := 1023) hx hb d_C_peek_5 (by decide) ?_
  refine lv_iand (pc := 8) hx hb d_C_peek_8 ?_
  refine Amem (pc := 9) (i := v1) X hC d_C_peek_9 ?_
  exact RET (pc := 10) d_C_peek_10 hC he
def f_C_addressOfStep_119 (st : CS) (s0 : Int32) : Int32 × CS := (s0, st)
def f_C_addressOfStep (st : CS)  : Int32 × CS := if (plS (st.2.1)) = 1 then (f_C_addressOfStep_119 st (st.1 11)) else (if (plS (st.2.1)) = 2 then (f_C_addressOfStep_119 st (256 + (st.1 3))) else (if (plS (st.2.1)) = 3 then (f_C_addressOfStep_119 st (256 + (((st.1 3) + 1) &&& 255))) else (if (plS (st.2.1)) = 4 then (if (st.1 6) = 0 then (f_C_addressOfStep_119 st 65534) else (f_C_addressOfStep_119 st 65530)) else (if (plS (st.2.1)) = 5 then (f_C_addressOfStep_119 st 65532) else (if (plS (st.2.1)) = 6 then (f_C_addressOfStep_119 st 65535) else (f_C_addressOfStep_119 st (st.1 4)))))))
abbrev rm_C_addressOfStep : Room := { frames := 0, cells := 0, slots := 0, locals := 0 }
set_option maxHeartbeats 4000000 in
set_option maxRecDepth 100000 in
theorem k_C_addressOfStep (l : Launch) (g : CG) (rt : MS) (o : Nat → Int64) (st : CS)  : KI l g y_C_addressOfStep (Cond.code y_C_addressOfStep c_C_addressOfStep 1 (some .int) :: ALL) rm_C_addressOfStep [.ref (g.chip)] (wC g rt o) st (f_C_addressOfStep st ) := by
  refine KI.ofW (by decide) (Nat.le_of_ble_eq_true rfl) ?_
  intro p e s m args below meth c A Q ls Rv X he RET hC hl
  obtain ⟨hx, hb⟩ := FX_xb X
  have hl : lv_has ls 1 [(0, .ref (g.chip))] := hl
  have B119 : ∀ (H : Heap) (locs : List Loc) (ls : Array Slot) (st : CS) (s0 : Int32), HC g A s (wC g rt o st) H locs → lv_has ls 1 [] → f_C_addressOfStep_119 st s0 = Rv → W p l e rm_C_addressOfStep s m args below meth c H locs 0 0 Q (F0 m 119 ls [.int s0]) := by
    intro H locs ls st s0  hC hl he
    unfold f_C_addressOfStep_119 at he
    exact RET (pc := 119) d_C_addressOfStep_119 hC he
  unfold f_C_addressOfStep at he
  refine lv_aload_n (pc := 0) hx hb d_C_addressOfStep_0 rfl (lv_at hl 0 rfl) ?_
  refine GC_step (pc := 1) X hC d_C_addressOfStep_1 ?_
  refine GC_stp_place (pc := 4) (k := st.2.1) X hC d_C_addressOfStep_4 ?_
  by_cases h1 : (plS (st.2.1)) = 1
  · replace he := if_go he h1
    refine lv_tableIn (pc := 7) (tgt := 44) hx hb d_C_addressOfStep_7 (by rw [h1]; decide) (by rw [h1]; decide) (by rw [h1]; rfl) (by decide) ?_
    refine lv_aload_n (pc := 44) hx hb d_C_addressOfStep_44 rfl (lv_at hl 0 rfl) ?_
    refine GC_aim (pc := 45) X hC d_C_addressOfStep_45 ?_
    refine lv_goto (pc := 48) (tgt := 119) hx hb d_C_addressOfStep_48 (by decide) ?_
    exact B119 _ _ _ st (st.1 11)  hC (lv_sub hl [] rfl) he
  replace he := if_no he h1
  by_cases h2 : (plS (st.2.1)) = 2
  · replace he := if_go he h2
    refine lv_tableIn (pc := 7) (tgt := 51) hx hb d_C_addressOfStep_7 (by rw [h2]; decide) (by rw [h2]; decide) (by rw [h2]; rfl) (by decide) ?_
    refine lv_sipush (pc := 51) (v := 256) hx hb d_C_addressOfStep_51 (by decide) ?_
    refine lv_aload_n (pc := 54) hx hb d_C_addressOfStep_54 rfl (lv_at hl 0 rfl) ?_
    refine GC_registers (pc := 55) X hC d_C_addressOfStep_55 ?_
    refine GCR_s (pc := 58) X hC d_C_addressOfStep_58 ?_
    refine lv_iadd (pc := 61) hx hb d_C_addressOfStep_61 ?_
    refine lv_goto (pc := 62) (tgt := 119) hx hb d_C_addressOfStep_62 (by decide) ?_
    exact B119 _ _ _ st (256 + (st.1 3))  hC (lv_sub hl [] rfl) he
  replace he := if_no he h2
  by_cases h3 : (plS (st.2.1)) = 3
  · replace he := if_go he h3
    refine lv_tableIn (pc := 7) (tgt := 65) hx hb d_C_addressOfStep_7 (by rw [h3]; decide) (by rw [h3]; decide) (by rw [h3]; rfl) (by decide) ?_
    refine lv_sipush (pc := 65) (v := 256) hx hb d_C_addressOfStep_65 (by decide) ?_
    refine lv_aload_n (pc := 68) hx hb d_C_addressOfStep_68 rfl (lv_at hl 0 rfl) ?_
    refine GC_registers (pc := 69) X hC d_C_addressOfStep_69 ?_
    refine GCR_s (pc := 72) X hC d_C_addressOfStep_72 ?_
    refine lv_iconst (pc := 75) (v := 1) hx hb d_C_addressOfStep_75 (by decide) ?_
    refine lv_iadd (pc := 76) hx hb d_C_addressOfStep_76 ?_
    refine lv_sipush (pc := 77) (v := 255) hx hb d_C_addressOfStep_77 (by decide) ?_
    refine lv_iand (pc := 80) hx hb d_C_addressOfStep_80 ?_
    refine lv_iadd (pc := 81) hx hb d_C_addressOfStep_81 ?_
    refine lv_goto (pc := 82) (tgt := 119) hx hb d_C_addressOfStep_82 (by decide) ?_
    exact B119 _ _ _ st (256 + (((st.1 3) + 1) &&& 255))  hC (lv_sub hl [] rfl) he
  replace he := if_no he h3
  by_cases h4 : (plS (st.2.1)) = 4
  · replace he := if_go he h4
    refine lv_tableIn (pc := 7) (tgt := 85) hx hb d_C_addressOfStep_7 (by rw [h4]; decide) (by rw [h4]; decide) (by rw [h4]; rfl) (by decide) ?_
    refine lv_aload_n (pc := 85) hx hb d_C_addressOfStep_85 rfl (lv_at hl 0 rfl) ?_
    refine GC_nmiWanted (pc := 86) X hC d_C_addressOfStep_86 ?_
    refine lv_if_eq (pc := 89) (tgt := 97) hx hb d_C_addressOfStep_89 (by decide) (fun h5 => ?_) (fun h5 => ?_)
    · replace he := if_go he h5
      refine LC_131 (pc := 97) X d_C_addressOfStep_97 ?_
      refine lv_goto (pc := 99) (tgt := 119) hx hb d_C_addressOfStep_99 (by decide) ?_
      exact B119 _ _ _ st 65534  hC (lv_sub hl [] rfl) he
    replace he := if_no he h5
    refine LC_130 (pc := 92) X d_C_addressOfStep_92 ?_
    refine lv_goto (pc := 94) (tgt := 119) hx hb d_C_addressOfStep_94 (by decide) ?_
    exact B119 _ _ _ st 65530  hC (lv_sub hl [] rfl) he
  replace he := if_no he h4
  by_cases h6 : (plS (st.2.1)) = 5
  · replace he := if_go he h6
    refine lv_tableIn (pc := 7) (tgt := 102) hx hb d_C_addressOfStep_7 (by rw [h6]; decide) (by rw [h6]; decide) (by rw [h6]; rfl) (by decide) ?_
    refine LC_132 (pc := 102) X d_C_addressOfStep_102 ?_
    refine lv_goto (pc := 104) (tgt := 119) hx hb d_C_addressOfStep_104 (by decide) ?_
    exact B119 _ _ _ st 65532  hC (lv_sub hl [] rfl) he
  replace he := if_no he h6
  by_cases h7 : (plS (st.2.1)) = 6
  · replace he := if_go he h7
    refine lv_tableIn (pc := 7) (tgt := 107) hx hb d_C_addressOfStep_7 (by rw [h7]; decide) (by rw [h7]; decide) (by rw [h7]; rfl) (by decide) ?_
    refine LC_101 (pc := 107) X d_C_addressOfStep_107 ?_
    refine lv_goto (pc := 109) (tgt := 119) hx hb d_C_addressOfStep_109 (by decide) ?_
    exact B119 _ _ _ st 65535  hC (lv_sub hl [] rfl) he
  replace he := if_no he h7
  refine lv_tableOut (pc := 7) (tgt := 112) hx hb d_C_addressOfStep_7 (by have nh1 := lv_neT (a := 1) h1 (by decide); have nh2 := lv_neT (a := 2) h2 (by decide); have nh3 := lv_neT (a := 3) h3 (by decide); have nh4 := lv_neT (a := 4) h4 (by decide); have nh6 := lv_neT (a := 5) h6 (by decide); have nh7 := lv_neT (a := 6) h7 (by decide); omega) (by decide) ?_
  refine lv_aload_n (pc := 112) hx hb d_C_addressOfStep_112 rfl (lv_at hl 0 rfl) ?_
  refine GC_registers (pc := 113) X hC d_C_addressOfStep_113 ?_
  refine GCR_pc (pc := 116) X hC d_C_addressOfStep_116 ?_
  exact B119 _ _ _ st (st.1 4)  hC (lv_sub hl [] rfl) he
def f_C_byteToWrite_177 (st : CS) (s0 : Int32) : Int32 × CS := (s0, st)
def f_C_byteToWrite (st : CS)  : Int32 × CS := if (swS (st.2.1)) = 1 then (f_C_byteToWrite_177 st (st.1 0)) else (if (swS (st.2.1)) = 2 then (f_C_byteToWrite_177 st (st.1 13)) else (if (swS (st.2.1)) = 3 then (bP (f_R_changed st (st.1 7) (st.1 13)) (fun r5 st4 => f_C_byteToWrite_177 st4 r5)) else (if (swS (st.2.1)) = 4 then (if (st.1 7) = 16 then (f_C_byteToWrite_177 st (st.1 0)) else (bP (f_R_p st ) (fun r9 st8 => f_C_byteToWrite_177 st8 r9))) else (if (swS (st.2.1)) = 5 then (f_C_byteToWrite_177 st ((st.1 4) >>> (8 &&& 31))) else (if (swS (st.2.1)) = 6 then (f_C_byteToWrite_177 st ((st.1 4) &&& 255)) else (if (swS (st.2.1)) = 7 then (if st.2.2.1 = (11 : Fin 16) then (bP (f_R_p st ) (fun r17 st16 => f_C_byteToWrite_177 st16 (r17 + 16))) else (bP (f_R_p st ) (fun r15 st14 => f_C_byteToWrite_177 st14 r15))) else (f_C_byteToWrite_177 st 0)))))))
abbrev rm_C_byteToWrite : Room := { frames := 1, cells := 0, slots := 0, locals := 22 }
set_option maxHeartbeats 4000000 in
set_option maxRecDepth 100000 in
theorem k_C_byteToWrite (l : Launch) (g : CG) (rt : MS) (o : Nat → Int64) (st : CS)  : KI l g y_C_byteToWrite (Cond.code y_C_byteToWrite c_C_byteToWrite 1 (some .int) :: ALL) rm_C_byteToWrite [.ref (g.chip)] (wC g rt o) st (f_C_byteToWrite st ) := by
  refine KI.ofW (by decide) (Nat.le_of_ble_eq_true rfl) ?_
  intro p e s m args below meth c A Q ls Rv X he RET hC hl
  obtain ⟨hx, hb⟩ := FX_xb X
  have hl : lv_has ls 1 [(0, .ref (g.chip))] := hl
  have B177 : ∀ (H : Heap) (locs : List Loc) (ls : Array Slot) (st : CS) (s0 : Int32), HC g A s (wC g rt o st) H locs → lv_has ls 1 [] → f_C_byteToWrite_177 st s0 = Rv → W p l e rm_C_byteToWrite s m args below meth c H locs 0 0 Q (F0 m 177 ls [.int s0]) := by
    intro H locs ls st s0  hC hl he
    unfold f_C_byteToWrite_177 at he
    exact RET (pc := 177) d_C_byteToWrite_177 hC he
  unfold f_C_byteToWrite at he
  refine SC_mapS (pc := 0) X hC d_C_byteToWrite_0 ?_
  refine lv_aload_n (pc := 3) hx hb d_C_byteToWrite_3 rfl (lv_at hl 0 rfl) ?_
  refine GC_step (pc := 4) X hC d_C_byteToWrite_4 ?_
  refine OC_stp (pc := 7) (k := st.2.1) (rest := [.ref (g.mapS)]) X hC hl.1 (Nat.le_of_ble_eq_true rfl) ⟨by decide, by decide⟩ ⟨Nat.zero_le _, Nat.zero_le _⟩ d_C_byteToWrite_7 ?_
  refine AmapS (pc := 10) (k := st.2.1) X hC d_C_byteToWrite_10 ?_
  by_cases h1 : (swS (st.2.1)) = 1
  · replace he := if_go he h1
    refine lv_tableIn (pc := 11) (tgt := 52) hx hb d_C_byteToWrite_11 (by rw [h1]; decide) (by rw [h1]; decide) (by rw [h1]; rfl) (by decide) ?_
    refine lv_aload_n (pc := 52) hx hb d_C_byteToWrite_52 rfl (lv_at hl 0 rfl) ?_
    refine GC_registers (pc := 53) X hC d_C_byteToWrite_53 ?_
    refine GCR_a (pc := 56) X hC d_C_byteToWrite_56 ?_
    refine lv_goto (pc := 59) (tgt := 177) hx hb d_C_byteToWrite_59 (by decide) ?_
    exact B177 _ _ _ st (st.1 0)  hC (lv_sub hl [] rfl) he
  replace he := if_no he h1
  by_cases h2 : (swS (st.2.1)) = 2
  · replace he := if_go he h2
    refine lv_tableIn (pc := 11) (tgt := 62) hx hb d_C_byteToWrite_11 (by rw [h2]; decide) (by rw [h2]; decide) (by rw [h2]; rfl) (by decide) ?_
    refine lv_aload_n (pc := 62) hx hb d_C_byteToWrite_62 rfl (lv_at hl 0 rfl) ?_
    refine GC_held (pc := 63) X hC d_C_byteToWrite_63 ?_
    refine lv_goto (pc := 66) (tgt := 177) hx hb d_C_byteToWrite_66 (by decide) ?_
    exact B177 _ _ _ st (st.1 13)  hC (lv_sub hl [] rfl) he
  replace he := if_no he h2
  by_cases h3 : (swS (st.2.1)) = 3
  · replace he := if_go he h3
    refine lv_tableIn (pc := 11) (tgt := 69) hx hb d_C_byteToWrite_11 (by rw [h3]; decide) (by rw [h3]; decide) (by rw [h3]; rfl) (by decide) ?_
    refine lv_aload_n (pc := 69) hx hb d_C_byteToWrite_69 rfl (lv_at hl 0 rfl) ?_
    refine GC_registers (pc := 70) X hC d_C_byteToWrite_70 ?_
    refine lv_aload_n (pc := 73) hx hb d_C_byteToWrite_73 rfl (lv_at hl 0 rfl) ?_
    refine GC_operation (pc := 74) X hC d_C_byteToWrite_74 ?_
    refine lv_aload_n (pc := 77) hx hb d_C_byteToWrite_77 rfl (lv_at hl 0 rfl) ?_
    refine GC_held (pc := 78) X hC d_C_byteToWrite_78 ?_
    refine callIN (q0 := 3) (pc := 81) (As := [.int (st.1 7), .int (st.1 13)]) (rest := []) X (k_R_changed l g rt o st (st.1 7) (st.1 13)) hC (NC_R_changed_147 X rfl rfl ⟨by decide, by decide⟩) rfl rfl rfl hl.1 (Nat.le_of_ble_eq_true rfl) rfl d_C_byteToWrite_81 ⟨Nat.zero_le _, Nat.zero_le _⟩ (fun r5 st4 H locs est4 hC => ?_)
    replace he := bP_go he est4
    refine lv_goto (pc := 84) (tgt := 177) hx hb d_C_byteToWrite_84 (by decide) ?_
    exact B177 _ _ _ st4 r5  hC (lv_sub hl [] rfl) he
  replace he := if_no he h3
  by_cases h6 : (swS (st.2.1)) = 4
  · replace he := if_go he h6
    refine lv_tableIn (pc := 11) (tgt := 87) hx hb d_C_byteToWrite_11 (by rw [h6]; decide) (by rw [h6]; decide) (by rw [h6]; rfl) (by decide) ?_
    refine lv_aload_n (pc := 87) hx hb d_C_byteToWrite_87 rfl (lv_at hl 0 rfl) ?_
    refine GC_operation (pc := 88) X hC d_C_byteToWrite_88 ?_
    refine lv_bipush (pc := 91) (v := 16) hx hb d_C_byteToWrite_91 (by decide) ?_
    refine lv_icmp_ne (pc := 93) (tgt := 106) hx hb d_C_byteToWrite_93 (by decide) (fun h7 => ?_) (fun h7 => ?_)
    · replace he := if_no he h7
      refine lv_aload_n (pc := 106) hx hb d_C_byteToWrite_106 rfl (lv_at hl 0 rfl) ?_
      refine GC_registers (pc := 107) X hC d_C_byteToWrite_107 ?_
      refine callIN (q0 := 3) (pc := 110) (As := []) (rest := []) X (k_R_p l g rt o st ) hC (NC_R_p_89 X rfl rfl ⟨by decide, by decide⟩) rfl rfl rfl hl.1 (Nat.le_of_ble_eq_true rfl) rfl d_C_byteToWrite_110 ⟨Nat.zero_le _, Nat.zero_le _⟩ (fun r9 st8 H locs est8 hC => ?_)
      replace he := bP_go he est8
      refine lv_goto (pc := 113) (tgt := 177) hx hb d_C_byteToWrite_113 (by decide) ?_
      exact B177 _ _ _ st8 r9  hC (lv_sub hl [] rfl) he
    replace he := if_go he h7
    refine lv_aload_n (pc := 96) hx hb d_C_byteToWrite_96 rfl (lv_at hl 0 rfl) ?_
    refine GC_registers (pc := 97) X hC d_C_byteToWrite_97 ?_
    refine GCR_a (pc := 100) X hC d_C_byteToWrite_100 ?_
    refine lv_goto (pc := 103) (tgt := 177) hx hb d_C_byteToWrite_103 (by decide) ?_
    exact B177 _ _ _ st (st.1 0)  hC (lv_sub hl [] rfl) he
  replace he := if_no he h6
  by_cases h10 : (swS (st.2.1)) = 5
  · replace he := if_go he h10
    refine lv_tableIn (pc := 11) (tgt := 116) hx hb d_C_byteToWrite_11 (by rw [h10]; decide) (by rw [h10]; decide) (by rw [h10]; rfl) (by decide) ?_
    refine lv_aload_n (pc := 116) hx hb d_C_byteToWrite_116 rfl (lv_at hl 0 rfl) ?_
    refine GC_registers (pc := 117) X hC d_C_byteToWrite_117 ?_
    refine GCR_pc (pc := 120) X hC d_C_byteToWrite_120 ?_
    refine lv_bipush (pc := 123) (v := 8) hx hb d_C_byteToWrite_123 (by decide) ?_
    refine lv_ishr (pc := 125) hx hb d_C_byteToWrite_125 ?_
    refine lv_goto (pc := 126) (tgt := 177) hx hb d_C_byteToWrite_126 (by decide) ?_
    exact B177 _ _ _ st ((st.1 4) >>> (8 &&& 31))  hC (lv_sub hl [] rfl) he
  replace he := if_no he h10
  by_cases h11 : (swS (st.2.1)) = 6
  · replace he := if_go he h11
    refine lv_tableIn (pc := 11) (tgt := 129) hx hb d_C_byteToWrite_11 (by rw [h11]; decide) (by rw [h11]; decide) (by rw [h11]; rfl) (by decide) ?_
    refine lv_aload_n (pc := 129) hx hb d_C_byteToWrite_129 rfl (lv_at hl 0 rfl) ?_
    refine GC_registers (pc := 130) X hC d_C_byteToWrite_130 ?_
    refine GCR_pc (pc := 133) X hC d_C_byteToWrite_133 ?_
    refine lv_sipush (pc := 136) (v := 255) hx hb d_C_byteToWrite_136 (by decide) ?_
    refine lv_iand (pc := 139) hx hb d_C_byteToWrite_139 ?_
    refine lv_goto (pc := 140) (tgt := 177) hx hb d_C_byteToWrite_140 (by decide) ?_
    exact B177 _ _ _ st ((st.1 4) &&& 255)  hC (lv_sub hl [] rfl) he
  replace he := if_no he h11
  by_cases h12 : (swS (st.2.1)) = 7
  · replace he := if_go he h12
    refine lv_tableIn (pc := 11) (tgt := 143) hx hb d_C_byteToWrite_11 (by rw [h12]; decide) (by rw [h12]; decide) (by rw [h12]; rfl) (by decide) ?_
    refine lv_aload_n (pc := 143) hx hb d_C_byteToWrite_143 rfl (lv_at hl 0 rfl) ?_
    refine GC_kind (pc := 144) X hC d_C_byteToWrite_144 ?_
    refine SC_knd_BREAK (pc := 147) X hC d_C_byteToWrite_147 ?_
    refine acK_ne (pc := 150) (tgt := 166) (i := st.2.2.1) (j := (11 : Fin 16)) X d_C_byteToWrite_150 (by decide) (fun h13 => ?_) (fun h13 => ?_)
    · replace he := if_no he h13
      refine lv_aload_n (pc := 166) hx hb d_C_byteToWrite_166 rfl (lv_at hl 0 rfl) ?_
      refine GC_registers (pc := 167) X hC d_C_byteToWrite_167 ?_
      refine callIN (q0 := 3) (pc := 170) (As := []) (rest := []) X (k_R_p l g rt o st ) hC (NC_R_p_89 X rfl rfl ⟨by decide, by decide⟩) rfl rfl rfl hl.1 (Nat.le_of_ble_eq_true rfl) rfl d_C_byteToWrite_170 ⟨Nat.zero_le _, Nat.zero_le _⟩ (fun r15 st14 H locs est14 hC => ?_)
      replace he := bP_go he est14
      refine lv_goto (pc := 173) (tgt := 177) hx hb d_C_byteToWrite_173 (by decide) ?_
      exact B177 _ _ _ st14 r15  hC (lv_sub hl [] rfl) he
    replace he := if_go he h13
    refine lv_aload_n (pc := 153) hx hb d_C_byteToWrite_153 rfl (lv_at hl 0 rfl) ?_
    refine GC_registers (pc := 154) X hC d_C_byteToWrite_154 ?_
    refine callIN (q0 := 3) (pc := 157) (As := []) (rest := []) X (k_R_p l g rt o st ) hC (NC_R_p_89 X rfl rfl ⟨by decide, by decide⟩) rfl rfl rfl hl.1 (Nat.le_of_ble_eq_true rfl) rfl d_C_byteToWrite_157 ⟨Nat.zero_le _, Nat.zero_le _⟩ (fun r17 st16 H locs est16 hC => ?_)
    replace he := bP_go he est16
    refine lv_bipush (pc := 160) (v := 16) hx hb d_C_byteToWrite_160 (by decide) ?_
    refine lv_iadd (pc := 162) hx hb d_C_byteToWrite_162 ?_
    refine lv_goto (pc := 163) (tgt := 177) hx hb d_C_byteToWrite_163 (by decide) ?_
    exact B177 _ _ _ st16 (r17 + 16)  hC (lv_sub hl [] rfl) he
  replace he := if_no he h12
  refine lv_tableOut (pc := 11) (tgt := 176) hx hb d_C_byteToWrite_11 (by have nh1 := lv_neT (a := 1) h1 (by decide); have nh2 := lv_neT (a := 2) h2 (by decide); have nh3 := lv_neT (a := 3) h3 (by decide); have nh6 := lv_neT (a := 4) h6 (by decide); have nh10 := lv_neT (a := 5) h10 (by decide); have nh11 := lv_neT (a := 6) h11 (by decide); have nh12 := lv_neT (a := 7) h12 (by decide); omega) (by decide) ?_
  refine lv_iconst (pc := 176) (v := 0) hx hb d_C_byteToWrite_176 (by decide) ?_
  exact B177 _ _ _ st 0  hC (lv_sub hl [] rfl) he
def f_C_begin (st : CS) (v1 : Fin 16) (v2 : Fin 35) : CS := bS (sK st v1) (fun st1 => bS (sS st1 v2) (fun st2 => bS (sV st2 9 0) (fun st3 => st3)))
abbrev rm_C_begin : Room := { frames := 0, cells := 0, slots := 0, locals := 0 }
set_option maxHeartbeats 4000000 in
set_option maxRecDepth 100000 in
theorem k_C_begin (l : Launch) (g : CG) (rt : MS) (o : Nat → Int64) (st : CS) (v1 : Fin 16) (v2 : Fin 35) : KV l g y_C_begin (Cond.code y_C_begin c_C_begin 3 none :: ALL) rm_C_begin [.ref (g.chip), .ref (g.adK (v1).val), .ref (g.adS (v2).val)] (wC g rt o) st (f_C_begin st v1 v2) := by
  refine KV.ofW (by decide) (Nat.le_of_ble_eq_true rfl) ?_
  intro p e s m args below meth c A Q ls Rv X he RET hC hl
  obtain ⟨hx, hb⟩ := FX_xb X
  have hl : lv_has ls 3 [(0, .ref (g.chip)), (1, .ref (g.adK (v1).val)), (2, .ref (g.adS (v2).val))] := hl
  unfold f_C_begin at he
  refine lv_aload_n (pc := 0) hx hb d_C_begin_0 rfl (lv_at hl 0 rfl) ?_
  refine lv_aload_n (pc := 1) hx hb d_C_begin_1 rfl (lv_at hl 1 rfl) ?_
  refine PC_kind (pc := 2) X hC d_C_begin_2 (fun st1 H locs est1 hC => ?_)
  replace he := bS_go he est1
  refine lv_aload_n (pc := 5) hx hb d_C_begin_5 rfl (lv_at hl 0 rfl) ?_
  refine lv_aload_n (pc := 6) hx hb d_C_begin_6 rfl (lv_at hl 2 rfl) ?_
  refine PC_step (pc := 7) X hC d_C_begin_7 (fun st2 H locs est2 hC => ?_)
  replace he := bS_go he est2
  refine lv_aload_n (pc := 10) hx hb d_C_begin_10 rfl (lv_at hl 0 rfl) ?_
  refine lv_iconst (pc := 11) (v := 0) hx hb d_C_begin_11 (by decide) ?_
  refine PC_done (pc := 12) X hC d_C_begin_12 (fun st3 H locs est3 hC => ?_)
  replace he := bS_go he est3
  exact RET (pc := 15) d_C_begin_15 hC he
def f_C_end_70 (st : CS)  : CS := st
def f_C_end_47 (st : CS)  : CS := bS (f_C_begin st (13 : Fin 16) (28 : Fin 35)) (fun st9 => f_C_end_70 st9 )
def f_C_end_35 (st : CS) (s0 : Int32) : CS := if (st.1 6) = 0 then (if s0 = 0 then (bS (f_C_begin st (15 : Fin 16) (0 : Fin 35)) (fun st8 => f_C_end_70 st8 )) else (f_C_end_47 st )) else (f_C_end_47 st )
def f_C_end_34 (st : CS)  : CS := f_C_end_35 st 0
def f_C_end (st : CS)  : CS := bS (sV st 10 ((st.1 10) + 1)) (fun st1 => if (rP st1 1) = 0 then (f_C_end_34 st1 ) else (bP (f_R_has st1 4) (fun r4 st3 => if r4 = 0 then (f_C_end_35 st3 1) else (f_C_end_34 st3 ))))
abbrev rm_C_end : Room := { frames := 1, cells := 0, slots := 0, locals := 22 }
set_option maxHeartbeats 4000000 in
set_option maxRecDepth 100000 in
theorem k_C_end (l : Launch) (g : CG) (rt : MS) (o : Nat → Int64) (st : CS)  : KV l g y_C_end (Cond.code y_C_end c_C_end 2 none :: ALL) rm_C_end [.ref (g.chip)] (wC g rt o) st (f_C_end st ) := by
  refine KV.ofW (by decide) (Nat.le_of_ble_eq_true rfl) ?_
  intro p e s m args below meth c A Q ls Rv X he RET hC hl
  obtain ⟨hx, hb⟩ := FX_xb X
  have hl : lv_has ls 2 [(0, .ref (g.chip))] := hl
  have B70 : ∀ (H : Heap) (locs : List Loc) (ls : Array Slot) (st : CS) , HC g A s (wC g rt o st) H locs → lv_has ls 2 [] → f_C_end_70 st  = Rv → W p l e rm_C_end s m args below meth c H locs 0 0 Q (F0 m 70 ls []) := by
    intro H locs ls st   hC hl he
    unfold f_C_end_70 at he
    exact RET (pc := 70) d_C_end_70 hC he
  have B47 : ∀ (H : Heap) (locs : List Loc) (ls : Array Slot) (st : CS) , HC g A s (wC g rt o st) H locs → lv_has ls 2 [(0, .ref (g.chip))] → f_C_end_47 st  = Rv → W p l e rm_C_end s m args below meth c H locs 0 0 Q (F0 m 47 ls []) := by
    intro H locs ls st   hC hl he
    unfold f_C_end_47 at he
    refine lv_aload_n (pc := 47) hx hb d_C_end_47 rfl (lv_at hl 0 rfl) ?_
    refine SC_knd_INTERRUPT (pc := 48) X hC d_C_end_48 ?_
    refine SC_stp_INTERRUPT_IDLE (pc := 51) X hC d_C_end_51 ?_
    refine callVO (q0 := 0) (pc := 54) (As := [.ref (g.adK ((13 : Fin 16)).val), .ref (g.adS ((28 : Fin 35)).val)]) (rest := []) X (k_C_begin l g rt o st (13 : Fin 16) (28 : Fin 35)) hC (NC_C_begin_70 X rfl rfl ⟨by decide, by decide⟩) rfl rfl rfl hl.1 (Nat.le_of_ble_eq_true rfl) rfl d_C_end_54 ⟨Nat.zero_le _, Nat.zero_le _⟩ (fun st9 H locs est9 hC => ?_)
    replace he := bS_go he est9
    refine lv_goto (pc := 57) (tgt := 70) hx hb d_C_end_57 (by decide) ?_
    exact B70 _ _ _ st9   hC (lv_sub hl [] rfl) he
  have B35 : ∀ (H : Heap) (locs : List Loc) (ls : Array Slot) (st : CS) (s0 : Int32) (hs0 : s0 = 0 ∨ s0 = 1), HC g A s (wC g rt o st) H locs → lv_has ls 2 [(0, .ref (g.chip))] → f_C_end_35 st s0 = Rv → W p l e rm_C_end s m args below meth c H locs 0 0 Q (F0 m 35 ls [.int s0]) := by
    intro H locs ls st s0 hs0 hC hl he
    unfold f_C_end_35 at he
    refine lv_istore_n (pc := 35) (nL := 2) (lv' := [(1, .int s0), (0, .ref (g.chip))]) hx hb d_C_end_35 rfl hl (by decide) rfl (fun ls hl => ?_)
    refine lv_aload_n (pc := 36) hx hb d_C_end_36 rfl (lv_at hl 1 rfl) ?_
    refine GC_nmiWanted (pc := 37) X hC d_C_end_37 ?_
    refine lv_if_ne (pc := 40) (tgt := 47) hx hb d_C_end_40 (by decide) (fun h6 => ?_) (fun h6 => ?_)
    · replace he := if_no he h6
      exact B47 _ _ _ st   hC (lv_sub hl [1] rfl) he
    replace he := if_go he h6
    refine lv_iload_n (pc := 43) hx hb d_C_end_43 rfl (lv_at hl 0 rfl) ?_
    refine lv_if_eq (pc := 44) (tgt := 60) hx hb d_C_end_44 (by decide) (fun h7 => ?_) (fun h7 => ?_)
    · replace he := if_go he h7
      refine lv_aload_n (pc := 60) hx hb d_C_end_60 rfl (lv_at hl 1 rfl) ?_
      refine SC_knd_NOT_READ_YET (pc := 61) X hC d_C_end_61 ?_
      refine SC_stp_FETCH (pc := 64) X hC d_C_end_64 ?_
      refine callVO (q0 := 0) (pc := 67) (As := [.ref (g.adK ((15 : Fin 16)).val), .ref (g.adS ((0 : Fin 35)).val)]) (rest := []) X (k_C_begin l g rt o st (15 : Fin 16) (0 : Fin 35)) hC (NC_C_begin_70 X rfl rfl ⟨by decide, by decide⟩) rfl rfl rfl hl.1 (Nat.le_of_ble_eq_true rfl) rfl d_C_end_67 ⟨Nat.zero_le _, Nat.zero_le _⟩ (fun st8 H locs est8 hC => ?_)
      replace he := bS_go he est8
      exact B70 _ _ _ st8   hC (lv_sub hl [] rfl) he
    replace he := if_no he h7
    exact B47 _ _ _ st   hC (lv_sub hl [1] rfl) he
  have B34 : ∀ (H : Heap) (locs : List Loc) (ls : Array Slot) (st : CS) , HC g A s (wC g rt o st) H locs → lv_has ls 2 [(0, .ref (g.chip))] → f_C_end_34 st  = Rv → W p l e rm_C_end s m args below meth c H locs 0 0 Q (F0 m 34 ls []) := by
    intro H locs ls st   hC hl he
    unfold f_C_end_34 at he
    refine lv_iconst (pc := 34) (v := 0) hx hb d_C_end_34 (by decide) ?_
    exact B35 _ _ _ st 0 b0 hC (lv_sub hl [0] rfl) he
  unfold f_C_end at he
  refine lv_aload_n (pc := 0) hx hb d_C_end_0 rfl (lv_at hl 0 rfl) ?_
  refine lv_dup (pc := 1) hx hb d_C_end_1 rfl ?_
  refine GC_ended (pc := 2) X hC d_C_end_2 ?_
  refine lv_iconst (pc := 5) (v := 1) hx hb d_C_end_5 (by decide) ?_
  refine lv_iadd (pc := 6) hx hb d_C_end_6 ?_
  refine PC_ended (pc := 7) X hC d_C_end_7 (fun st1 H locs est1 hC => ?_)
  replace he := bS_go he est1
  refine lv_aload_n (pc := 10) hx hb d_C_end_10 rfl (lv_at hl 0 rfl) ?_
  refine GC_pins (pc := 11) X hC d_C_end_11 ?_
  refine lv_iconst (pc := 14) (v := 1) hx hb d_C_end_14 (by decide) ?_
  refine Apins (pc := 15) (i := 1) X hC (by unfold vp_in; decide) d_C_end_15 ?_
  refine lv_if_eq (pc := 16) (tgt := 34) hx hb d_C_end_16 (by decide) (fun h2 => ?_) (fun h2 => ?_)
  · replace he := if_go he h2
    exact B34 _ _ _ st1   hC (lv_sub hl [0] rfl) he
  replace he := if_no he h2
  refine lv_aload_n (pc := 19) hx hb d_C_end_19 rfl (lv_at hl 0 rfl) ?_
  refine GC_registers (pc := 20) X hC d_C_end_20 ?_
  refine lv_iconst (pc := 23) (v := 4) hx hb d_C_end_23 (by decide) ?_
  refine callZN (q0 := 3) (pc := 24) (As := [.int 4]) (rest := []) X (k_R_has l g rt o st1 4) hC (NC_R_has_267 X rfl rfl ⟨by decide, by decide⟩) rfl rfl rfl hl.1 (Nat.le_of_ble_eq_true rfl) rfl d_C_end_24 ⟨Nat.zero_le _, Nat.zero_le _⟩ (fun r4 st3 H locs est3 br4 hC => ?_)
  replace he := bP_go he est3
  refine lv_if_ne (pc := 27) (tgt := 34) hx hb d_C_end_27 (by decide) (fun h5 => ?_) (fun h5 => ?_)
  · replace he := if_no he h5
    exact B34 _ _ _ st3   hC (lv_sub hl [0] rfl) he
  replace he := if_go he h5
  refine lv_iconst (pc := 30) (v := 1) hx hb d_C_end_30 (by decide) ?_
  refine lv_goto (pc := 31) (tgt := 35) hx hb d_C_end_31 (by decide) ?_
  exact B35 _ _ _ st3 1 b1 hC (lv_sub hl [0] rfl) he
def f_C_afterWrite_178 (st : CS)  : CS := st
def f_C_afterWrite_141 (st : CS) (s0 : Fin 35) : CS := bS (sS st s0) (fun st20 => f_C_afterWrite_178 st20 )
def f_C_afterWrite (st : CS)  : CS := if (swS (st.2.1)) = 2 then (bS (sS st (13 : Fin 35)) (fun st2 => f_C_afterWrite_178 st2 )) else (if (swS (st.2.1)) = 3 then (bS (f_R_flagsOfChange st (st.1 7) (st.1 13)) (fun st4 => bS (f_C_end st4 ) (fun st5 => f_C_afterWrite_178 st5 ))) else (if (swS (st.2.1)) = 4 then (bS (f_R_moveStack st (-1)) (fun st7 => bS (f_C_end st7 ) (fun st8 => f_C_afterWrite_178 st8 ))) else (if (swS (st.2.1)) = 5 then (bS (f_R_moveStack st (-1)) (fun st10 => bS (sS st10 (22 : Fin 35)) (fun st11 => f_C_afterWrite_178 st11 ))) else (if (swS (st.2.1)) = 6 then (bS (f_R_moveStack st (-1)) (fun st13 => if st13.2.2.1 = (5 : Fin 16) then (f_C_afterWrite_141 st13 (7 : Fin 35)) else (f_C_afterWrite_141 st13 (23 : Fin 35)))) else (if (swS (st.2.1)) = 7 then (bS (f_R_moveStack st (-1)) (fun st16 => bS (f_R_put st16 4 1) (fun st17 => bS (sS st17 (29 : Fin 35)) (fun st18 => f_C_afterWrite_178 st18 )))) else (bS (f_C_end st ) (fun st19 => f_C_afterWrite_178 st19 )))))))
abbrev rm_C_afterWrite : Room := { frames := 2, cells := 0, slots := 0, locals := 44 }
set_option maxHeartbeats 4000000 in
set_option maxRecDepth 100000 in
theorem k_C_afterWrite (l : Launch) (g : CG) (rt : MS) (o : Nat → Int64) (st : CS)  : KV l g y_C_afterWrite (Cond.code y_C_afterWrite c_C_afterWrite 1 none :: ALL) rm_C_afterWrite [.ref (g.chip)] (wC g rt o) st (f_C_afterWrite st ) := by
  refine KV.ofW (by decide) (Nat.le_of_ble_eq_true rfl) ?_
  intro p e s m args below meth c A Q ls Rv X he RET hC hl
  obtain ⟨hx, hb⟩ := FX_xb X
  have hl : lv_has ls 1 [(0, .ref (g.chip))] := hl
  have B178 : ∀ (H : Heap) (locs : List Loc) (ls : Array Slot) (st : CS) , HC g A s (wC g rt o st) H locs → lv_has ls 1 [] → f_C_afterWrite_178 st  = Rv → W p l e rm_C_afterWrite s m args below meth c H locs 0 0 Q (F0 m 178 ls []) := by
    intro H locs ls st   hC hl he
    unfold f_C_afterWrite_178 at he
    exact RET (pc := 178) d_C_afterWrite_178 hC he
  have B141 : ∀ (H : Heap) (locs : List Loc) (ls : Array Slot) (st : CS) (s0 : Fin 35), HC g A s (wC g rt o st) H locs → lv_has ls 1 [] → f_C_afterWrite_141 st s0 = Rv → W p l e rm_C_afterWrite s m args below meth c H locs 0 0 Q (F0 m 141 ls [.ref (g.adS (s0).val), .ref (g.chip)]) := by
    intro H locs ls st s0  hC hl he
    unfold f_C_afterWrite_141 at he
    refine PC_step (pc := 141) X hC d_C_afterWrite_141 (fun st20 H locs est20 hC => ?_)
    replace he := bS_go he est20
    refine lv_goto (pc := 144) (tgt := 178) hx hb d_C_afterWrite_144 (by decide) ?_
    exact B178 _ _ _ st20   hC (lv_sub hl [] rfl) he
  unfold f_C_afterWrite at he
  refine SC_mapS (pc := 0) X hC d_C_afterWrite_0 ?_
  refine lv_aload_n (pc := 3) hx hb d_C_afterWrite_3 rfl (lv_at hl 0 rfl) ?_
  refine GC_step (pc := 4) X hC d_C_afterWrite_4 ?_
  refine OC_stp (pc := 7) (k := st.2.1) (rest := [.ref (g.mapS)]) X hC hl.1 (Nat.le_of_ble_eq_true rfl) ⟨by decide, by decide⟩ ⟨Nat.zero_le _, Nat.zero_le _⟩ d_C_afterWrite_7 ?_
  refine AmapS (pc := 10) (k := st.2.1) X hC d_C_afterWrite_10 ?_
  by_cases h1 : (swS (st.2.1)) = 2
  · replace he := if_go he h1
    refine lv_tableIn (pc := 11) (tgt := 48) hx hb d_C_afterWrite_11 (by rw [h1]; decide) (by rw [h1]; decide) (by rw [h1]; rfl) (by decide) ?_
    refine lv_aload_n (pc := 48) hx hb d_C_afterWrite_48 rfl (lv_at hl 0 rfl) ?_
    refine SC_stp_CHANGE_NEW (pc := 49) X hC d_C_afterWrite_49 ?_
    refine PC_step (pc := 52) X hC d_C_afterWrite_52 (fun st2 H locs est2 hC => ?_)
    replace he := bS_go he est2
    refine lv_goto (pc := 55) (tgt := 178) hx hb d_C_afterWrite_55 (by decide) ?_
    exact B178 _ _ _ st2   hC (lv_sub hl [] rfl) he
  replace he := if_no he h1
  by_cases h3 : (swS (st.2.1)) = 3
  · replace he := if_go he h3
    refine lv_tableIn (pc := 11) (tgt := 58) hx hb d_C_afterWrite_11 (by rw [h3]; decide) (by rw [h3]; decide) (by rw [h3]; rfl) (by decide) ?_
    refine lv_aload_n (pc := 58) hx hb d_C_afterWrite_58 rfl (lv_at hl 0 rfl) ?_
    refine GC_registers (pc := 59) X hC d_C_afterWrite_59 ?_
    refine lv_aload_n (pc := 62) hx hb d_C_afterWrite_62 rfl (lv_at hl 0 rfl) ?_
    refine GC_operation (pc := 63) X hC d_C_afterWrite_63 ?_
    refine lv_aload_n (pc := 66) hx hb d_C_afterWrite_66 rfl (lv_at hl 0 rfl) ?_
    refine GC_held (pc := 67) X hC d_C_afterWrite_67 ?_
    refine callVN (q0 := 3) (pc := 70) (As := [.int (st.1 7), .int (st.1 13)]) (rest := []) X (k_R_flagsOfChange l g rt o st (st.1 7) (st.1 13)) hC (NC_R_flagsOfChange_157 X rfl rfl ⟨by decide, by decide⟩) rfl rfl rfl hl.1 (Nat.le_of_ble_eq_true rfl) rfl d_C_afterWrite_70 ⟨Nat.zero_le _, Nat.zero_le _⟩ (fun st4 H locs est4 hC => ?_)
    replace he := bS_go he est4
    refine lv_aload_n (pc := 73) hx hb d_C_afterWrite_73 rfl (lv_at hl 0 rfl) ?_
    refine callVO (q0 := 0) (pc := 74) (As := []) (rest := []) X (k_C_end l g rt o st4 ) hC (NC_C_end_161 X rfl rfl ⟨by decide, by decide⟩) rfl rfl rfl hl.1 (Nat.le_of_ble_eq_true rfl) rfl d_C_afterWrite_74 ⟨Nat.zero_le _, Nat.zero_le _⟩ (fun st5 H locs est5 hC => ?_)
    replace he := bS_go he est5
    refine lv_goto (pc := 77) (tgt := 178) hx hb d_C_afterWrite_77 (by decide) ?_
    exact B178 _ _ _ st5   hC (lv_sub hl [] rfl) he
  replace he := if_no he h3
  by_cases h6 : (swS (st.2.1)) = 4
  · replace he := if_go he h6
    refine lv_tableIn (pc := 11) (tgt := 80) hx hb d_C_afterWrite_11 (by rw [h6]; decide) (by rw [h6]; decide) (by rw [h6]; rfl) (by decide) ?_
    refine lv_aload_n (pc := 80) hx hb d_C_afterWrite_80 rfl (lv_at hl 0 rfl) ?_
    refine GC_registers (pc := 81) X hC d_C_afterWrite_81 ?_
    refine lv_iconst (pc := 84) (v := (-1)) hx hb d_C_afterWrite_84 (by decide) ?_
    refine callVN (q0 := 3) (pc := 85) (As := [.int (-1)]) (rest := []) X (k_R_moveStack l g rt o st (-1)) hC (NC_R_moveStack_164 X rfl rfl ⟨by decide, by decide⟩) rfl rfl rfl hl.1 (Nat.le_of_ble_eq_true rfl) rfl d_C_afterWrite_85 ⟨Nat.zero_le _, Nat.zero_le _⟩ (fun st7 H locs est7 hC => ?_)
    replace he := bS_go he est7
    refine lv_aload_n (pc := 88) hx hb d_C_afterWrite_88 rfl (lv_at hl 0 rfl) ?_
    refine callVO (q0 := 0) (pc := 89) (As := []) (rest := []) X (k_C_end l g rt o st7 ) hC (NC_C_end_161 X rfl rfl ⟨by decide, by decide⟩) rfl rfl rfl hl.1 (Nat.le_of_ble_eq_true rfl) rfl d_C_afterWrite_89 ⟨Nat.zero_le _, Nat.zero_le _⟩ (fun st8 H locs est8 hC => ?_)
    replace he := bS_go he est8
    refine lv_goto (pc := 92) (tgt := 178) hx hb d_C_afterWrite_92 (by decide) ?_
    exact B178 _ _ _ st8   hC (lv_sub hl [] rfl) he
  replace he := if_no he h6
  by_cases h9 : (swS (st.2.1)) = 5
  · replace he := if_go he h9
    refine lv_tableIn (pc := 11) (tgt := 95) hx hb d_C_afterWrite_11 (by rw [h9]; decide) (by rw [h9]; decide) (by rw [h9]; rfl) (by decide) ?_
    refine lv_aload_n (pc := 95) hx hb d_C_afterWrite_95 rfl (lv_at hl 0 rfl) ?_
    refine GC_registers (pc := 96) X hC d_C_afterWrite_96 ?_
    refine lv_iconst (pc := 99) (v := (-1)) hx hb d_C_afterWrite_99 (by decide) ?_
    refine callVN (q0 := 3) (pc := 100) (As := [.int (-1)]) (rest := []) X (k_R_moveStack l g rt o st (-1)) hC (NC_R_moveStack_164 X rfl rfl ⟨by decide, by decide⟩) rfl rfl rfl hl.1 (Nat.le_of_ble_eq_true rfl) rfl d_C_afterWrite_100 ⟨Nat.zero_le _, Nat.zero_le _⟩ (fun st10 H locs est10 hC => ?_)
    replace he := bS_go he est10
    refine lv_aload_n (pc := 103) hx hb d_C_afterWrite_103 rfl (lv_at hl 0 rfl) ?_
    refine SC_stp_PUSH_LOW (pc := 104) X hC d_C_afterWrite_104 ?_
    refine PC_step (pc := 107) X hC d_C_afterWrite_107 (fun st11 H locs est11 hC => ?_)
    replace he := bS_go he est11
    refine lv_goto (pc := 110) (tgt := 178) hx hb d_C_afterWrite_110 (by decide) ?_
    exact B178 _ _ _ st11   hC (lv_sub hl [] rfl) he
  replace he := if_no he h9
  by_cases h12 : (swS (st.2.1)) = 6
  · replace he := if_go he h12
    refine lv_tableIn (pc := 11) (tgt := 113) hx hb d_C_afterWrite_11 (by rw [h12]; decide) (by rw [h12]; decide) (by rw [h12]; rfl) (by decide) ?_
    refine lv_aload_n (pc := 113) hx hb d_C_afterWrite_113 rfl (lv_at hl 0 rfl) ?_
    refine GC_registers (pc := 114) X hC d_C_afterWrite_114 ?_
    refine lv_iconst (pc := 117) (v := (-1)) hx hb d_C_afterWrite_117 (by decide) ?_
    refine callVN (q0 := 3) (pc := 118) (As := [.int (-1)]) (rest := []) X (k_R_moveStack l g rt o st (-1)) hC (NC_R_moveStack_164 X rfl rfl ⟨by decide, by decide⟩) rfl rfl rfl hl.1 (Nat.le_of_ble_eq_true rfl) rfl d_C_afterWrite_118 ⟨Nat.zero_le _, Nat.zero_le _⟩ (fun st13 H locs est13 hC => ?_)
    replace he := bS_go he est13
    refine lv_aload_n (pc := 121) hx hb d_C_afterWrite_121 rfl (lv_at hl 0 rfl) ?_
    refine lv_aload_n (pc := 122) hx hb d_C_afterWrite_122 rfl (lv_at hl 0 rfl) ?_
    refine GC_kind (pc := 123) X hC d_C_afterWrite_123 ?_
    refine SC_knd_CALL (pc := 126) X hC d_C_afterWrite_126 ?_
    refine acK_ne (pc := 129) (tgt := 138) (i := st13.2.2.1) (j := (5 : Fin 16)) X d_C_afterWrite_129 (by decide) (fun h14 => ?_) (fun h14 => ?_)
    · replace he := if_no he h14
      refine SC_stp_PUSH_P (pc := 138) X hC d_C_afterWrite_138 ?_
      exact B141 _ _ _ st13 (23 : Fin 35)  hC (lv_sub hl [] rfl) he
    replace he := if_go he h14
    refine SC_stp_FAR_PAGE (pc := 132) X hC d_C_afterWrite_132 ?_
    refine lv_goto (pc := 135) (tgt := 141) hx hb d_C_afterWrite_135 (by decide) ?_
    exact B141 _ _ _ st13 (7 : Fin 35)  hC (lv_sub hl [] rfl) he
  replace he := if_no he h12
  by_cases h15 : (swS (st.2.1)) = 7
  · replace he := if_go he h15
    refine lv_tableIn (pc := 11) (tgt := 147) hx hb d_C_afterWrite_11 (by rw [h15]; decide) (by rw [h15]; decide) (by rw [h15]; rfl) (by decide) ?_
    refine lv_aload_n (pc := 147) hx hb d_C_afterWrite_147 rfl (lv_at hl 0 rfl) ?_
    refine GC_registers (pc := 148) X hC d_C_afterWrite_148 ?_
    refine lv_iconst (pc := 151) (v := (-1)) hx hb d_C_afterWrite_151 (by decide) ?_
    refine callVN (q0 := 3) (pc := 152) (As := [.int (-1)]) (rest := []) X (k_R_moveStack l g rt o st (-1)) hC (NC_R_moveStack_164 X rfl rfl ⟨by decide, by decide⟩) rfl rfl rfl hl.1 (Nat.le_of_ble_eq_true rfl) rfl d_C_afterWrite_152 ⟨Nat.zero_le _, Nat.zero_le _⟩ (fun st16 H locs est16 hC => ?_)
    replace he := bS_go he est16
    refine lv_aload_n (pc := 155) hx hb d_C_afterWrite_155 rfl (lv_at hl 0 rfl) ?_
    refine GC_registers (pc := 156) X hC d_C_afterWrite_156 ?_
    refine lv_iconst (pc := 159) (v := 4) hx hb d_C_afterWrite_159 (by decide) ?_
    refine lv_iconst (pc := 160) (v := 1) hx hb d_C_afterWrite_160 (by decide) ?_
    refine callVN (q0 := 3) (pc := 161) (As := [.int 4, .int 1]) (rest := []) X (k_R_put l g rt o st16 4 1) hC (NC_R_put_105 X rfl rfl ⟨by decide, by decide⟩) rfl rfl rfl hl.1 (Nat.le_of_ble_eq_true rfl) rfl d_C_afterWrite_161 ⟨Nat.zero_le _, Nat.zero_le _⟩ (fun st17 H locs est17 hC => ?_)
    replace he := bS_go he est17
    refine lv_aload_n (pc := 164) hx hb d_C_afterWrite_164 rfl (lv_at hl 0 rfl) ?_
    refine SC_stp_VECTOR_LOW (pc := 165) X hC d_C_afterWrite_165 ?_
    refine PC_step (pc := 168) X hC d_C_afterWrite_168 (fun st18 H locs est18 hC => ?_)
    replace he := bS_go he est18
    refine lv_goto (pc := 171) (tgt := 178) hx hb d_C_afterWrite_171 (by decide) ?_
    exact B178 _ _ _ st18   hC (lv_sub hl [] rfl) he
  replace he := if_no he h15
  refine lv_tableOut (pc := 11) (tgt := 174) hx hb d_C_afterWrite_11 (by have nh1 := lv_neT (a := 2) h1 (by decide); have nh3 := lv_neT (a := 3) h3 (by decide); have nh6 := lv_neT (a := 4) h6 (by decide); have nh9 := lv_neT (a := 5) h9 (by decide); have nh12 := lv_neT (a := 6) h12 (by decide); have nh15 := lv_neT (a := 7) h15 (by decide); omega) (by decide) ?_
  refine lv_aload_n (pc := 174) hx hb d_C_afterWrite_174 rfl (lv_at hl 0 rfl) ?_
  refine callVO (q0 := 0) (pc := 175) (As := []) (rest := []) X (k_C_end l g rt o st ) hC (NC_C_end_161 X rfl rfl ⟨by decide, by decide⟩) rfl rfl rfl hl.1 (Nat.le_of_ble_eq_true rfl) rfl d_C_afterWrite_175 ⟨Nat.zero_le _, Nat.zero_le _⟩ (fun st19 H locs est19 hC => ?_)
  replace he := bS_go he est19
  exact B178 _ _ _ st19   hC (lv_sub hl [] rfl) he
def f_C_kindWithoutOperand_93 (st : CS) (s0 : Fin 16) : Fin 16 × CS := (s0, st)
def f_C_kindWithoutOperand_66 (st : CS)  : Fin 16 × CS := f_C_kindWithoutOperand_93 st (8 : Fin 16)
def f_C_kindWithoutOperand_60 (st : CS)  : Fin 16 × CS := f_C_kindWithoutOperand_93 st (7 : Fin 16)
def f_C_kindWithoutOperand (st : CS)  : Fin 16 × CS := if 15 < (st.1 7) then (if (st.1 7) = 16 then (f_C_kindWithoutOperand_60 st ) else (if (st.1 7) = 17 then (f_C_kindWithoutOperand_66 st ) else (if (st.1 7) = 18 then (f_C_kindWithoutOperand_60 st ) else (if (st.1 7) = 19 then (f_C_kindWithoutOperand_66 st ) else (if (st.1 7) = 20 then (f_C_kindWithoutOperand_93 st (9 : Fin 16)) else (if (st.1 7) = 21 then (f_C_kindWithoutOperand_93 st (10 : Fin 16)) else (if (st.1 7) = 22 then (f_C_kindWithoutOperand_93 st (11 : Fin 16)) else (f_C_kindWithoutOperand_93 st (12 : Fin 16))))))))) else (((6 : Fin 16), st))
abbrev rm_C_kindWithoutOperand : Room := { frames := 0, cells := 0, slots := 0, locals := 0 }
set_option maxHeartbeats 4000000 in
set_option maxRecDepth 100000 in
theorem k_C_kindWithoutOperand (l : Launch) (g : CG) (rt : MS) (o : Nat → Int64) (st : CS)  : KE g.adK 16 l g y_C_kindWithoutOperand (Cond.code y_C_kindWithoutOperand c_C_kindWithoutOperand 1 (some (.object "ClockedChip$Kind")) :: ALL) rm_C_kindWithoutOperand [.ref (g.chip)] (wC g rt o) st (f_C_kindWithoutOperand st ) := by
  refine KE.ofW (by decide) (Nat.le_of_ble_eq_true rfl) ?_
  intro p e s m args below meth c A Q ls Rv X he RET hC hl
  obtain ⟨hx, hb⟩ := FX_xb X
  have hl : lv_has ls 1 [(0, .ref (g.chip))] := hl
  have B93 : ∀ (H : Heap) (locs : List Loc) (ls : Array Slot) (st : CS) (s0 : Fin 16), HC g A s (wC g rt o st) H locs → lv_has ls 1 [] → f_C_kindWithoutOperand_93 st s0 = Rv → W p l e rm_C_kindWithoutOperand s m args below meth c H locs 0 0 Q (F0 m 93 ls [.ref (g.adK (s0).val)]) := by
    intro H locs ls st s0  hC hl he
    unfold f_C_kindWithoutOperand_93 at he
    exact RET (pc := 93) d_C_kindWithoutOperand_93 hC he
  have B66 : ∀ (H : Heap) (locs : List Loc) (ls : Array Slot) (st : CS) , HC g A s (wC g rt o st) H locs → lv_has ls 1 [] → f_C_kindWithoutOperand_66 st  = Rv → W p l e rm_C_kindWithoutOperand s m args below meth c H locs 0 0 Q (F0 m 66 ls []) := by
    intro H locs ls st   hC hl he
    unfold f_C_kindWithoutOperand_66 at he
    refine SC_knd_PULL (pc := 66) X hC d_C_kindWithoutOperand_66 ?_
    refine lv_goto (pc := 69) (tgt := 93) hx hb d_C_kindWithoutOperand_69 (by decide) ?_
    exact B93 _ _ _ st (8 : Fin 16)  hC (lv_sub hl [] rfl) he
  have B60 : ∀ (H : Heap) (locs : List Loc) (ls : Array Slot) (st : CS) , HC g A s (wC g rt o st) H locs → lv_has ls 1 [] → f_C_kindWithoutOperand_60 st  = Rv → W p l e rm_C_kindWithoutOperand s m args below meth c H locs 0 0 Q (F0 m 60 ls []) := by
    intro H locs ls st   hC hl he
    unfold f_C_kindWithoutOperand_60 at he
    refine SC_knd_PUSH (pc := 60) X hC d_C_kindWithoutOperand_60 ?_
    refine lv_goto (pc := 63) (tgt := 93) hx hb d_C_kindWithoutOperand_63 (by decide) ?_
    exact B93 _ _ _ st (7 : Fin 16)  hC (lv_sub hl [] rfl) he
  unfold f_C_kindWithoutOperand at he
  refine lv_aload_n (pc := 0) hx hb d_C_kindWithoutOperand_0 rfl (lv_at hl 0 rfl) ?_
  refine GC_operation (pc := 1) X hC d_C_kindWithoutOperand_1 ?_
  refine lv_bipush (pc := 4) (v := 15) hx hb d_C_kindWithoutOperand_4 (by decide) ?_
  refine lv_icmp_gt (pc := 6) (tgt := 13) hx hb d_C_kindWithoutOperand_6 (by decide) (fun h1 => ?_) (fun h1 => ?_)
  · replace he := if_go he h1
    refine lv_aload_n (pc := 13) hx hb d_C_kindWithoutOperand_13 rfl (lv_at hl 0 rfl) ?_
    refine GC_operation (pc := 14) X hC d_C_kindWithoutOperand_14 ?_
    by_cases h2 : (st.1 7) = 16
    · replace he := if_go he h2
      refine lv_tableIn (pc := 17) (tgt := 60) hx hb d_C_kindWithoutOperand_17 (by rw [h2]; decide) (by rw [h2]; decide) (by rw [h2]; rfl) (by decide) ?_
      exact B60 _ _ _ st   hC (lv_sub hl [] rfl) he
    replace he := if_no he h2
    by_cases h3 : (st.1 7) = 17
    · replace he := if_go he h3
      refine lv_tableIn (pc := 17) (tgt := 66) hx hb d_C_kindWithoutOperand_17 (by rw [h3]; decide) (by rw [h3]; decide) (by rw [h3]; rfl) (by decide) ?_
      exact B66 _ _ _ st   hC (lv_sub hl [] rfl) he
    replace he := if_no he h3
    by_cases h4 : (st.1 7) = 18
    · replace he := if_go he h4
      refine lv_tableIn (pc := 17) (tgt := 60) hx hb d_C_kindWithoutOperand_17 (by rw [h4]; decide) (by rw [h4]; decide) (by rw [h4]; rfl) (by decide) ?_
      exact B60 _ _ _ st   hC (lv_sub hl [] rfl) he
    replace he := if_no he h4
    by_cases h5 : (st.1 7) = 19
    · replace he := if_go he h5
      refine lv_tableIn (pc := 17) (tgt := 66) hx hb d_C_kindWithoutOperand_17 (by rw [h5]; decide) (by rw [h5]; decide) (by rw [h5]; rfl) (by decide) ?_
      exact B66 _ _ _ st   hC (lv_sub hl [] rfl) he
    replace he := if_no he h5
    by_cases h6 : (st.1 7) = 20
    · replace he := if_go he h6
      refine lv_tableIn (pc := 17) (tgt := 72) hx hb d_C_kindWithoutOperand_17 (by rw [h6]; decide) (by rw [h6]; decide) (by rw [h6]; rfl) (by decide) ?_
      refine SC_knd_RETURN (pc := 72) X hC d_C_kindWithoutOperand_72 ?_
      refine lv_goto (pc := 75) (tgt := 93) hx hb d_C_kindWithoutOperand_75 (by decide) ?_
      exact B93 _ _ _ st (9 : Fin 16)  hC (lv_sub hl [] rfl) he
    replace he := if_no he h6
    by_cases h7 : (st.1 7) = 21
    · replace he := if_go he h7
      refine lv_tableIn (pc := 17) (tgt := 78) hx hb d_C_kindWithoutOperand_17 (by rw [h7]; decide) (by rw [h7]; decide) (by rw [h7]; rfl) (by decide) ?_
      refine SC_knd_RETURN_FROM_INTERRUPT (pc := 78) X hC d_C_kindWithoutOperand_78 ?_
      refine lv_goto (pc := 81) (tgt := 93) hx hb d_C_kindWithoutOperand_81 (by decide) ?_
      exact B93 _ _ _ st (10 : Fin 16)  hC (lv_sub hl [] rfl) he
    replace he := if_no he h7
    by_cases h8 : (st.1 7) = 22
    · replace he := if_go he h8
      refine lv_tableIn (pc := 17) (tgt := 84) hx hb d_C_kindWithoutOperand_17 (by rw [h8]; decide) (by rw [h8]; decide) (by rw [h8]; rfl) (by decide) ?_
      refine SC_knd_BREAK (pc := 84) X hC d_C_kindWithoutOperand_84 ?_
      refine lv_goto (pc := 87) (tgt := 93) hx hb d_C_kindWithoutOperand_87 (by decide) ?_
      exact B93 _ _ _ st (11 : Fin 16)  hC (lv_sub hl [] rfl) he
    replace he := if_no he h8
    refine lv_tableOut (pc := 17) (tgt := 90) hx hb d_C_kindWithoutOperand_17 (by have nh2 := lv_neT (a := 16) h2 (by decide); have nh3 := lv_neT (a := 17) h3 (by decide); have nh4 := lv_neT (a := 18) h4 (by decide); have nh5 := lv_neT (a := 19) h5 (by decide); have nh6 := lv_neT (a := 20) h6 (by decide); have nh7 := lv_neT (a := 21) h7 (by decide); have nh8 := lv_neT (a := 22) h8 (by decide); omega) (by decide) ?_
    refine SC_knd_JAM (pc := 90) X hC d_C_kindWithoutOperand_90 ?_
    exact B93 _ _ _ st (12 : Fin 16)  hC (lv_sub hl [] rfl) he
  replace he := if_no he h1
  refine SC_knd_ON_REGISTERS (pc := 9) X hC d_C_kindWithoutOperand_9 ?_
  exact RET (pc := 12) d_C_kindWithoutOperand_12 hC he
def f_C_kindWithOperand_149 (st : CS) (s0 : Fin 16) : Fin 16 × CS := (s0, st)
def f_C_kindWithOperand_146 (st : CS)  : Fin 16 × CS := f_C_kindWithOperand_149 st (12 : Fin 16)
def f_C_kindWithOperand_123 (st : CS)  : Fin 16 × CS := if (st.1 8) = 3 then (if (st.1 7) = 25 then (f_C_kindWithOperand_149 st (5 : Fin 16)) else (f_C_kindWithOperand_146 st )) else (f_C_kindWithOperand_146 st )
def f_C_kindWithOperand_102 (st : CS)  : Fin 16 × CS := if (st.1 8) = 3 then (if (st.1 7) = 24 then (((4 : Fin 16), st)) else (f_C_kindWithOperand_123 st )) else (f_C_kindWithOperand_123 st )
def f_C_kindWithOperand_72 (st : CS) (s0 : Fin 16) : Fin 16 × CS := (s0, st)
def f_C_kindWithOperand_69 (st : CS)  : Fin 16 × CS := f_C_kindWithOperand_72 st (12 : Fin 16)
def f_C_kindWithOperand_24 (st : CS) (s0 : Fin 16) : Fin 16 × CS := (s0, st)
def f_C_kindWithOperand (st : CS)  : Fin 16 × CS := if (st.1 7) = 1 then (if (st.1 8) = 0 then (f_C_kindWithOperand_24 st (12 : Fin 16)) else (f_C_kindWithOperand_24 st (1 : Fin 16))) else (if 9 < (st.1 7) then (if 13 < (st.1 7) then (if (st.1 8) = 0 then (if (st.1 7) < 16 then (f_C_kindWithOperand_102 st ) else (if 23 < (st.1 7) then (f_C_kindWithOperand_102 st ) else (((3 : Fin 16), st)))) else (f_C_kindWithOperand_102 st )) else (if (st.1 8) < 1 then (f_C_kindWithOperand_69 st ) else (if 4 < (st.1 8) then (f_C_kindWithOperand_69 st ) else (f_C_kindWithOperand_72 st (2 : Fin 16))))) else (((0 : Fin 16), st)))
abbrev rm_C_kindWithOperand : Room := { frames := 0, cells := 0, slots := 0, locals := 0 }
set_option maxHeartbeats 4000000 in
set_option maxRecDepth 100000 in
theorem k_C_kindWithOperand (l : Launch) (g : CG) (rt : MS) (o : Nat → Int64) (st : CS)  : KE g.adK 16 l g y_C_kindWithOperand (Cond.code y_C_kindWithOperand c_C_kindWithOperand 1 (some (.object "ClockedChip$Kind")) :: ALL) rm_C_kindWithOperand [.ref (g.chip)] (wC g rt o) st (f_C_kindWithOperand st ) := by
  refine KE.ofW (by decide) (Nat.le_of_ble_eq_true rfl) ?_
  intro p e s m args below meth c A Q ls Rv X he RET hC hl
  obtain ⟨hx, hb⟩ := FX_xb X
  have hl : lv_has ls 1 [(0, .ref (g.chip))] := hl
  have B149 : ∀ (H : Heap) (locs : List Loc) (ls : Array Slot) (st : CS) (s0 : Fin 16), HC g A s (wC g rt o st) H locs → lv_has ls 1 [] → f_C_kindWithOperand_149 st s0 = Rv → W p l e rm_C_kindWithOperand s m args below meth c H locs 0 0 Q (F0 m 149 ls [.ref (g.adK (s0).val)]) := by
    intro H locs ls st s0  hC hl he
    unfold f_C_kindWithOperand_149 at he
    exact RET (pc := 149) d_C_kindWithOperand_149 hC he
  have B146 : ∀ (H : Heap) (locs : List Loc) (ls : Array Slot) (st : CS) , HC g A s (wC g rt o st) H locs → lv_has ls 1 [] → f_C_kindWithOperand_146 st  = Rv → W p l e rm_C_kindWithOperand s m args below meth c H locs 0 0 Q (F0 m 146 ls []) := by
    intro H locs ls st   hC hl he
    unfold f_C_kindWithOperand_146 at he
    refine SC_knd_JAM (pc := 146) X hC d_C_kindWithOperand_146 ?_
    exact B149 _ _ _ st (12 : Fin 16)  hC (lv_sub hl [] rfl) he
  have B123 : ∀ (H : Heap) (locs : List Loc) (ls : Array Slot) (st : CS) , HC g A s (wC g rt o st) H locs → lv_has ls 1 [(0, .ref (g.chip))] → f_C_kindWithOperand_123 st  = Rv → W p l e rm_C_kindWithOperand s m args below meth c H locs 0 0 Q (F0 m 123 ls []) := by
    intro H locs ls st   hC hl he
    unfold f_C_kindWithOperand_123 at he
    refine lv_aload_n (pc := 123) hx hb d_C_kindWithOperand_123 rfl (lv_at hl 0 rfl) ?_
    refine GC_mode (pc := 124) X hC d_C_kindWithOperand_124 ?_
    refine lv_iconst (pc := 127) (v := 3) hx hb d_C_kindWithOperand_127 (by decide) ?_
    refine lv_icmp_ne (pc := 128) (tgt := 146) hx hb d_C_kindWithOperand_128 (by decide) (fun h12 => ?_) (fun h12 => ?_)
    · replace he := if_no he h12
      exact B146 _ _ _ st   hC (lv_sub hl [] rfl) he
    replace he := if_go he h12
    refine lv_aload_n (pc := 131) hx hb d_C_kindWithOperand_131 rfl (lv_at hl 0 rfl) ?_
    refine GC_operation (pc := 132) X hC d_C_kindWithOperand_132 ?_
    refine lv_bipush (pc := 135) (v := 25) hx hb d_C_kindWithOperand_135 (by decide) ?_
    refine lv_icmp_ne (pc := 137) (tgt := 146) hx hb d_C_kindWithOperand_137 (by decide) (fun h13 => ?_) (fun h13 => ?_)
    · replace he := if_no he h13
      exact B146 _ _ _ st   hC (lv_sub hl [] rfl) he
    replace he := if_go he h13
    refine SC_knd_CALL (pc := 140) X hC d_C_kindWithOperand_140 ?_
    refine lv_goto (pc := 143) (tgt := 149) hx hb d_C_kindWithOperand_143 (by decide) ?_
    exact B149 _ _ _ st (5 : Fin 16)  hC (lv_sub hl [] rfl) he
  have B102 : ∀ (H : Heap) (locs : List Loc) (ls : Array Slot) (st : CS) , HC g A s (wC g rt o st) H locs → lv_has ls 1 [(0, .ref (g.chip))] → f_C_kindWithOperand_102 st  = Rv → W p l e rm_C_kindWithOperand s m args below meth c H locs 0 0 Q (F0 m 102 ls []) := by
    intro H locs ls st   hC hl he
    unfold f_C_kindWithOperand_102 at he
    refine lv_aload_n (pc := 102) hx hb d_C_kindWithOperand_102 rfl (lv_at hl 0 rfl) ?_
    refine GC_mode (pc := 103) X hC d_C_kindWithOperand_103 ?_
    refine lv_iconst (pc := 106) (v := 3) hx hb d_C_kindWithOperand_106 (by decide) ?_
    refine lv_icmp_ne (pc := 107) (tgt := 123) hx hb d_C_kindWithOperand_107 (by decide) (fun h10 => ?_) (fun h10 => ?_)
    · replace he := if_no he h10
      exact B123 _ _ _ st   hC (lv_sub hl [0] rfl) he
    replace he := if_go he h10
    refine lv_aload_n (pc := 110) hx hb d_C_kindWithOperand_110 rfl (lv_at hl 0 rfl) ?_
    refine GC_operation (pc := 111) X hC d_C_kindWithOperand_111 ?_
    refine lv_bipush (pc := 114) (v := 24) hx hb d_C_kindWithOperand_114 (by decide) ?_
    refine lv_icmp_ne (pc := 116) (tgt := 123) hx hb d_C_kindWithOperand_116 (by decide) (fun h11 => ?_) (fun h11 => ?_)
    · replace he := if_no he h11
      exact B123 _ _ _ st   hC (lv_sub hl [0] rfl) he
    replace he := if_go he h11
    refine SC_knd_JUMP (pc := 119) X hC d_C_kindWithOperand_119 ?_
    exact RET (pc := 122) d_C_kindWithOperand_122 hC he
  have B72 : ∀ (H : Heap) (locs : List Loc) (ls : Array Slot) (st : CS) (s0 : Fin 16), HC g A s (wC g rt o st) H locs → lv_has ls 1 [] → f_C_kindWithOperand_72 st s0 = Rv → W p l e rm_C_kindWithOperand s m args below meth c H locs 0 0 Q (F0 m 72 ls [.ref (g.adK (s0).val)]) := by
    intro H locs ls st s0  hC hl he
    unfold f_C_kindWithOperand_72 at he
    exact RET (pc := 72) d_C_kindWithOperand_72 hC he
  have B69 : ∀ (H : Heap) (locs : List Loc) (ls : Array Slot) (st : CS) , HC g A s (wC g rt o st) H locs → lv_has ls 1 [] → f_C_kindWithOperand_69 st  = Rv → W p l e rm_C_kindWithOperand s m args below meth c H locs 0 0 Q (F0 m 69 ls []) := by
    intro H locs ls st   hC hl he
    unfold f_C_kindWithOperand_69 at he
    refine SC_knd_JAM (pc := 69) X hC d_C_kindWithOperand_69 ?_
    exact B72 _ _ _ st (12 : Fin 16)  hC (lv_sub hl [] rfl) he
  have B24 : ∀ (H : Heap) (locs : List Loc) (ls : Array Slot) (st : CS) (s0 : Fin 16), HC g A s (wC g rt o st) H locs → lv_has ls 1 [] → f_C_kindWithOperand_24 st s0 = Rv → W p l e rm_C_kindWithOperand s m args below meth c H locs 0 0 Q (F0 m 24 ls [.ref (g.adK (s0).val)]) := by
    intro H locs ls st s0  hC hl he
    unfold f_C_kindWithOperand_24 at he
    exact RET (pc := 24) d_C_kindWithOperand_24 hC he
  unfold f_C_kindWithOperand at he
  refine lv_aload_n (pc := 0) hx hb d_C_kindWithOperand_0 rfl (lv_at hl 0 rfl) ?_
  refine GC_operation (pc := 1) X hC d_C_kindWithOperand_1 ?_
  refine lv_iconst (pc := 4) (v := 1) hx hb d_C_kindWithOperand_4 (by decide) ?_
  refine lv_icmp_ne (pc := 5) (tgt := 25) hx hb d_C_kindWithOperand_5 (by decide) (fun h1 => ?_) (fun h1 => ?_)
  · replace he := if_no he h1
    refine lv_aload_n (pc := 25) hx hb d_C_kindWithOperand_25 rfl (lv_at hl 0 rfl) ?_
    refine GC_operation (pc := 26) X hC d_C_kindWithOperand_26 ?_
    refine lv_bipush (pc := 29) (v := 9) hx hb d_C_kindWithOperand_29 (by decide) ?_
    refine lv_icmp_gt (pc := 31) (tgt := 38) hx hb d_C_kindWithOperand_31 (by decide) (fun h2 => ?_) (fun h2 => ?_)
    · replace he := if_go he h2
      refine lv_aload_n (pc := 38) hx hb d_C_kindWithOperand_38 rfl (lv_at hl 0 rfl) ?_
      refine GC_operation (pc := 39) X hC d_C_kindWithOperand_39 ?_
      refine lv_bipush (pc := 42) (v := 13) hx hb d_C_kindWithOperand_42 (by decide) ?_
      refine lv_icmp_gt (pc := 44) (tgt := 73) hx hb d_C_kindWithOperand_44 (by decide) (fun h3 => ?_) (fun h3 => ?_)
      · replace he := if_go he h3
        refine lv_aload_n (pc := 73) hx hb d_C_kindWithOperand_73 rfl (lv_at hl 0 rfl) ?_
        refine GC_mode (pc := 74) X hC d_C_kindWithOperand_74 ?_
        refine lv_if_ne (pc := 77) (tgt := 102) hx hb d_C_kindWithOperand_77 (by decide) (fun h4 => ?_) (fun h4 => ?_)
        · replace he := if_no he h4
          exact B102 _ _ _ st   hC (lv_sub hl [0] rfl) he
        replace he := if_go he h4
        refine lv_aload_n (pc := 80) hx hb d_C_kindWithOperand_80 rfl (lv_at hl 0 rfl) ?_
        refine GC_operation (pc := 81) X hC d_C_kindWithOperand_81 ?_
        refine lv_bipush (pc := 84) (v := 16) hx hb d_C_kindWithOperand_84 (by decide) ?_
        refine lv_icmp_lt (pc := 86) (tgt := 102) hx hb d_C_kindWithOperand_86 (by decide) (fun h5 => ?_) (fun h5 => ?_)
        · replace he := if_go he h5
          exact B102 _ _ _ st   hC (lv_sub hl [0] rfl) he
        replace he := if_no he h5
        refine lv_aload_n (pc := 89) hx hb d_C_kindWithOperand_89 rfl (lv_at hl 0 rfl) ?_
        refine GC_operation (pc := 90) X hC d_C_kindWithOperand_90 ?_
        refine lv_bipush (pc := 93) (v := 23) hx hb d_C_kindWithOperand_93 (by decide) ?_
        refine lv_icmp_gt (pc := 95) (tgt := 102) hx hb d_C_kindWithOperand_95 (by decide) (fun h6 => ?_) (fun h6 => ?_)
        · replace he := if_go he h6
          exact B102 _ _ _ st   hC (lv_sub hl [0] rfl) he
        replace he := if_no he h6
        refine SC_knd_BRANCH (pc := 98) X hC d_C_kindWithOperand_98 ?_
        exact RET (pc := 101) d_C_kindWithOperand_101 hC he
      replace he := if_no he h3
      refine lv_aload_n (pc := 47) hx hb d_C_kindWithOperand_47 rfl (lv_at hl 0 rfl) ?_
      refine GC_mode (pc := 48) X hC d_C_kindWithOperand_48 ?_
      refine lv_iconst (pc := 51) (v := 1) hx hb d_C_kindWithOperand_51 (by decide) ?_
      refine lv_icmp_lt (pc := 52) (tgt := 69) hx hb d_C_kindWithOperand_52 (by decide) (fun h7 => ?_) (fun h7 => ?_)
      · replace he := if_go he h7
        exact B69 _ _ _ st   hC (lv_sub hl [] rfl) he
      replace he := if_no he h7
      refine lv_aload_n (pc := 55) hx hb d_C_kindWithOperand_55 rfl (lv_at hl 0 rfl) ?_
      refine GC_mode (pc := 56) X hC d_C_kindWithOperand_56 ?_
      refine lv_iconst (pc := 59) (v := 4) hx hb d_C_kindWithOperand_59 (by decide) ?_
      refine lv_icmp_gt (pc := 60) (tgt := 69) hx hb d_C_kindWithOperand_60 (by decide) (fun h8 => ?_) (fun h8 => ?_)
      · replace he := if_go he h8
        exact B69 _ _ _ st   hC (lv_sub hl [] rfl) he
      replace he := if_no he h8
      refine SC_knd_CHANGE (pc := 63) X hC d_C_kindWithOperand_63 ?_
      refine lv_goto (pc := 66) (tgt := 72) hx hb d_C_kindWithOperand_66 (by decide) ?_
      exact B72 _ _ _ st (2 : Fin 16)  hC (lv_sub hl [] rfl) he
    replace he := if_no he h2
    refine SC_knd_READ (pc := 34) X hC d_C_kindWithOperand_34 ?_
    exact RET (pc := 37) d_C_kindWithOperand_37 hC he
  replace he := if_go he h1
  refine lv_aload_n (pc := 8) hx hb d_C_kindWithOperand_8 rfl (lv_at hl 0 rfl) ?_
  refine GC_mode (pc := 9) X hC d_C_kindWithOperand_9 ?_
  refine lv_if_ne (pc := 12) (tgt := 21) hx hb d_C_kindWithOperand_12 (by decide) (fun h9 => ?_) (fun h9 => ?_)
  · replace he := if_no he h9
    refine SC_knd_STORE (pc := 21) X hC d_C_kindWithOperand_21 ?_
    exact B24 _ _ _ st (1 : Fin 16)  hC (lv_sub hl [] rfl) he
  replace he := if_go he h9
  refine SC_knd_JAM (pc := 15) X hC d_C_kindWithOperand_15 ?_
  refine lv_goto (pc := 18) (tgt := 24) hx hb d_C_kindWithOperand_18 (by decide) ?_
  exact B24 _ _ _ st (12 : Fin 16)  hC (lv_sub hl [] rfl) he
def f_C_secondStepByMode_55 (st : CS) (s0 : Fin 35) : Fin 35 × CS := (s0, st)
def f_C_secondStepByMode_52 (st : CS)  : Fin 35 × CS := f_C_secondStepByMode_55 st (2 : Fin 35)
def f_C_secondStepByMode_46 (st : CS)  : Fin 35 × CS := f_C_secondStepByMode_55 st (6 : Fin 35)
def f_C_secondStepByMode (st : CS)  : Fin 35 × CS := if (st.1 8) = 0 then (f_C_secondStepByMode_55 st (1 : Fin 35)) else (if (st.1 8) = 1 then (f_C_secondStepByMode_52 st ) else (if (st.1 8) = 2 then (f_C_secondStepByMode_52 st ) else (if (st.1 8) = 3 then (f_C_secondStepByMode_46 st ) else (if (st.1 8) = 4 then (f_C_secondStepByMode_46 st ) else (f_C_secondStepByMode_52 st )))))
abbrev rm_C_secondStepByMode : Room := { frames := 0, cells := 0, slots := 0, locals := 0 }
set_option maxHeartbeats 4000000 in
set_option maxRecDepth 100000 in
theorem k_C_secondStepByMode (l : Launch) (g : CG) (rt : MS) (o : Nat → Int64) (st : CS)  : KE g.adS 35 l g y_C_secondStepByMode (Cond.code y_C_secondStepByMode c_C_secondStepByMode 1 (some (.object "ClockedChip$Step")) :: ALL) rm_C_secondStepByMode [.ref (g.chip)] (wC g rt o) st (f_C_secondStepByMode st ) := by
  refine KE.ofW (by decide) (Nat.le_of_ble_eq_true rfl) ?_
  intro p e s m args below meth c A Q ls Rv X he RET hC hl
  obtain ⟨hx, hb⟩ := FX_xb X
  have hl : lv_has ls 1 [(0, .ref (g.chip))] := hl
  have B55 : ∀ (H : Heap) (locs : List Loc) (ls : Array Slot) (st : CS) (s0 : Fin 35), HC g A s (wC g rt o st) H locs → lv_has ls 1 [] → f_C_secondStepByMode_55 st s0 = Rv → W p l e rm_C_secondStepByMode s m args below meth c H locs 0 0 Q (F0 m 55 ls [.ref (g.adS (s0).val)]) := by
    intro H locs ls st s0  hC hl he
    unfold f_C_secondStepByMode_55 at he
    exact RET (pc := 55) d_C_secondStepByMode_55 hC he
  have B52 : ∀ (H : Heap) (locs : List Loc) (ls : Array Slot) (st : CS) , HC g A s (wC g rt o st) H locs → lv_has ls 1 [] → f_C_secondStepByMode_52 st  = Rv → W p l e rm_C_secondStepByMode s m args below meth c H locs 0 0 Q (F0 m 52 ls []) := by
    intro H locs ls st   hC hl he
    unfold f_C_secondStepByMode_52 at he
    refine SC_stp_ZERO_BYTE (pc := 52) X hC d_C_secondStepByMode_52 ?_
    exact B55 _ _ _ st (2 : Fin 35)  hC (lv_sub hl [] rfl) he
  have B46 : ∀ (H : Heap) (locs : List Loc) (ls : Array Slot) (st : CS) , HC g A s (wC g rt o st) H locs → lv_has ls 1 [] → f_C_secondStepByMode_46 st  = Rv → W p l e rm_C_secondStepByMode s m args below meth c H locs 0 0 Q (F0 m 46 ls []) := by
    intro H locs ls st   hC hl he
    unfold f_C_secondStepByMode_46 at he
    refine SC_stp_FAR_LOW (pc := 46) X hC d_C_secondStepByMode_46 ?_
    refine lv_goto (pc := 49) (tgt := 55) hx hb d_C_secondStepByMode_49 (by decide) ?_
    exact B55 _ _ _ st (6 : Fin 35)  hC (lv_sub hl [] rfl) he
  unfold f_C_secondStepByMode at he
  refine lv_aload_n (pc := 0) hx hb d_C_secondStepByMode_0 rfl (lv_at hl 0 rfl) ?_
  refine GC_mode (pc := 1) X hC d_C_secondStepByMode_1 ?_
  by_cases h1 : (st.1 8) = 0
  · replace he := if_go he h1
    refine lv_tableIn (pc := 4) (tgt := 40) hx hb d_C_secondStepByMode_4 (by rw [h1]; decide) (by rw [h1]; decide) (by rw [h1]; rfl) (by decide) ?_
    refine SC_stp_IMMEDIATE (pc := 40) X hC d_C_secondStepByMode_40 ?_
    refine lv_goto (pc := 43) (tgt := 55) hx hb d_C_secondStepByMode_43 (by decide) ?_
    exact B55 _ _ _ st (1 : Fin 35)  hC (lv_sub hl [] rfl) he
  replace he := if_no he h1
  by_cases h2 : (st.1 8) = 1
  · replace he := if_go he h2
    refine lv_tableIn (pc := 4) (tgt := 52) hx hb d_C_secondStepByMode_4 (by rw [h2]; decide) (by rw [h2]; decide) (by rw [h2]; rfl) (by decide) ?_
    exact B52 _ _ _ st   hC (lv_sub hl [] rfl) he
  replace he := if_no he h2
  by_cases h3 : (st.1 8) = 2
  · replace he := if_go he h3
    refine lv_tableIn (pc := 4) (tgt := 52) hx hb d_C_secondStepByMode_4 (by rw [h3]; decide) (by rw [h3]; decide) (by rw [h3]; rfl) (by decide) ?_
    exact B52 _ _ _ st   hC (lv_sub hl [] rfl) he
  replace he := if_no he h3
  by_cases h4 : (st.1 8) = 3
  · replace he := if_go he h4
    refine lv_tableIn (pc := 4) (tgt := 46) hx hb d_C_secondStepByMode_4 (by rw [h4]; decide) (by rw [h4]; decide) (by rw [h4]; rfl) (by decide) ?_
    exact B46 _ _ _ st   hC (lv_sub hl [] rfl) he
  replace he := if_no he h4
  by_cases h5 : (st.1 8) = 4
  · replace he := if_go he h5
    refine lv_tableIn (pc := 4) (tgt := 46) hx hb d_C_secondStepByMode_4 (by rw [h5]; decide) (by rw [h5]; decide) (by rw [h5]; rfl) (by decide) ?_
    exact B46 _ _ _ st   hC (lv_sub hl [] rfl) he
  replace he := if_no he h5
  refine lv_tableOut (pc := 4) (tgt := 52) hx hb d_C_secondStepByMode_4 (by have nh1 := lv_neT (a := 0) h1 (by decide); have nh2 := lv_neT (a := 1) h2 (by decide); have nh3 := lv_neT (a := 2) h3 (by decide); have nh4 := lv_neT (a := 3) h4 (by decide); have nh5 := lv_neT (a := 4) h5 (by decide); omega) (by decide) ?_
  exact B52 _ _ _ st   hC (lv_sub hl [] rfl) he
def f_C_secondStep_90 (st : CS) (s0 : Fin 35) : Fin 35 × CS := (s0, st)
def f_C_secondStep_69 (st : CS)  : Fin 35 × CS := f_C_secondStep_90 st (6 : Fin 35)
def f_C_secondStep_56 (st : CS)  : Fin 35 × CS := bP (f_C_secondStepByMode st ) (fun r10 st9 => f_C_secondStep_90 st9 r10)
def f_C_secondStep (st : CS)  : Fin 35 × CS := if (swK (st.2.2.1)) = 1 then (f_C_secondStep_56 st ) else (if (swK (st.2.2.1)) = 2 then (f_C_secondStep_56 st ) else (if (swK (st.2.2.1)) = 3 then (f_C_secondStep_56 st ) else (if (swK (st.2.2.1)) = 4 then (f_C_secondStep_90 st (14 : Fin 35)) else (if (swK (st.2.2.1)) = 5 then (f_C_secondStep_69 st ) else (if (swK (st.2.2.1)) = 6 then (f_C_secondStep_69 st ) else (if (swK (st.2.2.1)) = 7 then (f_C_secondStep_90 st (17 : Fin 35)) else (if (swK (st.2.2.1)) = 8 then (f_C_secondStep_90 st (34 : Fin 35)) else (f_C_secondStep_90 st (18 : Fin 35)))))))))
abbrev rm_C_secondStep : Room := { frames := 1, cells := 0, slots := 0, locals := 20 }
set_option maxHeartbeats 4000000 in
set_option maxRecDepth 100000 in
theorem k_C_secondStep (l : Launch) (g : CG) (rt : MS) (o : Nat → Int64) (st : CS)  : KE g.adS 35 l g y_C_secondStep (Cond.code y_C_secondStep c_C_secondStep 1 (some (.object "ClockedChip$Step")) :: ALL) rm_C_secondStep [.ref (g.chip)] (wC g rt o) st (f_C_secondStep st ) := by
  refine KE.ofW (by decide) (Nat.le_of_ble_eq_true rfl) ?_
  intro p e s m args below meth c A Q ls Rv X he RET hC hl
  obtain ⟨hx, hb⟩ := FX_xb X
  have hl : lv_has ls 1 [(0, .ref (g.chip))] := hl
  have B90 : ∀ (H : Heap) (locs : List Loc) (ls : Array Slot) (st : CS) (s0 : Fin 35), HC g A s (wC g rt o st) H locs → lv_has ls 1 [] → f_C_secondStep_90 st s0 = Rv → W p l e rm_C_secondStep s m args below meth c H locs 0 0 Q (F0 m 90 ls [.ref (g.adS (s0).val)]) := by
    intro H locs ls st s0  hC hl he
    unfold f_C_secondStep_90 at he
    exact RET (pc := 90) d_C_secondStep_90 hC he
  have B69 : ∀ (H : Heap) (locs : List Loc) (ls : Array Slot) (st : CS) , HC g A s (wC g rt o st) H locs → lv_has ls 1 [] → f_C_secondStep_69 st  = Rv → W p l e rm_C_secondStep s m args below meth c H locs 0 0 Q (F0 m 69 ls []) := by
    intro H locs ls st   hC hl he
    unfold f_C_secondStep_69 at he
    refine SC_stp_FAR_LOW (pc := 69) X hC d_C_secondStep_69 ?_
    refine lv_goto (pc := 72) (tgt := 90) hx hb d_C_secondStep_72 (by decide) ?_
    exact B90 _ _ _ st (6 : Fin 35)  hC (lv_sub hl [] rfl) he
  have B56 : ∀ (H : Heap) (locs : List Loc) (ls : Array Slot) (st : CS) , HC g A s (wC g rt o st) H locs → lv_has ls 1 [(0, .ref (g.chip))] → f_C_secondStep_56 st  = Rv → W p l e rm_C_secondStep s m args below meth c H locs 0 0 Q (F0 m 56 ls []) := by
    intro H locs ls st   hC hl he
    unfold f_C_secondStep_56 at he
    refine lv_aload_n (pc := 56) hx hb d_C_secondStep_56 rfl (lv_at hl 0 rfl) ?_
    refine callEO (q0 := 0) (pc := 57) (As := []) (rest := []) X (k_C_secondStepByMode l g rt o st ) hC (NC_C_secondStepByMode_324 X rfl rfl ⟨by decide, by decide⟩) rfl rfl rfl hl.1 (Nat.le_of_ble_eq_true rfl) rfl d_C_secondStep_57 ⟨Nat.zero_le _, Nat.zero_le _⟩ (fun r10 st9 H locs est9 hC => ?_)
    replace he := bP_go he est9
    refine lv_goto (pc := 60) (tgt := 90) hx hb d_C_secondStep_60 (by decide) ?_
    exact B90 _ _ _ st9 r10  hC (lv_sub hl [] rfl) he
  unfold f_C_secondStep at he
  refine SC_mapK (pc := 0) X hC d_C_secondStep_0 ?_
  refine lv_aload_n (pc := 3) hx hb d_C_secondStep_3 rfl (lv_at hl 0 rfl) ?_
  refine GC_kind (pc := 4) X hC d_C_secondStep_4 ?_
  refine OC_knd (pc := 7) (k := st.2.2.1) (rest := [.ref (g.mapK)]) X hC hl.1 (Nat.le_of_ble_eq_true rfl) ⟨by decide, by decide⟩ ⟨Nat.zero_le _, Nat.zero_le _⟩ d_C_secondStep_7 ?_
  refine AmapK (pc := 10) (k := st.2.2.1) X hC d_C_secondStep_10 ?_
  by_cases h1 : (swK (st.2.2.1)) = 1
  · replace he := if_go he h1
    refine lv_tableIn (pc := 11) (tgt := 56) hx hb d_C_secondStep_11 (by rw [h1]; decide) (by rw [h1]; decide) (by rw [h1]; rfl) (by decide) ?_
    exact B56 _ _ _ st   hC (lv_sub hl [0] rfl) he
  replace he := if_no he h1
  by_cases h2 : (swK (st.2.2.1)) = 2
  · replace he := if_go he h2
    refine lv_tableIn (pc := 11) (tgt := 56) hx hb d_C_secondStep_11 (by rw [h2]; decide) (by rw [h2]; decide) (by rw [h2]; rfl) (by decide) ?_
    exact B56 _ _ _ st   hC (lv_sub hl [0] rfl) he
  replace he := if_no he h2
  by_cases h3 : (swK (st.2.2.1)) = 3
  · replace he := if_go he h3
    refine lv_tableIn (pc := 11) (tgt := 56) hx hb d_C_secondStep_11 (by rw [h3]; decide) (by rw [h3]; decide) (by rw [h3]; rfl) (by decide) ?_
    exact B56 _ _ _ st   hC (lv_sub hl [0] rfl) he
  replace he := if_no he h3
  by_cases h4 : (swK (st.2.2.1)) = 4
  · replace he := if_go he h4
    refine lv_tableIn (pc := 11) (tgt := 63) hx hb d_C_secondStep_11 (by rw [h4]; decide) (by rw [h4]; decide) (by rw [h4]; rfl) (by decide) ?_
    refine SC_stp_BRANCH_DISTANCE (pc := 63) X hC d_C_secondStep_63 ?_
    refine lv_goto (pc := 66) (tgt := 90) hx hb d_C_secondStep_66 (by decide) ?_
    exact B90 _ _ _ st (14 : Fin 35)  hC (lv_sub hl [] rfl) he
  replace he := if_no he h4
  by_cases h5 : (swK (st.2.2.1)) = 5
  · replace he := if_go he h5
    refine lv_tableIn (pc := 11) (tgt := 69) hx hb d_C_secondStep_11 (by rw [h5]; decide) (by rw [h5]; decide) (by rw [h5]; rfl) (by decide) ?_
    exact B69 _ _ _ st   hC (lv_sub hl [] rfl) he
  replace he := if_no he h5
  by_cases h6 : (swK (st.2.2.1)) = 6
  · replace he := if_go he h6
    refine lv_tableIn (pc := 11) (tgt := 69) hx hb d_C_secondStep_11 (by rw [h6]; decide) (by rw [h6]; decide) (by rw [h6]; rfl) (by decide) ?_
    exact B69 _ _ _ st   hC (lv_sub hl [] rfl) he
  replace he := if_no he h6
  by_cases h7 : (swK (st.2.2.1)) = 7
  · replace he := if_go he h7
    refine lv_tableIn (pc := 11) (tgt := 75) hx hb d_C_secondStep_11 (by rw [h7]; decide) (by rw [h7]; decide) (by rw [h7]; rfl) (by decide) ?_
    refine SC_stp_BREAK_NEXT (pc := 75) X hC d_C_secondStep_75 ?_
    refine lv_goto (pc := 78) (tgt := 90) hx hb d_C_secondStep_78 (by decide) ?_
    exact B90 _ _ _ st (17 : Fin 35)  hC (lv_sub hl [] rfl) he
  replace he := if_no he h7
  by_cases h8 : (swK (st.2.2.1)) = 8
  · replace he := if_go he h8
    refine lv_tableIn (pc := 11) (tgt := 81) hx hb d_C_secondStep_11 (by rw [h8]; decide) (by rw [h8]; decide) (by rw [h8]; rfl) (by decide) ?_
    refine SC_stp_JAMMED (pc := 81) X hC d_C_secondStep_81 ?_
    refine lv_goto (pc := 84) (tgt := 90) hx hb d_C_secondStep_84 (by decide) ?_
    exact B90 _ _ _ st (34 : Fin 35)  hC (lv_sub hl [] rfl) he
  replace he := if_no he h8
  refine lv_tableOut (pc := 11) (tgt := 87) hx hb d_C_secondStep_11 (by have nh1 := lv_neT (a := 1) h1 (by decide); have nh2 := lv_neT (a := 2) h2 (by decide); have nh3 := lv_neT (a := 3) h3 (by decide); have nh4 := lv_neT (a := 4) h4 (by decide); have nh5 := lv_neT (a := 5) h5 (by decide); have nh6 := lv_neT (a := 6) h6 (by decide); have nh7 := lv_neT (a := 7) h7 (by decide); have nh8 := lv_neT (a := 8) h8 (by decide); omega) (by decide) ?_
  refine SC_stp_PC_IDLE (pc := 87) X hC d_C_secondStep_87 ?_
  exact B90 _ _ _ st (18 : Fin 35)  hC (lv_sub hl [] rfl) he
end
section
/-! contracts of methods (printed by my own program: pure pictures and walks) -/
def f_C_afterFetch_43 (st : CS) (s0 : Fin 16) : CS := bS (sK st s0) (fun st9 => bP (f_C_secondStep st9 ) (fun r11 st10 => bS (sS st10 r11) (fun st12 => st12)))
def f_C_afterFetch (st : CS) (v1 : Int32) : CS := bS (f_R_nextPc st ) (fun st1 => bS (sV st1 7 (v1 >>> (3 &&& 31))) (fun st2 => bS (sV st2 8 (v1 &&& 7)) (fun st3 => if (st3.1 8) = 7 then (bP (f_C_kindWithoutOperand st3 ) (fun r8 st7 => f_C_afterFetch_43 st7 r8)) else (bP (f_C_kindWithOperand st3 ) (fun r6 st5 => f_C_afterFetch_43 st5 r6)))))
abbrev rm_C_afterFetch : Room := { frames := 2, cells := 0, slots := 0, locals := 40 }
set_option maxHeartbeats 4000000 in
set_option maxRecDepth 100000 in
theorem k_C_afterFetch (l : Launch) (g : CG) (rt : MS) (o : Nat → Int64) (st : CS) (v1 : Int32) : KV l g y_C_afterFetch (Cond.code y_C_afterFetch c_C_afterFetch 2 none :: ALL) rm_C_afterFetch [.ref (g.chip), .int v1] (wC g rt o) st (f_C_afterFetch st v1) := by
  refine KV.ofW (by decide) (Nat.le_of_ble_eq_true rfl) ?_
  intro p e s m args below meth c A Q ls Rv X he RET hC hl
  obtain ⟨hx, hb⟩ := FX_xb X
  have hl : lv_has ls 2 [(0, .ref (g.chip)), (1, .int v1)] := hl
  have B43 : ∀ (H : Heap) (locs : List Loc) (ls : Array Slot) (st : CS) (s0 : Fin 16), HC g A s (wC g rt o st) H locs → lv_has ls 2 [(0, .ref (g.chip))] → f_C_afterFetch_43 st s0 = Rv → W p l e rm_C_afterFetch s m args below meth c H locs 0 0 Q (F0 m 43 ls [.ref (g.adK (s0).val), .ref (g.chip)]) := by
    intro H locs ls st s0  hC hl he
    unfold f_C_afterFetch_43 at he
    refine PC_kind (pc := 43) X hC d_C_afterFetch_43 (fun st9 H locs est9 hC => ?_)
    replace he := bS_go he est9
    refine lv_aload_n (pc := 46) hx hb d_C_afterFetch_46 rfl (lv_at hl 0 rfl) ?_
    refine lv_aload_n (pc := 47) hx hb d_C_afterFetch_47 rfl (lv_at hl 0 rfl) ?_
    refine callEO (q0 := 0) (pc := 48) (As := []) (rest := [.ref (g.chip)]) X (k_C_secondStep l g rt o st9 ) hC (NC_C_secondStep_284 X rfl rfl ⟨by decide, by decide⟩) rfl rfl rfl hl.1 (Nat.le_of_ble_eq_true rfl) rfl d_C_afterFetch_48 ⟨Nat.zero_le _, Nat.zero_le _⟩ (fun r11 st10 H locs est10 hC => ?_)
    replace he := bP_go he est10
    refine PC_step (pc := 51) X hC d_C_afterFetch_51 (fun st12 H locs est12 hC => ?_)
    replace he := bS_go he est12
    exact RET (pc := 54) d_C_afterFetch_54 hC he
  unfold f_C_afterFetch at he
  refine lv_aload_n (pc := 0) hx hb d_C_afterFetch_0 rfl (lv_at hl 0 rfl) ?_
  refine GC_registers (pc := 1) X hC d_C_afterFetch_1 ?_
  refine callVN (q0 := 3) (pc := 4) (As := []) (rest := []) X (k_R_nextPc l g rt o st ) hC (NC_R_nextPc_185 X rfl rfl ⟨by decide, by decide⟩) rfl rfl rfl hl.1 (Nat.le_of_ble_eq_true rfl) rfl d_C_afterFetch_4 ⟨Nat.zero_le _, Nat.zero_le _⟩ (fun st1 H locs est1 hC => ?_)
  replace he := bS_go he est1
  refine lv_aload_n (pc := 7) hx hb d_C_afterFetch_7 rfl (lv_at hl 0 rfl) ?_
  refine lv_iload_n (pc := 8) hx hb d_C_afterFetch_8 rfl (lv_at hl 1 rfl) ?_
  refine lv_iconst (pc := 9) (v := 3) hx hb d_C_afterFetch_9 (by decide) ?_
  refine lv_ishr (pc := 10) hx hb d_C_afterFetch_10 ?_
  refine PC_operation (pc := 11) X hC d_C_afterFetch_11 (fun st2 H locs est2 hC => ?_)
  replace he := bS_go he est2
  refine lv_aload_n (pc := 14) hx hb d_C_afterFetch_14 rfl (lv_at hl 0 rfl) ?_
  refine lv_iload_n (pc := 15) hx hb d_C_afterFetch_15 rfl (lv_at hl 1 rfl) ?_
  refine lv_bipush (pc := 16) (v := 7) hx hb d_C_afterFetch_16 (by decide) ?_
  refine lv_iand (pc := 18) hx hb d_C_afterFetch_18 ?_
  refine PC_mode (pc := 19) X hC d_C_afterFetch_19 (fun st3 H locs est3 hC => ?_)
  replace he := bS_go he est3
  refine lv_aload_n (pc := 22) hx hb d_C_afterFetch_22 rfl (lv_at hl 0 rfl) ?_
  refine lv_aload_n (pc := 23) hx hb d_C_afterFetch_23 rfl (lv_at hl 0 rfl) ?_
  refine GC_mode (pc := 24) X hC d_C_afterFetch_24 ?_
  refine lv_bipush (pc := 27) (v := 7) hx hb d_C_afterFetch_27 (by decide) ?_
  refine lv_icmp_ne (pc := 29) (tgt := 39) hx hb d_C_afterFetch_29 (by decide) (fun h4 => ?_) (fun h4 => ?_)
  · replace he := if_no he h4
    refine lv_aload_n (pc := 39) hx hb d_C_afterFetch_39 rfl (lv_at hl 0 rfl) ?_
    refine callEO (q0 := 0) (pc := 40) (As := []) (rest := [.ref (g.chip)]) X (k_C_kindWithOperand l g rt o st3 ) hC (NC_C_kindWithOperand_281 X rfl rfl ⟨by decide, by decide⟩) rfl rfl rfl hl.1 (Nat.le_of_ble_eq_true rfl) rfl d_C_afterFetch_40 ⟨Nat.zero_le _, Nat.zero_le _⟩ (fun r6 st5 H locs est5 hC => ?_)
    replace he := bP_go he est5
    exact B43 _ _ _ st5 r6  hC (lv_sub hl [0] rfl) he
  replace he := if_go he h4
  refine lv_aload_n (pc := 32) hx hb d_C_afterFetch_32 rfl (lv_at hl 0 rfl) ?_
  refine callEO (q0 := 0) (pc := 33) (As := []) (rest := [.ref (g.chip)]) X (k_C_kindWithoutOperand l g rt o st3 ) hC (NC_C_kindWithoutOperand_277 X rfl rfl ⟨by decide, by decide⟩) rfl rfl rfl hl.1 (Nat.le_of_ble_eq_true rfl) rfl d_C_afterFetch_33 ⟨Nat.zero_le _, Nat.zero_le _⟩ (fun r8 st7 H locs est7 hC => ?_)
  replace he := bP_go he est7
  refine lv_goto (pc := 36) (tgt := 43) hx hb d_C_afterFetch_36 (by decide) ?_
  exact B43 _ _ _ st7 r8  hC (lv_sub hl [0] rfl) he
def f_C_accessOperandAt_59 (st : CS) (s0 : Fin 35) : CS := bS (sS st s0) (fun st4 => st4)
def f_C_accessOperandAt (st : CS) (v1 : Int32) : CS := bS (sV st 11 v1) (fun st1 => if (swK (st1.2.2.1)) = 2 then (f_C_accessOperandAt_59 st1 (10 : Fin 35)) else (if (swK (st1.2.2.1)) = 3 then (f_C_accessOperandAt_59 st1 (11 : Fin 35)) else (f_C_accessOperandAt_59 st1 (9 : Fin 35))))
abbrev rm_C_accessOperandAt : Room := { frames := 1, cells := 0, slots := 0, locals := 20 }
set_option maxHeartbeats 4000000 in
set_option maxRecDepth 100000 in
theorem k_C_accessOperandAt (l : Launch) (g : CG) (rt : MS) (o : Nat → Int64) (st : CS) (v1 : Int32) : KV l g y_C_accessOperandAt (Cond.code y_C_accessOperandAt c_C_accessOperandAt 2 none :: ALL) rm_C_accessOperandAt [.ref (g.chip), .int v1] (wC g rt o) st (f_C_accessOperandAt st v1) := by
  refine KV.ofW (by decide) (Nat.le_of_ble_eq_true rfl) ?_
  intro p e s m args below meth c A Q ls Rv X he RET hC hl
  obtain ⟨hx, hb⟩ := FX_xb X
  have hl : lv_has ls 2 [(0, .ref (g.chip)), (1, .int v1)] := hl
  have B59 : ∀ (H : Heap) (locs : List Loc) (ls : Array Slot) (st : CS) (s0 : Fin 35), HC g A s (wC g rt o st) H locs → lv_has ls 2 [] → f_C_accessOperandAt_59 st s0 = Rv → W p l e rm_C_accessOperandAt s m args below meth c H locs 0 0 Q (F0 m 59 ls [.ref (g.adS (s0).val), .ref (g.chip)]) := by
    intro H locs ls st s0  hC hl he
    unfold f_C_accessOperandAt_59 at he
    refine PC_step (pc := 59) X hC d_C_accessOperandAt_59 (fun st4 H locs est4 hC => ?_)
    replace he := bS_go he est4
    exact RET (pc := 62) d_C_accessOperandAt_62 hC he
  unfold f_C_accessOperandAt at he
  refine lv_aload_n (pc := 0) hx hb d_C_accessOperandAt_0 rfl (lv_at hl 0 rfl) ?_
  refine lv_iload_n (pc := 1) hx hb d_C_accessOperandAt_1 rfl (lv_at hl 1 rfl) ?_
  refine PC_aim (pc := 2) X hC d_C_accessOperandAt_2 (fun st1 H locs est1 hC => ?_)
  replace he := bS_go he est1
  refine lv_aload_n (pc := 5) hx hb d_C_accessOperandAt_5 rfl (lv_at hl 0 rfl) ?_
  refine SC_mapK (pc := 6) X hC d_C_accessOperandAt_6 ?_
  refine lv_aload_n (pc := 9) hx hb d_C_accessOperandAt_9 rfl (lv_at hl 0 rfl) ?_
  refine GC_kind (pc := 10) X hC d_C_accessOperandAt_10 ?_
  refine OC_knd (pc := 13) (k := st1.2.2.1) (rest := [.ref (g.mapK), .ref (g.chip)]) X hC hl.1 (Nat.le_of_ble_eq_true rfl) ⟨by decide, by decide⟩ ⟨Nat.zero_le _, Nat.zero_le _⟩ d_C_accessOperandAt_13 ?_
  refine AmapK (pc := 16) (k := st1.2.2.1) X hC d_C_accessOperandAt_16 ?_
  by_cases h2 : (swK (st1.2.2.1)) = 2
  · replace he := if_go he h2
    refine lv_lookup (pc := 17) (tgt := 44) (off := 27) hx hb d_C_accessOperandAt_17 (by decide) (by rw [h2]; try rfl) (by decide) ?_
    refine SC_stp_STORE (pc := 44) X hC d_C_accessOperandAt_44 ?_
    refine lv_goto (pc := 47) (tgt := 59) hx hb d_C_accessOperandAt_47 (by decide) ?_
    exact B59 _ _ _ st1 (10 : Fin 35)  hC (lv_sub hl [] rfl) he
  replace he := if_no he h2
  by_cases h3 : (swK (st1.2.2.1)) = 3
  · replace he := if_go he h3
    refine lv_lookup (pc := 17) (tgt := 50) (off := 33) hx hb d_C_accessOperandAt_17 (by decide) (by rw [h3]; try rfl) (by decide) ?_
    refine SC_stp_CHANGE_READ (pc := 50) X hC d_C_accessOperandAt_50 ?_
    refine lv_goto (pc := 53) (tgt := 59) hx hb d_C_accessOperandAt_53 (by decide) ?_
    exact B59 _ _ _ st1 (11 : Fin 35)  hC (lv_sub hl [] rfl) he
  replace he := if_no he h3
  refine lv_lookup (pc := 17) (tgt := 56) (off := 39) hx hb d_C_accessOperandAt_17 (by decide) (by show Op.lookupswitch.offset [(2, 27), (3, 33)] _ _ = _; rw [lv_osw h2 (by decide), lv_osw h3 (by decide)]; try rfl) (by decide) ?_
  refine SC_stp_OPERAND (pc := 56) X hC d_C_accessOperandAt_56 ?_
  exact B59 _ _ _ st1 (9 : Fin 35)  hC (lv_sub hl [] rfl) he
def f_C_afterZeroByte_57 (st : CS)  : CS := st
def f_C_afterZeroByte_54 (st : CS) (s0 : Fin 35) : CS := bS (sS st s0) (fun st7 => f_C_afterZeroByte_57 st7 )
def f_C_afterZeroByte_45 (st : CS)  : CS := f_C_afterZeroByte_54 st (3 : Fin 35)
def f_C_afterZeroByte (st : CS) (v1 : Int32) : CS := bS (f_R_nextPc st ) (fun st1 => if (st1.1 8) = 1 then (bS (f_C_accessOperandAt st1 v1) (fun st6 => f_C_afterZeroByte_57 st6 )) else (bS (sV st1 11 v1) (fun st3 => if (st3.1 8) = 2 then (f_C_afterZeroByte_45 st3 ) else (if (st3.1 8) = 5 then (f_C_afterZeroByte_45 st3 ) else (f_C_afterZeroByte_54 st3 (4 : Fin 35))))))
abbrev rm_C_afterZeroByte : Room := { frames := 2, cells := 0, slots := 0, locals := 41 }
set_option maxHeartbeats 4000000 in
set_option maxRecDepth 100000 in
theorem k_C_afterZeroByte (l : Launch) (g : CG) (rt : MS) (o : Nat → Int64) (st : CS) (v1 : Int32) : KV l g y_C_afterZeroByte (Cond.code y_C_afterZeroByte c_C_afterZeroByte 2 none :: ALL) rm_C_afterZeroByte [.ref (g.chip), .int v1] (wC g rt o) st (f_C_afterZeroByte st v1) := by
  refine KV.ofW (by decide) (Nat.le_of_ble_eq_true rfl) ?_
  intro p e s m args below meth c A Q ls Rv X he RET hC hl
  obtain ⟨hx, hb⟩ := FX_xb X
  have hl : lv_has ls 2 [(0, .ref (g.chip)), (1, .int v1)] := hl
  have B57 : ∀ (H : Heap) (locs : List Loc) (ls : Array Slot) (st : CS) , HC g A s (wC g rt o st) H locs → lv_has ls 2 [] → f_C_afterZeroByte_57 st  = Rv → W p l e rm_C_afterZeroByte s m args below meth c H locs 0 0 Q (F0 m 57 ls []) := by
    intro H locs ls st   hC hl he
    unfold f_C_afterZeroByte_57 at he
    exact RET (pc := 57) d_C_afterZeroByte_57 hC he
  have B54 : ∀ (H : Heap) (locs : List Loc) (ls : Array Slot) (st : CS) (s0 : Fin 35), HC g A s (wC g rt o st) H locs → lv_has ls 2 [] → f_C_afterZeroByte_54 st s0 = Rv → W p l e rm_C_afterZeroByte s m args below meth c H locs 0 0 Q (F0 m 54 ls [.ref (g.adS (s0).val), .ref (g.chip)]) := by
    intro H locs ls st s0  hC hl he
    unfold f_C_afterZeroByte_54 at he
    refine PC_step (pc := 54) X hC d_C_afterZeroByte_54 (fun st7 H locs est7 hC => ?_)
    replace he := bS_go he est7
    exact B57 _ _ _ st7   hC (lv_sub hl [] rfl) he
  have B45 : ∀ (H : Heap) (locs : List Loc) (ls : Array Slot) (st : CS) , HC g A s (wC g rt o st) H locs → lv_has ls 2 [] → f_C_afterZeroByte_45 st  = Rv → W p l e rm_C_afterZeroByte s m args below meth c H locs 0 0 Q (F0 m 45 ls [.ref (g.chip)]) := by
    intro H locs ls st   hC hl he
    unfold f_C_afterZeroByte_45 at he
    refine SC_stp_ZERO_IDLE (pc := 45) X hC d_C_afterZeroByte_45 ?_
    refine lv_goto (pc := 48) (tgt := 54) hx hb d_C_afterZeroByte_48 (by decide) ?_
    exact B54 _ _ _ st (3 : Fin 35)  hC (lv_sub hl [] rfl) he
  unfold f_C_afterZeroByte at he
  refine lv_aload_n (pc := 0) hx hb d_C_afterZeroByte_0 rfl (lv_at hl 0 rfl) ?_
  refine GC_registers (pc := 1) X hC d_C_afterZeroByte_1 ?_
  refine callVN (q0 := 3) (pc := 4) (As := []) (rest := []) X (k_R_nextPc l g rt o st ) hC (NC_R_nextPc_185 X rfl rfl ⟨by decide, by decide⟩) rfl rfl rfl hl.1 (Nat.le_of_ble_eq_true rfl) rfl d_C_afterZeroByte_4 ⟨Nat.zero_le _, Nat.zero_le _⟩ (fun st1 H locs est1 hC => ?_)
  replace he := bS_go he est1
  refine lv_aload_n (pc := 7) hx hb d_C_afterZeroByte_7 rfl (lv_at hl 0 rfl) ?_
  refine GC_mode (pc := 8) X hC d_C_afterZeroByte_8 ?_
  refine lv_iconst (pc := 11) (v := 1) hx hb d_C_afterZeroByte_11 (by decide) ?_
  refine lv_icmp_ne (pc := 12) (tgt := 23) hx hb d_C_afterZeroByte_12 (by decide) (fun h2 => ?_) (fun h2 => ?_)
  · replace he := if_no he h2
    refine lv_aload_n (pc := 23) hx hb d_C_afterZeroByte_23 rfl (lv_at hl 0 rfl) ?_
    refine lv_iload_n (pc := 24) hx hb d_C_afterZeroByte_24 rfl (lv_at hl 1 rfl) ?_
    refine PC_aim (pc := 25) X hC d_C_afterZeroByte_25 (fun st3 H locs est3 hC => ?_)
    replace he := bS_go he est3
    refine lv_aload_n (pc := 28) hx hb d_C_afterZeroByte_28 rfl (lv_at hl 0 rfl) ?_
    refine lv_aload_n (pc := 29) hx hb d_C_afterZeroByte_29 rfl (lv_at hl 0 rfl) ?_
    refine GC_mode (pc := 30) X hC d_C_afterZeroByte_30 ?_
    refine lv_iconst (pc := 33) (v := 2) hx hb d_C_afterZeroByte_33 (by decide) ?_
    refine lv_icmp_eq (pc := 34) (tgt := 45) hx hb d_C_afterZeroByte_34 (by decide) (fun h4 => ?_) (fun h4 => ?_)
    · replace he := if_go he h4
      exact B45 _ _ _ st3   hC (lv_sub hl [] rfl) he
    replace he := if_no he h4
    refine lv_aload_n (pc := 37) hx hb d_C_afterZeroByte_37 rfl (lv_at hl 0 rfl) ?_
    refine GC_mode (pc := 38) X hC d_C_afterZeroByte_38 ?_
    refine lv_iconst (pc := 41) (v := 5) hx hb d_C_afterZeroByte_41 (by decide) ?_
    refine lv_icmp_ne (pc := 42) (tgt := 51) hx hb d_C_afterZeroByte_42 (by decide) (fun h5 => ?_) (fun h5 => ?_)
    · replace he := if_no he h5
      refine SC_stp_POINTER_LOW (pc := 51) X hC d_C_afterZeroByte_51 ?_
      exact B54 _ _ _ st3 (4 : Fin 35)  hC (lv_sub hl [] rfl) he
    replace he := if_go he h5
    exact B45 _ _ _ st3   hC (lv_sub hl [] rfl) he
  replace he := if_go he h2
  refine lv_aload_n (pc := 15) hx hb d_C_afterZeroByte_15 rfl (lv_at hl 0 rfl) ?_
  refine lv_iload_n (pc := 16) hx hb d_C_afterZeroByte_16 rfl (lv_at hl 1 rfl) ?_
  refine callVO (q0 := 0) (pc := 17) (As := [.int v1]) (rest := []) X (k_C_accessOperandAt l g rt o st1 v1) hC (NC_C_accessOperandAt_212 X rfl rfl ⟨by decide, by decide⟩) rfl rfl rfl hl.1 (Nat.le_of_ble_eq_true rfl) rfl d_C_afterZeroByte_17 ⟨Nat.zero_le _, Nat.zero_le _⟩ (fun st6 H locs est6 hC => ?_)
  replace he := bS_go he est6
  refine lv_goto (pc := 20) (tgt := 57) hx hb d_C_afterZeroByte_20 (by decide) ?_
  exact B57 _ _ _ st6   hC (lv_sub hl [] rfl) he
def f_C_afterZeroIdle_45 (st : CS)  : CS := st
def f_C_afterZeroIdle (st : CS)  : CS := bS ((((st.1 11) + (st.1 1)) &&& 255) : Int32) (fun y1 => if (st.1 8) = 2 then (bS (f_C_accessOperandAt st y1) (fun st5 => f_C_afterZeroIdle_45 st5 )) else (bS (sV st 11 y1) (fun st3 => bS (sS st3 (4 : Fin 35)) (fun st4 => f_C_afterZeroIdle_45 st4 ))))
abbrev rm_C_afterZeroIdle : Room := { frames := 2, cells := 0, slots := 0, locals := 41 }
set_option maxHeartbeats 4000000 in
set_option maxRecDepth 100000 in
theorem k_C_afterZeroIdle (l : Launch) (g : CG) (rt : MS) (o : Nat → Int64) (st : CS)  : KV l g y_C_afterZeroIdle (Cond.code y_C_afterZeroIdle c_C_afterZeroIdle 2 none :: ALL) rm_C_afterZeroIdle [.ref (g.chip)] (wC g rt o) st (f_C_afterZeroIdle st ) := by
  refine KV.ofW (by decide) (Nat.le_of_ble_eq_true rfl) ?_
  intro p e s m args below meth c A Q ls Rv X he RET hC hl
  obtain ⟨hx, hb⟩ := FX_xb X
  have hl : lv_has ls 2 [(0, .ref (g.chip))] := hl
  have B45 : ∀ (H : Heap) (locs : List Loc) (ls : Array Slot) (st : CS) , HC g A s (wC g rt o st) H locs → lv_has ls 2 [] → f_C_afterZeroIdle_45 st  = Rv → W p l e rm_C_afterZeroIdle s m args below meth c H locs 0 0 Q (F0 m 45 ls []) := by
    intro H locs ls st   hC hl he
    unfold f_C_afterZeroIdle_45 at he
    exact RET (pc := 45) d_C_afterZeroIdle_45 hC he
  unfold f_C_afterZeroIdle at he
  refine lv_aload_n (pc := 0) hx hb d_C_afterZeroIdle_0 rfl (lv_at hl 0 rfl) ?_
  refine GC_aim (pc := 1) X hC d_C_afterZeroIdle_1 ?_
  refine lv_aload_n (pc := 4) hx hb d_C_afterZeroIdle_4 rfl (lv_at hl 0 rfl) ?_
  refine GC_registers (pc := 5) X hC d_C_afterZeroIdle_5 ?_
  refine GCR_x (pc := 8) X hC d_C_afterZeroIdle_8 ?_
  refine lv_iadd (pc := 11) hx hb d_C_afterZeroIdle_11 ?_
  refine lv_sipush (pc := 12) (v := 255) hx hb d_C_afterZeroIdle_12 (by decide) ?_
  refine lv_iand (pc := 15) hx hb d_C_afterZeroIdle_15 ?_
  refine lv_topi (fun y1 ey1 => ?_)
  replace he := bS_go he ey1.symm
  refine lv_istore_n (pc := 16) (nL := 2) (lv' := [(1, .int y1), (0, .ref (g.chip))]) hx hb d_C_afterZeroIdle_16 rfl hl (by decide) rfl (fun ls hl => ?_)
  refine lv_aload_n (pc := 17) hx hb d_C_afterZeroIdle_17 rfl (lv_at hl 1 rfl) ?_
  refine GC_mode (pc := 18) X hC d_C_afterZeroIdle_18 ?_
  refine lv_iconst (pc := 21) (v := 2) hx hb d_C_afterZeroIdle_21 (by decide) ?_
  refine lv_icmp_ne (pc := 22) (tgt := 33) hx hb d_C_afterZeroIdle_22 (by decide) (fun h2 => ?_) (fun h2 => ?_)
  · replace he := if_no he h2
    refine lv_aload_n (pc := 33) hx hb d_C_afterZeroIdle_33 rfl (lv_at hl 1 rfl) ?_
    refine lv_iload_n (pc := 34) hx hb d_C_afterZeroIdle_34 rfl (lv_at hl 0 rfl) ?_
    refine PC_aim (pc := 35) X hC d_C_afterZeroIdle_35 (fun st3 H locs est3 hC => ?_)
    replace he := bS_go he est3
    refine lv_aload_n (pc := 38) hx hb d_C_afterZeroIdle_38 rfl (lv_at hl 1 rfl) ?_
    refine SC_stp_POINTER_LOW (pc := 39) X hC d_C_afterZeroIdle_39 ?_
    refine PC_step (pc := 42) X hC d_C_afterZeroIdle_42 (fun st4 H locs est4 hC => ?_)
    replace he := bS_go he est4
    exact B45 _ _ _ st4   hC (lv_sub hl [] rfl) he
  replace he := if_go he h2
  refine lv_aload_n (pc := 25) hx hb d_C_afterZeroIdle_25 rfl (lv_at hl 1 rfl) ?_
  refine lv_iload_n (pc := 26) hx hb d_C_afterZeroIdle_26 rfl (lv_at hl 0 rfl) ?_
  refine callVO (q0 := 0) (pc := 27) (As := [.int y1]) (rest := []) X (k_C_accessOperandAt l g rt o st y1) hC (NC_C_accessOperandAt_212 X rfl rfl ⟨by decide, by decide⟩) rfl rfl rfl hl.1 (Nat.le_of_ble_eq_true rfl) rfl d_C_afterZeroIdle_27 ⟨Nat.zero_le _, Nat.zero_le _⟩ (fun st5 H locs est5 hC => ?_)
  replace he := bS_go he est5
  refine lv_goto (pc := 30) (tgt := 45) hx hb d_C_afterZeroIdle_30 (by decide) ?_
  exact B45 _ _ _ st5   hC (lv_sub hl [] rfl) he
def f_C_afterPointerLow (st : CS) (v1 : Int32) : CS := bS (sV st 13 v1) (fun st1 => bS (sV st1 11 (((st1.1 11) + 1) &&& 255)) (fun st2 => bS (sS st2 (5 : Fin 35)) (fun st3 => st3)))
abbrev rm_C_afterPointerLow : Room := { frames := 0, cells := 0, slots := 0, locals := 0 }
set_option maxHeartbeats 4000000 in
set_option maxRecDepth 100000 in
theorem k_C_afterPointerLow (l : Launch) (g : CG) (rt : MS) (o : Nat → Int64) (st : CS) (v1 : Int32) : KV l g y_C_afterPointerLow (Cond.code y_C_afterPointerLow c_C_afterPointerLow 2 none :: ALL) rm_C_afterPointerLow [.ref (g.chip), .int v1] (wC g rt o) st (f_C_afterPointerLow st v1) := by
  refine KV.ofW (by decide) (Nat.le_of_ble_eq_true rfl) ?_
  intro p e s m args below meth c A Q ls Rv X he RET hC hl
  obtain ⟨hx, hb⟩ := FX_xb X
  have hl : lv_has ls 2 [(0, .ref (g.chip)), (1, .int v1)] := hl
  unfold f_C_afterPointerLow at he
  refine lv_aload_n (pc := 0) hx hb d_C_afterPointerLow_0 rfl (lv_at hl 0 rfl) ?_
  refine lv_iload_n (pc := 1) hx hb d_C_afterPointerLow_1 rfl (lv_at hl 1 rfl) ?_
  refine PC_held (pc := 2) X hC d_C_afterPointerLow_2 (fun st1 H locs est1 hC => ?_)
  replace he := bS_go he est1
  refine lv_aload_n (pc := 5) hx hb d_C_afterPointerLow_5 rfl (lv_at hl 0 rfl) ?_
  refine lv_aload_n (pc := 6) hx hb d_C_afterPointerLow_6 rfl (lv_at hl 0 rfl) ?_
  refine GC_aim (pc := 7) X hC d_C_afterPointerLow_7 ?_
  refine lv_iconst (pc := 10) (v := 1) hx hb d_C_afterPointerLow_10 (by decide) ?_
  refine lv_iadd (pc := 11) hx hb d_C_afterPointerLow_11 ?_
  refine lv_sipush (pc := 12) (v := 255) hx hb d_C_afterPointerLow_12 (by decide) ?_
  refine lv_iand (pc := 15) hx hb d_C_afterPointerLow_15 ?_
  refine PC_aim (pc := 16) X hC d_C_afterPointerLow_16 (fun st2 H locs est2 hC => ?_)
  replace he := bS_go he est2
  refine lv_aload_n (pc := 19) hx hb d_C_afterPointerLow_19 rfl (lv_at hl 0 rfl) ?_
  refine SC_stp_POINTER_PAGE (pc := 20) X hC d_C_afterPointerLow_20 ?_
  refine PC_step (pc := 23) X hC d_C_afterPointerLow_23 (fun st3 H locs est3 hC => ?_)
  replace he := bS_go he est3
  exact RET (pc := 26) d_C_afterPointerLow_26 hC he
def f_C_accessIndexed_71 (st : CS)  : CS := st
def f_C_accessIndexed_53 (st : CS) (v3 : Int32) (v4 : Int32) : CS := bS (sV st 12 v3) (fun st6 => bS (sV st6 11 v4) (fun st7 => bS (sS st7 (8 : Fin 35)) (fun st8 => f_C_accessIndexed_71 st8 )))
def f_C_accessIndexed (st : CS) (v1 : Int32) (v2 : Int32) : CS := bS (((((st.1 13) + (256 * v1)) + v2) &&& 65535) : Int32) (fun y1 => bS (((256 * v1) + (y1 &&& 255)) : Int32) (fun y2 => if st.2.2.1 = (0 : Fin 16) then (if y1 = y2 then (bS (f_C_accessOperandAt st y1) (fun st5 => f_C_accessIndexed_71 st5 )) else (f_C_accessIndexed_53 st y1 y2)) else (f_C_accessIndexed_53 st y1 y2)))
abbrev rm_C_accessIndexed : Room := { frames := 2, cells := 0, slots := 0, locals := 41 }
set_option maxHeartbeats 4000000 in
set_option maxRecDepth 100000 in
theorem k_C_accessIndexed (l : Launch) (g : CG) (rt : MS) (o : Nat → Int64) (st : CS) (v1 : Int32) (v2 : Int32) : KV l g y_C_accessIndexed (Cond.code y_C_accessIndexed c_C_accessIndexed 5 none :: ALL) rm_C_accessIndexed [.ref (g.chip), .int v1, .int v2] (wC g rt o) st (f_C_accessIndexed st v1 v2) := by
  refine KV.ofW (by decide) (Nat.le_of_ble_eq_true rfl) ?_
  intro p e s m args below meth c A Q ls Rv X he RET hC hl
  obtain ⟨hx, hb⟩ := FX_xb X
  have hl : lv_has ls 5 [(0, .ref (g.chip)), (1, .int v1), (2, .int v2)] := hl
  have B71 : ∀ (H : Heap) (locs : List Loc) (ls : Array Slot) (st : CS) , HC g A s (wC g rt o st) H locs → lv_has ls 5 [] → f_C_accessIndexed_71 st  = Rv → W p l e rm_C_accessIndexed s m args below meth c H locs 0 0 Q (F0 m 71 ls []) := by
    intro H locs ls st   hC hl he
    unfold f_C_accessIndexed_71 at he
    exact RET (pc := 71) d_C_accessIndexed_71 hC he
  have B53 : ∀ (H : Heap) (locs : List Loc) (ls : Array Slot) (st : CS) (v3 : Int32) (v4 : Int32), HC g A s (wC g rt o st) H locs → lv_has ls 5 [(0, .ref (g.chip)), (3, .int v3), (4, .int v4)] → f_C_accessIndexed_53 st v3 v4 = Rv → W p l e rm_C_accessIndexed s m args below meth c H locs 0 0 Q (F0 m 53 ls []) := by
    intro H locs ls st v3 v4  hC hl he
    unfold f_C_accessIndexed_53 at he
    refine lv_aload_n (pc := 53) hx hb d_C_accessIndexed_53 rfl (lv_at hl 0 rfl) ?_
    refine lv_iload_n (pc := 54) hx hb d_C_accessIndexed_54 rfl (lv_at hl 1 rfl) ?_
    refine PC_target (pc := 55) X hC d_C_accessIndexed_55 (fun st6 H locs est6 hC => ?_)
    replace he := bS_go he est6
    refine lv_aload_n (pc := 58) hx hb d_C_accessIndexed_58 rfl (lv_at hl 0 rfl) ?_
    refine lv_iload (pc := 59) hx hb d_C_accessIndexed_59 (lv_at hl 2 rfl) ?_
    refine PC_aim (pc := 61) X hC d_C_accessIndexed_61 (fun st7 H locs est7 hC => ?_)
    replace he := bS_go he est7
    refine lv_aload_n (pc := 64) hx hb d_C_accessIndexed_64 rfl (lv_at hl 0 rfl) ?_
    refine SC_stp_HALF_IDLE (pc := 65) X hC d_C_accessIndexed_65 ?_
    refine PC_step (pc := 68) X hC d_C_accessIndexed_68 (fun st8 H locs est8 hC => ?_)
    replace he := bS_go he est8
    exact B71 _ _ _ st8   hC (lv_sub hl [] rfl) he
  unfold f_C_accessIndexed at he
  refine lv_aload_n (pc := 0) hx hb d_C_accessIndexed_0 rfl (lv_at hl 0 rfl) ?_
  refine GC_held (pc := 1) X hC d_C_accessIndexed_1 ?_
  refine lv_sipush (pc := 4) (v := 256) hx hb d_C_accessIndexed_4 (by decide) ?_
  refine lv_iload_n (pc := 7) hx hb d_C_accessIndexed_7 rfl (lv_at hl 1 rfl) ?_
  refine lv_imul (pc := 8) hx hb d_C_accessIndexed_8 ?_
  refine lv_iadd (pc := 9) hx hb d_C_accessIndexed_9 ?_
  refine lv_iload_n (pc := 10) hx hb d_C_accessIndexed_10 rfl (lv_at hl 2 rfl) ?_
  refine lv_iadd (pc := 11) hx hb d_C_accessIndexed_11 ?_
  refine LC_101 (pc := 12) X d_C_accessIndexed_12 ?_
  refine lv_iand (pc := 14) hx hb d_C_accessIndexed_14 ?_
  refine lv_topi (fun y1 ey1 => ?_)
  replace he := bS_go he ey1.symm
  refine lv_istore_n (pc := 15) (nL := 5) (lv' := [(3, .int y1), (0, .ref (g.chip)), (1, .int v1), (2, .int v2)]) hx hb d_C_accessIndexed_15 rfl hl (by decide) rfl (fun ls hl => ?_)
  refine lv_sipush (pc := 16) (v := 256) hx hb d_C_accessIndexed_16 (by decide) ?_
  refine lv_iload_n (pc := 19) hx hb d_C_accessIndexed_19 rfl (lv_at hl 2 rfl) ?_
  refine lv_imul (pc := 20) hx hb d_C_accessIndexed_20 ?_
  refine lv_iload_n (pc := 21) hx hb d_C_accessIndexed_21 rfl (lv_at hl 0 rfl) ?_
  refine lv_sipush (pc := 22) (v := 255) hx hb d_C_accessIndexed_22 (by decide) ?_
  refine lv_iand (pc := 25) hx hb d_C_accessIndexed_25 ?_
  refine lv_iadd (pc := 26) hx hb d_C_accessIndexed_26 ?_
  refine lv_topi (fun y2 ey2 => ?_)
  replace he := bS_go he ey2.symm
  refine lv_istore (pc := 27) (nL := 5) (lv' := [(4, .int y2), (3, .int y1), (0, .ref (g.chip)), (1, .int v1), (2, .int v2)]) hx hb d_C_accessIndexed_27 hl (by decide) rfl (fun ls hl => ?_)
  refine lv_aload_n (pc := 29) hx hb d_C_accessIndexed_29 rfl (lv_at hl 2 rfl) ?_
  refine GC_kind (pc := 30) X hC d_C_accessIndexed_30 ?_
  refine SC_knd_READ (pc := 33) X hC d_C_accessIndexed_33 ?_
  refine acK_ne (pc := 36) (tgt := 53) (i := st.2.2.1) (j := (0 : Fin 16)) X d_C_accessIndexed_36 (by decide) (fun h3 => ?_) (fun h3 => ?_)
  · replace he := if_no he h3
    exact B53 _ _ _ st y1 y2  hC (lv_sub hl [2, 1, 0] rfl) he
  replace he := if_go he h3
  refine lv_iload_n (pc := 39) hx hb d_C_accessIndexed_39 rfl (lv_at hl 1 rfl) ?_
  refine lv_iload (pc := 40) hx hb d_C_accessIndexed_40 (lv_at hl 0 rfl) ?_
  refine lv_icmp_ne (pc := 42) (tgt := 53) hx hb d_C_accessIndexed_42 (by decide) (fun h4 => ?_) (fun h4 => ?_)
  · replace he := if_no he h4
    exact B53 _ _ _ st y1 y2  hC (lv_sub hl [2, 1, 0] rfl) he
  replace he := if_go he h4
  refine lv_aload_n (pc := 45) hx hb d_C_accessIndexed_45 rfl (lv_at hl 2 rfl) ?_
  refine lv_iload_n (pc := 46) hx hb d_C_accessIndexed_46 rfl (lv_at hl 1 rfl) ?_
  refine callVO (q0 := 0) (pc := 47) (As := [.int y1]) (rest := []) X (k_C_accessOperandAt l g rt o st y1) hC (NC_C_accessOperandAt_212 X rfl rfl ⟨by decide, by decide⟩) rfl rfl rfl hl.1 (Nat.le_of_ble_eq_true rfl) rfl d_C_accessIndexed_47 ⟨Nat.zero_le _, Nat.zero_le _⟩ (fun st5 H locs est5 hC => ?_)
  replace he := bS_go he est5
  refine lv_goto (pc := 50) (tgt := 71) hx hb d_C_accessIndexed_50 (by decide) ?_
  exact B71 _ _ _ st5   hC (lv_sub hl [] rfl) he
def f_C_afterPointerPage_37 (st : CS)  : CS := st
def f_C_afterPointerPage (st : CS) (v1 : Int32) : CS := if (st.1 8) = 5 then (bS (f_C_accessOperandAt st ((st.1 13) + (256 * v1))) (fun st3 => f_C_afterPointerPage_37 st3 )) else (bS (f_C_accessIndexed st v1 (st.1 2)) (fun st2 => f_C_afterPointerPage_37 st2 ))
abbrev rm_C_afterPointerPage : Room := { frames := 3, cells := 0, slots := 0, locals := 65 }
set_option maxHeartbeats 4000000 in
set_option maxRecDepth 100000 in
theorem k_C_afterPointerPage (l : Launch) (g : CG) (rt : MS) (o : Nat → Int64) (st : CS) (v1 : Int32) : KV l g y_C_afterPointerPage (Cond.code y_C_afterPointerPage c_C_afterPointerPage 2 none :: ALL) rm_C_afterPointerPage [.ref (g.chip), .int v1] (wC g rt o) st (f_C_afterPointerPage st v1) := by
  refine KV.ofW (by decide) (Nat.le_of_ble_eq_true rfl) ?_
  intro p e s m args below meth c A Q ls Rv X he RET hC hl
  obtain ⟨hx, hb⟩ := FX_xb X
  have hl : lv_has ls 2 [(0, .ref (g.chip)), (1, .int v1)] := hl
  have B37 : ∀ (H : Heap) (locs : List Loc) (ls : Array Slot) (st : CS) , HC g A s (wC g rt o st) H locs → lv_has ls 2 [] → f_C_afterPointerPage_37 st  = Rv → W p l e rm_C_afterPointerPage s m args below meth c H locs 0 0 Q (F0 m 37 ls []) := by
    intro H locs ls st   hC hl he
    unfold f_C_afterPointerPage_37 at he
    exact RET (pc := 37) d_C_afterPointerPage_37 hC he
  unfold f_C_afterPointerPage at he
  refine lv_aload_n (pc := 0) hx hb d_C_afterPointerPage_0 rfl (lv_at hl 0 rfl) ?_
  refine GC_mode (pc := 1) X hC d_C_afterPointerPage_1 ?_
  refine lv_iconst (pc := 4) (v := 5) hx hb d_C_afterPointerPage_4 (by decide) ?_
  refine lv_icmp_ne (pc := 5) (tgt := 25) hx hb d_C_afterPointerPage_5 (by decide) (fun h1 => ?_) (fun h1 => ?_)
  · replace he := if_no he h1
    refine lv_aload_n (pc := 25) hx hb d_C_afterPointerPage_25 rfl (lv_at hl 0 rfl) ?_
    refine lv_iload_n (pc := 26) hx hb d_C_afterPointerPage_26 rfl (lv_at hl 1 rfl) ?_
    refine lv_aload_n (pc := 27) hx hb d_C_afterPointerPage_27 rfl (lv_at hl 0 rfl) ?_
    refine GC_registers (pc := 28) X hC d_C_afterPointerPage_28 ?_
    refine GCR_y (pc := 31) X hC d_C_afterPointerPage_31 ?_
    refine callVO (q0 := 0) (pc := 34) (As := [.int v1, .int (st.1 2)]) (rest := []) X (k_C_accessIndexed l g rt o st v1 (st.1 2)) hC (NC_C_accessIndexed_354 X rfl rfl ⟨by decide, by decide⟩) rfl rfl rfl hl.1 (Nat.le_of_ble_eq_true rfl) rfl d_C_afterPointerPage_34 ⟨Nat.zero_le _, Nat.zero_le _⟩ (fun st2 H locs est2 hC => ?_)
    replace he := bS_go he est2
    exact B37 _ _ _ st2   hC (lv_sub hl [] rfl) he
  replace he := if_go he h1
  refine lv_aload_n (pc := 8) hx hb d_C_afterPointerPage_8 rfl (lv_at hl 0 rfl) ?_
  refine lv_aload_n (pc := 9) hx hb d_C_afterPointerPage_9 rfl (lv_at hl 0 rfl) ?_
  refine GC_held (pc := 10) X hC d_C_afterPointerPage_10 ?_
  refine lv_sipush (pc := 13) (v := 256) hx hb d_C_afterPointerPage_13 (by decide) ?_
  refine lv_iload_n (pc := 16) hx hb d_C_afterPointerPage_16 rfl (lv_at hl 1 rfl) ?_
  refine lv_imul (pc := 17) hx hb d_C_afterPointerPage_17 ?_
  refine lv_iadd (pc := 18) hx hb d_C_afterPointerPage_18 ?_
  refine callVO (q0 := 0) (pc := 19) (As := [.int ((st.1 13) + (256 * v1))]) (rest := []) X (k_C_accessOperandAt l g rt o st ((st.1 13) + (256 * v1))) hC (NC_C_accessOperandAt_212 X rfl rfl ⟨by decide, by decide⟩) rfl rfl rfl hl.1 (Nat.le_of_ble_eq_true rfl) rfl d_C_afterPointerPage_19 ⟨Nat.zero_le _, Nat.zero_le _⟩ (fun st3 H locs est3 hC => ?_)
  replace he := bS_go he est3
  refine lv_goto (pc := 22) (tgt := 37) hx hb d_C_afterPointerPage_22 (by decide) ?_
  exact B37 _ _ _ st3   hC (lv_sub hl [] rfl) he
def f_C_afterFarLow_32 (st : CS) (s0 : Fin 35) : CS := bS (sS st s0) (fun st4 => st4)
def f_C_afterFarLow (st : CS) (v1 : Int32) : CS := bS (f_R_nextPc st ) (fun st1 => bS (sV st1 13 v1) (fun st2 => if st2.2.2.1 = (5 : Fin 16) then (f_C_afterFarLow_32 st2 (19 : Fin 35)) else (f_C_afterFarLow_32 st2 (7 : Fin 35))))
abbrev rm_C_afterFarLow : Room := { frames := 1, cells := 0, slots := 0, locals := 20 }
set_option maxHeartbeats 4000000 in
set_option maxRecDepth 100000 in
theorem k_C_afterFarLow (l : Launch) (g : CG) (rt : MS) (o : Nat → Int64) (st : CS) (v1 : Int32) : KV l g y_C_afterFarLow (Cond.code y_C_afterFarLow c_C_afterFarLow 2 none :: ALL) rm_C_afterFarLow [.ref (g.chip), .int v1] (wC g rt o) st (f_C_afterFarLow st v1) := by
  refine KV.ofW (by decide) (Nat.le_of_ble_eq_true rfl) ?_
  intro p e s m args below meth c A Q ls Rv X he RET hC hl
  obtain ⟨hx, hb⟩ := FX_xb X
  have hl : lv_has ls 2 [(0, .ref (g.chip)), (1, .int v1)] := hl
  have B32 : ∀ (H : Heap) (locs : List Loc) (ls : Array Slot) (st : CS) (s0 : Fin 35), HC g A s (wC g rt o st) H locs → lv_has ls 2 [] → f_C_afterFarLow_32 st s0 = Rv → W p l e rm_C_afterFarLow s m args below meth c H locs 0 0 Q (F0 m 32 ls [.ref (g.adS (s0).val), .ref (g.chip)]) := by
    intro H locs ls st s0  hC hl he
    unfold f_C_afterFarLow_32 at he
    refine PC_step (pc := 32) X hC d_C_afterFarLow_32 (fun st4 H locs est4 hC => ?_)
    replace he := bS_go he est4
    exact RET (pc := 35) d_C_afterFarLow_35 hC he
  unfold f_C_afterFarLow at he
  refine lv_aload_n (pc := 0) hx hb d_C_afterFarLow_0 rfl (lv_at hl 0 rfl) ?_
  refine GC_registers (pc := 1) X hC d_C_afterFarLow_1 ?_
  refine callVN (q0 := 3) (pc := 4) (As := []) (rest := []) X (k_R_nextPc l g rt o st ) hC (NC_R_nextPc_185 X rfl rfl ⟨by decide, by decide⟩) rfl rfl rfl hl.1 (Nat.le_of_ble_eq_true rfl) rfl d_C_afterFarLow_4 ⟨Nat.zero_le _, Nat.zero_le _⟩ (fun st1 H locs est1 hC => ?_)
  replace he := bS_go he est1
  refine lv_aload_n (pc := 7) hx hb d_C_afterFarLow_7 rfl (lv_at hl 0 rfl) ?_
  refine lv_iload_n (pc := 8) hx hb d_C_afterFarLow_8 rfl (lv_at hl 1 rfl) ?_
  refine PC_held (pc := 9) X hC d_C_afterFarLow_9 (fun st2 H locs est2 hC => ?_)
  replace he := bS_go he est2
  refine lv_aload_n (pc := 12) hx hb d_C_afterFarLow_12 rfl (lv_at hl 0 rfl) ?_
  refine lv_aload_n (pc := 13) hx hb d_C_afterFarLow_13 rfl (lv_at hl 0 rfl) ?_
  refine GC_kind (pc := 14) X hC d_C_afterFarLow_14 ?_
  refine SC_knd_CALL (pc := 17) X hC d_C_afterFarLow_17 ?_
  refine acK_ne (pc := 20) (tgt := 29) (i := st2.2.2.1) (j := (5 : Fin 16)) X d_C_afterFarLow_20 (by decide) (fun h3 => ?_) (fun h3 => ?_)
  · replace he := if_no he h3
    refine SC_stp_FAR_PAGE (pc := 29) X hC d_C_afterFarLow_29 ?_
    exact B32 _ _ _ st2 (7 : Fin 35)  hC (lv_sub hl [] rfl) he
  replace he := if_go he h3
  refine SC_stp_STACK_IDLE (pc := 23) X hC d_C_afterFarLow_23 ?_
  refine lv_goto (pc := 26) (tgt := 32) hx hb d_C_afterFarLow_26 (by decide) ?_
  exact B32 _ _ _ st2 (19 : Fin 35)  hC (lv_sub hl [] rfl) he
def f_C_goTo (st : CS) (v1 : Int32) : CS := bS (sV st 4 (v1 &&& 65535)) (fun st1 => bS (f_C_end st1 ) (fun st2 => st2))
abbrev rm_C_goTo : Room := { frames := 2, cells := 0, slots := 0, locals := 43 }
set_option maxHeartbeats 4000000 in
set_option maxRecDepth 100000 in
theorem k_C_goTo (l : Launch) (g : CG) (rt : MS) (o : Nat → Int64) (st : CS) (v1 : Int32) : KV l g y_C_goTo (Cond.code y_C_goTo c_C_goTo 2 none :: ALL) rm_C_goTo [.ref (g.chip), .int v1] (wC g rt o) st (f_C_goTo st v1) := by
  refine KV.ofW (by decide) (Nat.le_of_ble_eq_true rfl) ?_
  intro p e s m args below meth c A Q ls Rv X he RET hC hl
  obtain ⟨hx, hb⟩ := FX_xb X
  have hl : lv_has ls 2 [(0, .ref (g.chip)), (1, .int v1)] := hl
  unfold f_C_goTo at he
  refine lv_aload_n (pc := 0) hx hb d_C_goTo_0 rfl (lv_at hl 0 rfl) ?_
  refine GC_registers (pc := 1) X hC d_C_goTo_1 ?_
  refine lv_iload_n (pc := 4) hx hb d_C_goTo_4 rfl (lv_at hl 1 rfl) ?_
  refine LC_101 (pc := 5) X d_C_goTo_5 ?_
  refine lv_iand (pc := 7) hx hb d_C_goTo_7 ?_
  refine PCR_pc (pc := 8) X hC d_C_goTo_8 (fun st1 H locs est1 hC => ?_)
  replace he := bS_go he est1
  refine lv_aload_n (pc := 11) hx hb d_C_goTo_11 rfl (lv_at hl 0 rfl) ?_
  refine callVO (q0 := 0) (pc := 12) (As := []) (rest := []) X (k_C_end l g rt o st1 ) hC (NC_C_end_161 X rfl rfl ⟨by decide, by decide⟩) rfl rfl rfl hl.1 (Nat.le_of_ble_eq_true rfl) rfl d_C_goTo_12 ⟨Nat.zero_le _, Nat.zero_le _⟩ (fun st2 H locs est2 hC => ?_)
  replace he := bS_go he est2
  exact RET (pc := 15) d_C_goTo_15 hC he
def f_C_afterFarPage_79 (st : CS)  : CS := st
def f_C_afterFarPage_20 (st : CS) (v1 : Int32) : CS := bS (f_C_goTo st ((st.1 13) + (256 * v1))) (fun st7 => st7)
def f_C_afterFarPage (st : CS) (v1 : Int32) : CS := if st.2.2.1 = (4 : Fin 16) then (f_C_afterFarPage_20 st v1) else (if st.2.2.1 = (5 : Fin 16) then (f_C_afterFarPage_20 st v1) else (bS (f_R_nextPc st ) (fun st3 => if (st3.1 8) = 3 then (bS (f_C_accessOperandAt st3 ((st3.1 13) + (256 * v1))) (fun st6 => f_C_afterFarPage_79 st6 )) else (bS (f_C_accessIndexed st3 v1 (st3.1 1)) (fun st5 => f_C_afterFarPage_79 st5 )))))
abbrev rm_C_afterFarPage : Room := { frames := 3, cells := 0, slots := 0, locals := 65 }
set_option maxHeartbeats 4000000 in
set_option maxRecDepth 100000 in
theorem k_C_afterFarPage (l : Launch) (g : CG) (rt : MS) (o : Nat → Int64) (st : CS) (v1 : Int32) : KV l g y_C_afterFarPage (Cond.code y_C_afterFarPage c_C_afterFarPage 2 none :: ALL) rm_C_afterFarPage [.ref (g.chip), .int v1] (wC g rt o) st (f_C_afterFarPage st v1) := by
  refine KV.ofW (by decide) (Nat.le_of_ble_eq_true rfl) ?_
  intro p e s m args below meth c A Q ls Rv X he RET hC hl
  obtain ⟨hx, hb⟩ := FX_xb X
  have hl : lv_has ls 2 [(0, .ref (g.chip)), (1, .int v1)] := hl
  have B79 : ∀ (H : Heap) (locs : List Loc) (ls : Array Slot) (st : CS) , HC g A s (wC g rt o st) H locs → lv_has ls 2 [] → f_C_afterFarPage_79 st  = Rv → W p l e rm_C_afterFarPage s m args below meth c H locs 0 0 Q (F0 m 79 ls []) := by
    intro H locs ls st   hC hl he
    unfold f_C_afterFarPage_79 at he
    exact RET (pc := 79) d_C_afterFarPage_79 hC he
  have B20 : ∀ (H : Heap) (locs : List Loc) (ls : Array Slot) (st : CS) (v1 : Int32), HC g A s (wC g rt o st) H locs → lv_has ls 2 [(0, .ref (g.chip)), (1, .int v1)] → f_C_afterFarPage_20 st v1 = Rv → W p l e rm_C_afterFarPage s m args below meth c H locs 0 0 Q (F0 m 20 ls []) := by
    intro H locs ls st v1  hC hl he
    unfold f_C_afterFarPage_20 at he
    refine lv_aload_n (pc := 20) hx hb d_C_afterFarPage_20 rfl (lv_at hl 0 rfl) ?_
    refine lv_aload_n (pc := 21) hx hb d_C_afterFarPage_21 rfl (lv_at hl 0 rfl) ?_
    refine GC_held (pc := 22) X hC d_C_afterFarPage_22 ?_
    refine lv_sipush (pc := 25) (v := 256) hx hb d_C_afterFarPage_25 (by decide) ?_
    refine lv_iload_n (pc := 28) hx hb d_C_afterFarPage_28 rfl (lv_at hl 1 rfl) ?_
    refine lv_imul (pc := 29) hx hb d_C_afterFarPage_29 ?_
    refine lv_iadd (pc := 30) hx hb d_C_afterFarPage_30 ?_
    refine callVO (q0 := 0) (pc := 31) (As := [.int ((st.1 13) + (256 * v1))]) (rest := []) X (k_C_goTo l g rt o st ((st.1 13) + (256 * v1))) hC (NC_C_goTo_224 X rfl rfl ⟨by decide, by decide⟩) rfl rfl rfl hl.1 (Nat.le_of_ble_eq_true rfl) rfl d_C_afterFarPage_31 ⟨Nat.zero_le _, Nat.zero_le _⟩ (fun st7 H locs est7 hC => ?_)
    replace he := bS_go he est7
    exact RET (pc := 34) d_C_afterFarPage_34 hC he
  unfold f_C_afterFarPage at he
  refine lv_aload_n (pc := 0) hx hb d_C_afterFarPage_0 rfl (lv_at hl 0 rfl) ?_
  refine GC_kind (pc := 1) X hC d_C_afterFarPage_1 ?_
  refine SC_knd_JUMP (pc := 4) X hC d_C_afterFarPage_4 ?_
  refine acK_eq (pc := 7) (tgt := 20) (i := st.2.2.1) (j := (4 : Fin 16)) X d_C_afterFarPage_7 (by decide) (fun h1 => ?_) (fun h1 => ?_)
  · replace he := if_go he h1
    exact B20 _ _ _ st v1  hC (lv_sub hl [0, 1] rfl) he
  replace he := if_no he h1
  refine lv_aload_n (pc := 10) hx hb d_C_afterFarPage_10 rfl (lv_at hl 0 rfl) ?_
  refine GC_kind (pc := 11) X hC d_C_afterFarPage_11 ?_
  refine SC_knd_CALL (pc := 14) X hC d_C_afterFarPage_14 ?_
  refine acK_ne (pc := 17) (tgt := 35) (i := st.2.2.1) (j := (5 : Fin 16)) X d_C_afterFarPage_17 (by decide) (fun h2 => ?_) (fun h2 => ?_)
  · replace he := if_no he h2
    refine lv_aload_n (pc := 35) hx hb d_C_afterFarPage_35 rfl (lv_at hl 0 rfl) ?_
    refine GC_registers (pc := 36) X hC d_C_afterFarPage_36 ?_
    refine callVN (q0 := 3) (pc := 39) (As := []) (rest := []) X (k_R_nextPc l g rt o st ) hC (NC_R_nextPc_185 X rfl rfl ⟨by decide, by decide⟩) rfl rfl rfl hl.1 (Nat.le_of_ble_eq_true rfl) rfl d_C_afterFarPage_39 ⟨Nat.zero_le _, Nat.zero_le _⟩ (fun st3 H locs est3 hC => ?_)
    replace he := bS_go he est3
    refine lv_aload_n (pc := 42) hx hb d_C_afterFarPage_42 rfl (lv_at hl 0 rfl) ?_
    refine GC_mode (pc := 43) X hC d_C_afterFarPage_43 ?_
    refine lv_iconst (pc := 46) (v := 3) hx hb d_C_afterFarPage_46 (by decide) ?_
    refine lv_icmp_ne (pc := 47) (tgt := 67) hx hb d_C_afterFarPage_47 (by decide) (fun h4 => ?_) (fun h4 => ?_)
    · replace he := if_no he h4
      refine lv_aload_n (pc := 67) hx hb d_C_afterFarPage_67 rfl (lv_at hl 0 rfl) ?_
      refine lv_iload_n (pc := 68) hx hb d_C_afterFarPage_68 rfl (lv_at hl 1 rfl) ?_
      refine lv_aload_n (pc := 69) hx hb d_C_afterFarPage_69 rfl (lv_at hl 0 rfl) ?_
      refine GC_registers (pc := 70) X hC d_C_afterFarPage_70 ?_
      refine GCR_x (pc := 73) X hC d_C_afterFarPage_73 ?_
      refine callVO (q0 := 0) (pc := 76) (As := [.int v1, .int (st3.1 1)]) (rest := []) X (k_C_accessIndexed l g rt o st3 v1 (st3.1 1)) hC (NC_C_accessIndexed_354 X rfl rfl ⟨by decide, by decide⟩) rfl rfl rfl hl.1 (Nat.le_of_ble_eq_true rfl) rfl d_C_afterFarPage_76 ⟨Nat.zero_le _, Nat.zero_le _⟩ (fun st5 H locs est5 hC => ?_)
      replace he := bS_go he est5
      exact B79 _ _ _ st5   hC (lv_sub hl [] rfl) he
    replace he := if_go he h4
    refine lv_aload_n (pc := 50) hx hb d_C_afterFarPage_50 rfl (lv_at hl 0 rfl) ?_
    refine lv_aload_n (pc := 51) hx hb d_C_afterFarPage_51 rfl (lv_at hl 0 rfl) ?_
    refine GC_held (pc := 52) X hC d_C_afterFarPage_52 ?_
    refine lv_sipush (pc := 55) (v := 256) hx hb d_C_afterFarPage_55 (by decide) ?_
    refine lv_iload_n (pc := 58) hx hb d_C_afterFarPage_58 rfl (lv_at hl 1 rfl) ?_
    refine lv_imul (pc := 59) hx hb d_C_afterFarPage_59 ?_
    refine lv_iadd (pc := 60) hx hb d_C_afterFarPage_60 ?_
    refine callVO (q0 := 0) (pc := 61) (As := [.int ((st3.1 13) + (256 * v1))]) (rest := []) X (k_C_accessOperandAt l g rt o st3 ((st3.1 13) + (256 * v1))) hC (NC_C_accessOperandAt_212 X rfl rfl ⟨by decide, by decide⟩) rfl rfl rfl hl.1 (Nat.le_of_ble_eq_true rfl) rfl d_C_afterFarPage_61 ⟨Nat.zero_le _, Nat.zero_le _⟩ (fun st6 H locs est6 hC => ?_)
    replace he := bS_go he est6
    refine lv_goto (pc := 64) (tgt := 79) hx hb d_C_afterFarPage_64 (by decide) ?_
    exact B79 _ _ _ st6   hC (lv_sub hl [] rfl) he
  replace he := if_go he h2
  exact B20 _ _ _ st v1  hC (lv_sub hl [0, 1] rfl) he
def f_C_afterChangeRead (st : CS) (v1 : Int32) : CS := bS (sV st 13 v1) (fun st1 => bS (sS st1 (12 : Fin 35)) (fun st2 => st2))
abbrev rm_C_afterChangeRead : Room := { frames := 0, cells := 0, slots := 0, locals := 0 }
set_option maxHeartbeats 4000000 in
set_option maxRecDepth 100000 in
theorem k_C_afterChangeRead (l : Launch) (g : CG) (rt : MS) (o : Nat → Int64) (st : CS) (v1 : Int32) : KV l g y_C_afterChangeRead (Cond.code y_C_afterChangeRead c_C_afterChangeRead 2 none :: ALL) rm_C_afterChangeRead [.ref (g.chip), .int v1] (wC g rt o) st (f_C_afterChangeRead st v1) := by
  refine KV.ofW (by decide) (Nat.le_of_ble_eq_true rfl) ?_
  intro p e s m args below meth c A Q ls Rv X he RET hC hl
  obtain ⟨hx, hb⟩ := FX_xb X
  have hl : lv_has ls 2 [(0, .ref (g.chip)), (1, .int v1)] := hl
  unfold f_C_afterChangeRead at he
  refine lv_aload_n (pc := 0) hx hb d_C_afterChangeRead_0 rfl (lv_at hl 0 rfl) ?_
  refine lv_iload_n (pc := 1) hx hb d_C_afterChangeRead_1 rfl (lv_at hl 1 rfl) ?_
  refine PC_held (pc := 2) X hC d_C_afterChangeRead_2 (fun st1 H locs est1 hC => ?_)
  replace he := bS_go he est1
  refine lv_aload_n (pc := 5) hx hb d_C_afterChangeRead_5 rfl (lv_at hl 0 rfl) ?_
  refine SC_stp_CHANGE_SAME (pc := 6) X hC d_C_afterChangeRead_6 ?_
  refine PC_step (pc := 9) X hC d_C_afterChangeRead_9 (fun st2 H locs est2 hC => ?_)
  replace he := bS_go he est2
  exact RET (pc := 12) d_C_afterChangeRead_12 hC he
def f_C_afterBranchDistance_68 (st : CS)  : CS := st
def f_C_afterBranchDistance_37 (st : CS) (s0 : Int32) : CS := bS (sV st 12 (((st.1 4) + s0) &&& 65535)) (fun st7 => bS (sS st7 (15 : Fin 35)) (fun st8 => f_C_afterBranchDistance_68 st8 ))
def f_C_afterBranchDistance (st : CS) (v1 : Int32) : CS := bS (f_R_nextPc st ) (fun st1 => bP (f_R_takesBranch st1 (st1.1 7)) (fun r3 st2 => if r3 = 0 then (bS (f_C_end st2 ) (fun st5 => f_C_afterBranchDistance_68 st5 )) else (if 128 ≤ v1 then (f_C_afterBranchDistance_37 st2 (v1 - 256)) else (f_C_afterBranchDistance_37 st2 v1))))
abbrev rm_C_afterBranchDistance : Room := { frames := 2, cells := 0, slots := 0, locals := 43 }
set_option maxHeartbeats 4000000 in
set_option maxRecDepth 100000 in
theorem k_C_afterBranchDistance (l : Launch) (g : CG) (rt : MS) (o : Nat → Int64) (st : CS) (v1 : Int32) : KV l g y_C_afterBranchDistance (Cond.code y_C_afterBranchDistance c_C_afterBranchDistance 3 none :: ALL) rm_C_afterBranchDistance [.ref (g.chip), .int v1] (wC g rt o) st (f_C_afterBranchDistance st v1) := by
  refine KV.ofW (by decide) (Nat.le_of_ble_eq_true rfl) ?_
  intro p e s m args below meth c A Q ls Rv X he RET hC hl
  obtain ⟨hx, hb⟩ := FX_xb X
  have hl : lv_has ls 3 [(0, .ref (g.chip)), (1, .int v1)] := hl
  have B68 : ∀ (H : Heap) (locs : List Loc) (ls : Array Slot) (st : CS) , HC g A s (wC g rt o st) H locs → lv_has ls 3 [] → f_C_afterBranchDistance_68 st  = Rv → W p l e rm_C_afterBranchDistance s m args below meth c H locs 0 0 Q (F0 m 68 ls []) := by
    intro H locs ls st   hC hl he
    unfold f_C_afterBranchDistance_68 at he
    exact RET (pc := 68) d_C_afterBranchDistance_68 hC he
  have B37 : ∀ (H : Heap) (locs : List Loc) (ls : Array Slot) (st : CS) (s0 : Int32), HC g A s (wC g rt o st) H locs → lv_has ls 3 [(0, .ref (g.chip))] → f_C_afterBranchDistance_37 st s0 = Rv → W p l e rm_C_afterBranchDistance s m args below meth c H locs 0 0 Q (F0 m 37 ls [.int s0]) := by
    intro H locs ls st s0  hC hl he
    unfold f_C_afterBranchDistance_37 at he
    refine lv_istore_n (pc := 37) (nL := 3) (lv' := [(2, .int s0), (0, .ref (g.chip))]) hx hb d_C_afterBranchDistance_37 rfl hl (by decide) rfl (fun ls hl => ?_)
    refine lv_aload_n (pc := 38) hx hb d_C_afterBranchDistance_38 rfl (lv_at hl 1 rfl) ?_
    refine lv_aload_n (pc := 39) hx hb d_C_afterBranchDistance_39 rfl (lv_at hl 1 rfl) ?_
    refine GC_registers (pc := 40) X hC d_C_afterBranchDistance_40 ?_
    refine GCR_pc (pc := 43) X hC d_C_afterBranchDistance_43 ?_
    refine lv_iload_n (pc := 46) hx hb d_C_afterBranchDistance_46 rfl (lv_at hl 0 rfl) ?_
    refine lv_iadd (pc := 47) hx hb d_C_afterBranchDistance_47 ?_
    refine LC_101 (pc := 48) X d_C_afterBranchDistance_48 ?_
    refine lv_iand (pc := 50) hx hb d_C_afterBranchDistance_50 ?_
    refine PC_target (pc := 51) X hC d_C_afterBranchDistance_51 (fun st7 H locs est7 hC => ?_)
    replace he := bS_go he est7
    refine lv_aload_n (pc := 54) hx hb d_C_afterBranchDistance_54 rfl (lv_at hl 1 rfl) ?_
    refine SC_stp_BRANCH_IDLE (pc := 55) X hC d_C_afterBranchDistance_55 ?_
    refine PC_step (pc := 58) X hC d_C_afterBranchDistance_58 (fun st8 H locs est8 hC => ?_)
    replace he := bS_go he est8
    refine lv_goto (pc := 61) (tgt := 68) hx hb d_C_afterBranchDistance_61 (by decide) ?_
    exact B68 _ _ _ st8   hC (lv_sub hl [] rfl) he
  unfold f_C_afterBranchDistance at he
  refine lv_aload_n (pc := 0) hx hb d_C_afterBranchDistance_0 rfl (lv_at hl 0 rfl) ?_
  refine GC_registers (pc := 1) X hC d_C_afterBranchDistance_1 ?_
  refine callVN (q0 := 3) (pc := 4) (As := []) (rest := []) X (k_R_nextPc l g rt o st ) hC (NC_R_nextPc_185 X rfl rfl ⟨by decide, by decide⟩) rfl rfl rfl hl.1 (Nat.le_of_ble_eq_true rfl) rfl d_C_afterBranchDistance_4 ⟨Nat.zero_le _, Nat.zero_le _⟩ (fun st1 H locs est1 hC => ?_)
  replace he := bS_go he est1
  refine lv_aload_n (pc := 7) hx hb d_C_afterBranchDistance_7 rfl (lv_at hl 0 rfl) ?_
  refine GC_registers (pc := 8) X hC d_C_afterBranchDistance_8 ?_
  refine lv_aload_n (pc := 11) hx hb d_C_afterBranchDistance_11 rfl (lv_at hl 0 rfl) ?_
  refine GC_operation (pc := 12) X hC d_C_afterBranchDistance_12 ?_
  refine callZN (q0 := 3) (pc := 15) (As := [.int (st1.1 7)]) (rest := []) X (k_R_takesBranch l g rt o st1 (st1.1 7)) hC (NC_R_takesBranch_374 X rfl rfl ⟨by decide, by decide⟩) rfl rfl rfl hl.1 (Nat.le_of_ble_eq_true rfl) rfl d_C_afterBranchDistance_15 ⟨Nat.zero_le _, Nat.zero_le _⟩ (fun r3 st2 H locs est2 br3 hC => ?_)
  replace he := bP_go he est2
  refine lv_if_eq (pc := 18) (tgt := 64) hx hb d_C_afterBranchDistance_18 (by decide) (fun h4 => ?_) (fun h4 => ?_)
  · replace he := if_go he h4
    refine lv_aload_n (pc := 64) hx hb d_C_afterBranchDistance_64 rfl (lv_at hl 0 rfl) ?_
    refine callVO (q0 := 0) (pc := 65) (As := []) (rest := []) X (k_C_end l g rt o st2 ) hC (NC_C_end_161 X rfl rfl ⟨by decide, by decide⟩) rfl rfl rfl hl.1 (Nat.le_of_ble_eq_true rfl) rfl d_C_afterBranchDistance_65 ⟨Nat.zero_le _, Nat.zero_le _⟩ (fun st5 H locs est5 hC => ?_)
    replace he := bS_go he est5
    exact B68 _ _ _ st5   hC (lv_sub hl [] rfl) he
  replace he := if_no he h4
  refine lv_iload_n (pc := 21) hx hb d_C_afterBranchDistance_21 rfl (lv_at hl 1 rfl) ?_
  refine lv_sipush (pc := 22) (v := 128) hx hb d_C_afterBranchDistance_22 (by decide) ?_
  refine lv_icmp_ge (pc := 25) (tgt := 32) hx hb d_C_afterBranchDistance_25 (by decide) (fun h6 => ?_) (fun h6 => ?_)
  · replace he := if_go he h6
    refine lv_iload_n (pc := 32) hx hb d_C_afterBranchDistance_32 rfl (lv_at hl 1 rfl) ?_
    refine lv_sipush (pc := 33) (v := 256) hx hb d_C_afterBranchDistance_33 (by decide) ?_
    refine lv_isub (pc := 36) hx hb d_C_afterBranchDistance_36 ?_
    exact B37 _ _ _ st2 (v1 - 256)  hC (lv_sub hl [0] rfl) he
  replace he := if_no he h6
  refine lv_iload_n (pc := 28) hx hb d_C_afterBranchDistance_28 rfl (lv_at hl 1 rfl) ?_
  refine lv_goto (pc := 29) (tgt := 37) hx hb d_C_afterBranchDistance_29 (by decide) ?_
  exact B37 _ _ _ st2 v1  hC (lv_sub hl [0] rfl) he
def f_C_afterBranchIdle_52 (st : CS)  : CS := st
def f_C_afterBranchIdle (st : CS)  : CS := bS ((((st.1 4) &&& 65280) + ((st.1 12) &&& 255)) : Int32) (fun y1 => if y1 = (st.1 12) then (bS (f_C_goTo st (st.1 12)) (fun st5 => f_C_afterBranchIdle_52 st5 )) else (bS (sV st 11 y1) (fun st3 => bS (sS st3 (16 : Fin 35)) (fun st4 => f_C_afterBranchIdle_52 st4 ))))
abbrev rm_C_afterBranchIdle : Room := { frames := 3, cells := 0, slots := 0, locals := 64 }
set_option maxHeartbeats 4000000 in
set_option maxRecDepth 100000 in
theorem k_C_afterBranchIdle (l : Launch) (g : CG) (rt : MS) (o : Nat → Int64) (st : CS)  : KV l g y_C_afterBranchIdle (Cond.code y_C_afterBranchIdle c_C_afterBranchIdle 2 none :: ALL) rm_C_afterBranchIdle [.ref (g.chip)] (wC g rt o) st (f_C_afterBranchIdle st ) := by
  refine KV.ofW (by decide) (Nat.le_of_ble_eq_true rfl) ?_
  intro p e s m args below meth c A Q ls Rv X he RET hC hl
  obtain ⟨hx, hb⟩ := FX_xb X
  have hl : lv_has ls 2 [(0, .ref (g.chip))] := hl
  have B52 : ∀ (H : Heap) (locs : List Loc) (ls : Array Slot) (st : CS) , HC g A s (wC g rt o st) H locs → lv_has ls 2 [] → f_C_afterBranchIdle_52 st  = Rv → W p l e rm_C_afterBranchIdle s m args below meth c H locs 0 0 Q (F0 m 52 ls []) := by
    intro H locs ls st   hC hl he
    unfold f_C_afterBranchIdle_52 at he
    exact RET (pc := 52) d_C_afterBranchIdle_52 hC he
  unfold f_C_afterBranchIdle at he
  refine lv_aload_n (pc := 0) hx hb d_C_afterBranchIdle_0 rfl (lv_at hl 0 rfl) ?_
  refine GC_registers (pc := 1) X hC d_C_afterBranchIdle_1 ?_
  refine GCR_pc (pc := 4) X hC d_C_afterBranchIdle_4 ?_
  refine LC_380 (pc := 7) X d_C_afterBranchIdle_7 ?_
  refine lv_iand (pc := 10) hx hb d_C_afterBranchIdle_10 ?_
  refine lv_aload_n (pc := 11) hx hb d_C_afterBranchIdle_11 rfl (lv_at hl 0 rfl) ?_
  refine GC_target (pc := 12) X hC d_C_afterBranchIdle_12 ?_
  refine lv_sipush (pc := 15) (v := 255) hx hb d_C_afterBranchIdle_15 (by decide) ?_
  refine lv_iand (pc := 18) hx hb d_C_afterBranchIdle_18 ?_
  refine lv_iadd (pc := 19) hx hb d_C_afterBranchIdle_19 ?_
  refine lv_topi (fun y1 ey1 => ?_)
  replace he := bS_go he ey1.symm
  refine lv_istore_n (pc := 20) (nL := 2) (lv' := [(1, .int y1), (0, .ref (g.chip))]) hx hb d_C_afterBranchIdle_20 rfl hl (by decide) rfl (fun ls hl => ?_)
  refine lv_iload_n (pc := 21) hx hb d_C_afterBranchIdle_21 rfl (lv_at hl 0 rfl) ?_
  refine lv_aload_n (pc := 22) hx hb d_C_afterBranchIdle_22 rfl (lv_at hl 1 rfl) ?_
  refine GC_target (pc := 23) X hC d_C_afterBranchIdle_23 ?_
  refine lv_icmp_ne (pc := 26) (tgt := 40) hx hb d_C_afterBranchIdle_26 (by decide) (fun h2 => ?_) (fun h2 => ?_)
  · replace he := if_no he h2
    refine lv_aload_n (pc := 40) hx hb d_C_afterBranchIdle_40 rfl (lv_at hl 1 rfl) ?_
    refine lv_iload_n (pc := 41) hx hb d_C_afterBranchIdle_41 rfl (lv_at hl 0 rfl) ?_
    refine PC_aim (pc := 42) X hC d_C_afterBranchIdle_42 (fun st3 H locs est3 hC => ?_)
    replace he := bS_go he est3
    refine lv_aload_n (pc := 45) hx hb d_C_afterBranchIdle_45 rfl (lv_at hl 1 rfl) ?_
    refine SC_stp_BRANCH_OTHER_PAGE (pc := 46) X hC d_C_afterBranchIdle_46 ?_
    refine PC_step (pc := 49) X hC d_C_afterBranchIdle_49 (fun st4 H locs est4 hC => ?_)
    replace he := bS_go he est4
    exact B52 _ _ _ st4   hC (lv_sub hl [] rfl) he
  replace he := if_go he h2
  refine lv_aload_n (pc := 29) hx hb d_C_afterBranchIdle_29 rfl (lv_at hl 1 rfl) ?_
  refine lv_aload_n (pc := 30) hx hb d_C_afterBranchIdle_30 rfl (lv_at hl 1 rfl) ?_
  refine GC_target (pc := 31) X hC d_C_afterBranchIdle_31 ?_
  refine callVO (q0 := 0) (pc := 34) (As := [.int (st.1 12)]) (rest := []) X (k_C_goTo l g rt o st (st.1 12)) hC (NC_C_goTo_224 X rfl rfl ⟨by decide, by decide⟩) rfl rfl rfl hl.1 (Nat.le_of_ble_eq_true rfl) rfl d_C_afterBranchIdle_34 ⟨Nat.zero_le _, Nat.zero_le _⟩ (fun st5 H locs est5 hC => ?_)
  replace he := bS_go he est5
  refine lv_goto (pc := 37) (tgt := 52) hx hb d_C_afterBranchIdle_37 (by decide) ?_
  exact B52 _ _ _ st5   hC (lv_sub hl [] rfl) he
def f_C_afterBreakNext (st : CS)  : CS := bS (f_R_nextPc st ) (fun st1 => bS (sS st1 (21 : Fin 35)) (fun st2 => st2))
abbrev rm_C_afterBreakNext : Room := { frames := 1, cells := 0, slots := 0, locals := 20 }
set_option maxHeartbeats 4000000 in
set_option maxRecDepth 100000 in
theorem k_C_afterBreakNext (l : Launch) (g : CG) (rt : MS) (o : Nat → Int64) (st : CS)  : KV l g y_C_afterBreakNext (Cond.code y_C_afterBreakNext c_C_afterBreakNext 1 none :: ALL) rm_C_afterBreakNext [.ref (g.chip)] (wC g rt o) st (f_C_afterBreakNext st ) := by
  refine KV.ofW (by decide) (Nat.le_of_ble_eq_true rfl) ?_
  intro p e s m args below meth c A Q ls Rv X he RET hC hl
  obtain ⟨hx, hb⟩ := FX_xb X
  have hl : lv_has ls 1 [(0, .ref (g.chip))] := hl
  unfold f_C_afterBreakNext at he
  refine lv_aload_n (pc := 0) hx hb d_C_afterBreakNext_0 rfl (lv_at hl 0 rfl) ?_
  refine GC_registers (pc := 1) X hC d_C_afterBreakNext_1 ?_
  refine callVN (q0 := 3) (pc := 4) (As := []) (rest := []) X (k_R_nextPc l g rt o st ) hC (NC_R_nextPc_185 X rfl rfl ⟨by decide, by decide⟩) rfl rfl rfl hl.1 (Nat.le_of_ble_eq_true rfl) rfl d_C_afterBreakNext_4 ⟨Nat.zero_le _, Nat.zero_le _⟩ (fun st1 H locs est1 hC => ?_)
  replace he := bS_go he est1
  refine lv_aload_n (pc := 7) hx hb d_C_afterBreakNext_7 rfl (lv_at hl 0 rfl) ?_
  refine SC_stp_PUSH_PAGE (pc := 8) X hC d_C_afterBreakNext_8 ?_
  refine PC_step (pc := 11) X hC d_C_afterBreakNext_11 (fun st2 H locs est2 hC => ?_)
  replace he := bS_go he est2
  exact RET (pc := 14) d_C_afterBreakNext_14 hC he
def f_C_afterPcIdle_51 (st : CS)  : CS := st
def f_C_afterPcIdle_48 (st : CS) (s0 : Fin 35) : CS := bS (sS st s0) (fun st5 => f_C_afterPcIdle_51 st5 )
def f_C_afterPcIdle (st : CS)  : CS := if st.2.2.1 = (6 : Fin 16) then (bS (f_R_operateAlone st (st.1 7)) (fun st3 => bS (f_C_end st3 ) (fun st4 => f_C_afterPcIdle_51 st4 ))) else (if st.2.2.1 = (7 : Fin 16) then (f_C_afterPcIdle_48 st (20 : Fin 35)) else (f_C_afterPcIdle_48 st (19 : Fin 35)))
abbrev rm_C_afterPcIdle : Room := { frames := 3, cells := 0, slots := 0, locals := 64 }
set_option maxHeartbeats 4000000 in
set_option maxRecDepth 100000 in
theorem k_C_afterPcIdle (l : Launch) (g : CG) (rt : MS) (o : Nat → Int64) (st : CS)  : KV l g y_C_afterPcIdle (Cond.code y_C_afterPcIdle c_C_afterPcIdle 1 none :: ALL) rm_C_afterPcIdle [.ref (g.chip)] (wC g rt o) st (f_C_afterPcIdle st ) := by
  refine KV.ofW (by decide) (Nat.le_of_ble_eq_true rfl) ?_
  intro p e s m args below meth c A Q ls Rv X he RET hC hl
  obtain ⟨hx, hb⟩ := FX_xb X
  have hl : lv_has ls 1 [(0, .ref (g.chip))] := hl
  have B51 : ∀ (H : Heap) (locs : List Loc) (ls : Array Slot) (st : CS) , HC g A s (wC g rt o st) H locs → lv_has ls 1 [] → f_C_afterPcIdle_51 st  = Rv → W p l e rm_C_afterPcIdle s m args below meth c H locs 0 0 Q (F0 m 51 ls []) := by
    intro H locs ls st   hC hl he
    unfold f_C_afterPcIdle_51 at he
    exact RET (pc := 51) d_C_afterPcIdle_51 hC he
  have B48 : ∀ (H : Heap) (locs : List Loc) (ls : Array Slot) (st : CS) (s0 : Fin 35), HC g A s (wC g rt o st) H locs → lv_has ls 1 [] → f_C_afterPcIdle_48 st s0 = Rv → W p l e rm_C_afterPcIdle s m args below meth c H locs 0 0 Q (F0 m 48 ls [.ref (g.adS (s0).val), .ref (g.chip)]) := by
    intro H locs ls st s0  hC hl he
    unfold f_C_afterPcIdle_48 at he
    refine PC_step (pc := 48) X hC d_C_afterPcIdle_48 (fun st5 H locs est5 hC => ?_)
    replace he := bS_go he est5
    exact B51 _ _ _ st5   hC (lv_sub hl [] rfl) he
  unfold f_C_afterPcIdle at he
  refine lv_aload_n (pc := 0) hx hb d_C_afterPcIdle_0 rfl (lv_at hl 0 rfl) ?_
  refine GC_kind (pc := 1) X hC d_C_afterPcIdle_1 ?_
  refine SC_knd_ON_REGISTERS (pc := 4) X hC d_C_afterPcIdle_4 ?_
  refine acK_ne (pc := 7) (tgt := 28) (i := st.2.2.1) (j := (6 : Fin 16)) X d_C_afterPcIdle_7 (by decide) (fun h1 => ?_) (fun h1 => ?_)
  · replace he := if_no he h1
    refine lv_aload_n (pc := 28) hx hb d_C_afterPcIdle_28 rfl (lv_at hl 0 rfl) ?_
    refine lv_aload_n (pc := 29) hx hb d_C_afterPcIdle_29 rfl (lv_at hl 0 rfl) ?_
    refine GC_kind (pc := 30) X hC d_C_afterPcIdle_30 ?_
    refine SC_knd_PUSH (pc := 33) X hC d_C_afterPcIdle_33 ?_
    refine acK_ne (pc := 36) (tgt := 45) (i := st.2.2.1) (j := (7 : Fin 16)) X d_C_afterPcIdle_36 (by decide) (fun h2 => ?_) (fun h2 => ?_)
    · replace he := if_no he h2
      refine SC_stp_STACK_IDLE (pc := 45) X hC d_C_afterPcIdle_45 ?_
      exact B48 _ _ _ st (19 : Fin 35)  hC (lv_sub hl [] rfl) he
    replace he := if_go he h2
    refine SC_stp_PUSH_REGISTER (pc := 39) X hC d_C_afterPcIdle_39 ?_
    refine lv_goto (pc := 42) (tgt := 48) hx hb d_C_afterPcIdle_42 (by decide) ?_
    exact B48 _ _ _ st (20 : Fin 35)  hC (lv_sub hl [] rfl) he
  replace he := if_go he h1
  refine lv_aload_n (pc := 10) hx hb d_C_afterPcIdle_10 rfl (lv_at hl 0 rfl) ?_
  refine GC_registers (pc := 11) X hC d_C_afterPcIdle_11 ?_
  refine lv_aload_n (pc := 14) hx hb d_C_afterPcIdle_14 rfl (lv_at hl 0 rfl) ?_
  refine GC_operation (pc := 15) X hC d_C_afterPcIdle_15 ?_
  refine callVN (q0 := 3) (pc := 18) (As := [.int (st.1 7)]) (rest := []) X (k_R_operateAlone l g rt o st (st.1 7)) hC (NC_R_operateAlone_384 X rfl rfl ⟨by decide, by decide⟩) rfl rfl rfl hl.1 (Nat.le_of_ble_eq_true rfl) rfl d_C_afterPcIdle_18 ⟨Nat.zero_le _, Nat.zero_le _⟩ (fun st3 H locs est3 hC => ?_)
  replace he := bS_go he est3
  refine lv_aload_n (pc := 21) hx hb d_C_afterPcIdle_21 rfl (lv_at hl 0 rfl) ?_
  refine callVO (q0 := 0) (pc := 22) (As := []) (rest := []) X (k_C_end l g rt o st3 ) hC (NC_C_end_161 X rfl rfl ⟨by decide, by decide⟩) rfl rfl rfl hl.1 (Nat.le_of_ble_eq_true rfl) rfl d_C_afterPcIdle_22 ⟨Nat.zero_le _, Nat.zero_le _⟩ (fun st4 H locs est4 hC => ?_)
  replace he := bS_go he est4
  refine lv_goto (pc := 25) (tgt := 51) hx hb d_C_afterPcIdle_25 (by decide) ?_
  exact B51 _ _ _ st4   hC (lv_sub hl [] rfl) he
def f_C_stepAfterStackIdle_51 (st : CS) (s0 : Fin 35) : Fin 35 × CS := (s0, st)
def f_C_stepAfterStackIdle (st : CS)  : Fin 35 × CS := if (swK (st.2.2.1)) = 6 then (f_C_stepAfterStackIdle_51 st (21 : Fin 35)) else (if (swK (st.2.2.1)) = 9 then (f_C_stepAfterStackIdle_51 st (25 : Fin 35)) else (f_C_stepAfterStackIdle_51 st (24 : Fin 35)))
abbrev rm_C_stepAfterStackIdle : Room := { frames := 1, cells := 0, slots := 0, locals := 20 }
set_option maxHeartbeats 4000000 in
set_option maxRecDepth 100000 in
theorem k_C_stepAfterStackIdle (l : Launch) (g : CG) (rt : MS) (o : Nat → Int64) (st : CS)  : KE g.adS 35 l g y_C_stepAfterStackIdle (Cond.code y_C_stepAfterStackIdle c_C_stepAfterStackIdle 1 (some (.object "ClockedChip$Step")) :: ALL) rm_C_stepAfterStackIdle [.ref (g.chip)] (wC g rt o) st (f_C_stepAfterStackIdle st ) := by
  refine KE.ofW (by decide) (Nat.le_of_ble_eq_true rfl) ?_
  intro p e s m args below meth c A Q ls Rv X he RET hC hl
  obtain ⟨hx, hb⟩ := FX_xb X
  have hl : lv_has ls 1 [(0, .ref (g.chip))] := hl
  have B51 : ∀ (H : Heap) (locs : List Loc) (ls : Array Slot) (st : CS) (s0 : Fin 35), HC g A s (wC g rt o st) H locs → lv_has ls 1 [] → f_C_stepAfterStackIdle_51 st s0 = Rv → W p l e rm_C_stepAfterStackIdle s m args below meth c H locs 0 0 Q (F0 m 51 ls [.ref (g.adS (s0).val)]) := by
    intro H locs ls st s0  hC hl he
    unfold f_C_stepAfterStackIdle_51 at he
    exact RET (pc := 51) d_C_stepAfterStackIdle_51 hC he
  unfold f_C_stepAfterStackIdle at he
  refine SC_mapK (pc := 0) X hC d_C_stepAfterStackIdle_0 ?_
  refine lv_aload_n (pc := 3) hx hb d_C_stepAfterStackIdle_3 rfl (lv_at hl 0 rfl) ?_
  refine GC_kind (pc := 4) X hC d_C_stepAfterStackIdle_4 ?_
  refine OC_knd (pc := 7) (k := st.2.2.1) (rest := [.ref (g.mapK)]) X hC hl.1 (Nat.le_of_ble_eq_true rfl) ⟨by decide, by decide⟩ ⟨Nat.zero_le _, Nat.zero_le _⟩ d_C_stepAfterStackIdle_7 ?_
  refine AmapK (pc := 10) (k := st.2.2.1) X hC d_C_stepAfterStackIdle_10 ?_
  by_cases h1 : (swK (st.2.2.1)) = 6
  · replace he := if_go he h1
    refine lv_lookup (pc := 11) (tgt := 36) (off := 25) hx hb d_C_stepAfterStackIdle_11 (by decide) (by rw [h1]; try rfl) (by decide) ?_
    refine SC_stp_PUSH_PAGE (pc := 36) X hC d_C_stepAfterStackIdle_36 ?_
    refine lv_goto (pc := 39) (tgt := 51) hx hb d_C_stepAfterStackIdle_39 (by decide) ?_
    exact B51 _ _ _ st (21 : Fin 35)  hC (lv_sub hl [] rfl) he
  replace he := if_no he h1
  by_cases h2 : (swK (st.2.2.1)) = 9
  · replace he := if_go he h2
    refine lv_lookup (pc := 11) (tgt := 42) (off := 31) hx hb d_C_stepAfterStackIdle_11 (by decide) (by rw [h2]; try rfl) (by decide) ?_
    refine SC_stp_PULL_LOW (pc := 42) X hC d_C_stepAfterStackIdle_42 ?_
    refine lv_goto (pc := 45) (tgt := 51) hx hb d_C_stepAfterStackIdle_45 (by decide) ?_
    exact B51 _ _ _ st (25 : Fin 35)  hC (lv_sub hl [] rfl) he
  replace he := if_no he h2
  refine lv_lookup (pc := 11) (tgt := 48) (off := 37) hx hb d_C_stepAfterStackIdle_11 (by decide) (by show Op.lookupswitch.offset [(6, 25), (9, 31)] _ _ = _; rw [lv_osw h1 (by decide), lv_osw h2 (by decide)]; try rfl) (by decide) ?_
  refine SC_stp_PULL_BYTE (pc := 48) X hC d_C_stepAfterStackIdle_48 ?_
  exact B51 _ _ _ st (24 : Fin 35)  hC (lv_sub hl [] rfl) he
def f_C_afterPullByte_62 (st : CS)  : CS := bS (f_C_end st ) (fun st8 => st8)
def f_C_afterPullByte (st : CS) (v1 : Int32) : CS := bS (f_R_moveStack st 1) (fun st1 => if st1.2.2.1 = (10 : Fin 16) then (bS (f_R_takeFlags st1 v1) (fun st6 => bS (sS st6 (25 : Fin 35)) (fun st7 => st7))) else (if (st1.1 7) = 17 then (bS (f_R_loadA st1 v1) (fun st5 => f_C_afterPullByte_62 st5 )) else (bS (f_R_takeFlags st1 v1) (fun st4 => f_C_afterPullByte_62 st4 ))))
abbrev rm_C_afterPullByte : Room := { frames := 2, cells := 0, slots := 0, locals := 43 }
set_option maxHeartbeats 4000000 in
set_option maxRecDepth 100000 in
theorem k_C_afterPullByte (l : Launch) (g : CG) (rt : MS) (o : Nat → Int64) (st : CS) (v1 : Int32) : KV l g y_C_afterPullByte (Cond.code y_C_afterPullByte c_C_afterPullByte 2 none :: ALL) rm_C_afterPullByte [.ref (g.chip), .int v1] (wC g rt o) st (f_C_afterPullByte st v1) := by
  refine KV.ofW (by decide) (Nat.le_of_ble_eq_true rfl) ?_
  intro p e s m args below meth c A Q ls Rv X he RET hC hl
  obtain ⟨hx, hb⟩ := FX_xb X
  have hl : lv_has ls 2 [(0, .ref (g.chip)), (1, .int v1)] := hl
  have B62 : ∀ (H : Heap) (locs : List Loc) (ls : Array Slot) (st : CS) , HC g A s (wC g rt o st) H locs → lv_has ls 2 [(0, .ref (g.chip))] → f_C_afterPullByte_62 st  = Rv → W p l e rm_C_afterPullByte s m args below meth c H locs 0 0 Q (F0 m 62 ls []) := by
    intro H locs ls st   hC hl he
    unfold f_C_afterPullByte_62 at he
    refine lv_aload_n (pc := 62) hx hb d_C_afterPullByte_62 rfl (lv_at hl 0 rfl) ?_
    refine callVO (q0 := 0) (pc := 63) (As := []) (rest := []) X (k_C_end l g rt o st ) hC (NC_C_end_161 X rfl rfl ⟨by decide, by decide⟩) rfl rfl rfl hl.1 (Nat.le_of_ble_eq_true rfl) rfl d_C_afterPullByte_63 ⟨Nat.zero_le _, Nat.zero_le _⟩ (fun st8 H locs est8 hC => ?_)
    replace he := bS_go he est8
    exact RET (pc := 66) d_C_afterPullByte_66 hC he
  unfold f_C_afterPullByte at he
  refine lv_aload_n (pc := 0) hx hb d_C_afterPullByte_0 rfl (lv_at hl 0 rfl) ?_
  refine GC_registers (pc := 1) X hC d_C_afterPullByte_1 ?_
  refine lv_iconst (pc := 4) (v := 1) hx hb d_C_afterPullByte_4 (by decide) ?_
  refine callVN (q0 := 3) (pc := 5) (As := [.int 1]) (rest := []) X (k_R_moveStack l g rt o st 1) hC (NC_R_moveStack_164 X rfl rfl ⟨by decide, by decide⟩) rfl rfl rfl hl.1 (Nat.le_of_ble_eq_true rfl) rfl d_C_afterPullByte_5 ⟨Nat.zero_le _, Nat.zero_le _⟩ (fun st1 H locs est1 hC => ?_)
  replace he := bS_go he est1
  refine lv_aload_n (pc := 8) hx hb d_C_afterPullByte_8 rfl (lv_at hl 0 rfl) ?_
  refine GC_kind (pc := 9) X hC d_C_afterPullByte_9 ?_
  refine SC_knd_RETURN_FROM_INTERRUPT (pc := 12) X hC d_C_afterPullByte_12 ?_
  refine acK_ne (pc := 15) (tgt := 34) (i := st1.2.2.1) (j := (10 : Fin 16)) X d_C_afterPullByte_15 (by decide) (fun h2 => ?_) (fun h2 => ?_)
  · replace he := if_no he h2
    refine lv_aload_n (pc := 34) hx hb d_C_afterPullByte_34 rfl (lv_at hl 0 rfl) ?_
    refine GC_operation (pc := 35) X hC d_C_afterPullByte_35 ?_
    refine lv_bipush (pc := 38) (v := 17) hx hb d_C_afterPullByte_38 (by decide) ?_
    refine lv_icmp_ne (pc := 40) (tgt := 54) hx hb d_C_afterPullByte_40 (by decide) (fun h3 => ?_) (fun h3 => ?_)
    · replace he := if_no he h3
      refine lv_aload_n (pc := 54) hx hb d_C_afterPullByte_54 rfl (lv_at hl 0 rfl) ?_
      refine GC_registers (pc := 55) X hC d_C_afterPullByte_55 ?_
      refine lv_iload_n (pc := 58) hx hb d_C_afterPullByte_58 rfl (lv_at hl 1 rfl) ?_
      refine callVN (q0 := 3) (pc := 59) (As := [.int v1]) (rest := []) X (k_R_takeFlags l g rt o st1 v1) hC (NC_R_takeFlags_102 X rfl rfl ⟨by decide, by decide⟩) rfl rfl rfl hl.1 (Nat.le_of_ble_eq_true rfl) rfl d_C_afterPullByte_59 ⟨Nat.zero_le _, Nat.zero_le _⟩ (fun st4 H locs est4 hC => ?_)
      replace he := bS_go he est4
      exact B62 _ _ _ st4   hC (lv_sub hl [0] rfl) he
    replace he := if_go he h3
    refine lv_aload_n (pc := 43) hx hb d_C_afterPullByte_43 rfl (lv_at hl 0 rfl) ?_
    refine GC_registers (pc := 44) X hC d_C_afterPullByte_44 ?_
    refine lv_iload_n (pc := 47) hx hb d_C_afterPullByte_47 rfl (lv_at hl 1 rfl) ?_
    refine callVN (q0 := 3) (pc := 48) (As := [.int v1]) (rest := []) X (k_R_loadA l g rt o st1 v1) hC (NC_R_loadA_396 X rfl rfl ⟨by decide, by decide⟩) rfl rfl rfl hl.1 (Nat.le_of_ble_eq_true rfl) rfl d_C_afterPullByte_48 ⟨Nat.zero_le _, Nat.zero_le _⟩ (fun st5 H locs est5 hC => ?_)
    replace he := bS_go he est5
    refine lv_goto (pc := 51) (tgt := 62) hx hb d_C_afterPullByte_51 (by decide) ?_
    exact B62 _ _ _ st5   hC (lv_sub hl [0] rfl) he
  replace he := if_go he h2
  refine lv_aload_n (pc := 18) hx hb d_C_afterPullByte_18 rfl (lv_at hl 0 rfl) ?_
  refine GC_registers (pc := 19) X hC d_C_afterPullByte_19 ?_
  refine lv_iload_n (pc := 22) hx hb d_C_afterPullByte_22 rfl (lv_at hl 1 rfl) ?_
  refine callVN (q0 := 3) (pc := 23) (As := [.int v1]) (rest := []) X (k_R_takeFlags l g rt o st1 v1) hC (NC_R_takeFlags_102 X rfl rfl ⟨by decide, by decide⟩) rfl rfl rfl hl.1 (Nat.le_of_ble_eq_true rfl) rfl d_C_afterPullByte_23 ⟨Nat.zero_le _, Nat.zero_le _⟩ (fun st6 H locs est6 hC => ?_)
  replace he := bS_go he est6
  refine lv_aload_n (pc := 26) hx hb d_C_afterPullByte_26 rfl (lv_at hl 0 rfl) ?_
  refine SC_stp_PULL_LOW (pc := 27) X hC d_C_afterPullByte_27 ?_
  refine PC_step (pc := 30) X hC d_C_afterPullByte_30 (fun st7 H locs est7 hC => ?_)
  replace he := bS_go he est7
  exact RET (pc := 33) d_C_afterPullByte_33 hC he
def f_C_afterPullLow (st : CS) (v1 : Int32) : CS := bS (f_R_moveStack st 1) (fun st1 => bS (sV st1 13 v1) (fun st2 => bS (sS st2 (26 : Fin 35)) (fun st3 => st3)))
abbrev rm_C_afterPullLow : Room := { frames := 1, cells := 0, slots := 0, locals := 21 }
set_option maxHeartbeats 4000000 in
set_option maxRecDepth 100000 in
theorem k_C_afterPullLow (l : Launch) (g : CG) (rt : MS) (o : Nat → Int64) (st : CS) (v1 : Int32) : KV l g y_C_afterPullLow (Cond.code y_C_afterPullLow c_C_afterPullLow 2 none :: ALL) rm_C_afterPullLow [.ref (g.chip), .int v1] (wC g rt o) st (f_C_afterPullLow st v1) := by
  refine KV.ofW (by decide) (Nat.le_of_ble_eq_true rfl) ?_
  intro p e s m args below meth c A Q ls Rv X he RET hC hl
  obtain ⟨hx, hb⟩ := FX_xb X
  have hl : lv_has ls 2 [(0, .ref (g.chip)), (1, .int v1)] := hl
  unfold f_C_afterPullLow at he
  refine lv_aload_n (pc := 0) hx hb d_C_afterPullLow_0 rfl (lv_at hl 0 rfl) ?_
  refine GC_registers (pc := 1) X hC d_C_afterPullLow_1 ?_
  refine lv_iconst (pc := 4) (v := 1) hx hb d_C_afterPullLow_4 (by decide) ?_
  refine callVN (q0 := 3) (pc := 5) (As := [.int 1]) (rest := []) X (k_R_moveStack l g rt o st 1) hC (NC_R_moveStack_164 X rfl rfl ⟨by decide, by decide⟩) rfl rfl rfl hl.1 (Nat.le_of_ble_eq_true rfl) rfl d_C_afterPullLow_5 ⟨Nat.zero_le _, Nat.zero_le _⟩ (fun st1 H locs est1 hC => ?_)
  replace he := bS_go he est1
  refine lv_aload_n (pc := 8) hx hb d_C_afterPullLow_8 rfl (lv_at hl 0 rfl) ?_
  refine lv_iload_n (pc := 9) hx hb d_C_afterPullLow_9 rfl (lv_at hl 1 rfl) ?_
  refine PC_held (pc := 10) X hC d_C_afterPullLow_10 (fun st2 H locs est2 hC => ?_)
  replace he := bS_go he est2
  refine lv_aload_n (pc := 13) hx hb d_C_afterPullLow_13 rfl (lv_at hl 0 rfl) ?_
  refine SC_stp_PULL_PAGE (pc := 14) X hC d_C_afterPullLow_14 ?_
  refine PC_step (pc := 17) X hC d_C_afterPullLow_17 (fun st3 H locs est3 hC => ?_)
  replace he := bS_go he est3
  exact RET (pc := 20) d_C_afterPullLow_20 hC he
def f_C_afterPullPage_49 (st : CS)  : CS := st
def f_C_afterPullPage (st : CS) (v1 : Int32) : CS := bS (f_R_moveStack st 1) (fun st1 => bS (sV st1 4 ((st1.1 13) + (256 * v1))) (fun st2 => if st2.2.2.1 = (9 : Fin 16) then (bS (sS st2 (27 : Fin 35)) (fun st5 => f_C_afterPullPage_49 st5 )) else (bS (f_C_end st2 ) (fun st4 => f_C_afterPullPage_49 st4 ))))
abbrev rm_C_afterPullPage : Room := { frames := 2, cells := 0, slots := 0, locals := 43 }
set_option maxHeartbeats 4000000 in
set_option maxRecDepth 100000 in
theorem k_C_afterPullPage (l : Launch) (g : CG) (rt : MS) (o : Nat → Int64) (st : CS) (v1 : Int32) : KV l g y_C_afterPullPage (Cond.code y_C_afterPullPage c_C_afterPullPage 2 none :: ALL) rm_C_afterPullPage [.ref (g.chip), .int v1] (wC g rt o) st (f_C_afterPullPage st v1) := by
  refine KV.ofW (by decide) (Nat.le_of_ble_eq_true rfl) ?_
  intro p e s m args below meth c A Q ls Rv X he RET hC hl
  obtain ⟨hx, hb⟩ := FX_xb X
  have hl : lv_has ls 2 [(0, .ref (g.chip)), (1, .int v1)] := hl
  have B49 : ∀ (H : Heap) (locs : List Loc) (ls : Array Slot) (st : CS) , HC g A s (wC g rt o st) H locs → lv_has ls 2 [] → f_C_afterPullPage_49 st  = Rv → W p l e rm_C_afterPullPage s m args below meth c H locs 0 0 Q (F0 m 49 ls []) := by
    intro H locs ls st   hC hl he
    unfold f_C_afterPullPage_49 at he
    exact RET (pc := 49) d_C_afterPullPage_49 hC he
  unfold f_C_afterPullPage at he
  refine lv_aload_n (pc := 0) hx hb d_C_afterPullPage_0 rfl (lv_at hl 0 rfl) ?_
  refine GC_registers (pc := 1) X hC d_C_afterPullPage_1 ?_
  refine lv_iconst (pc := 4) (v := 1) hx hb d_C_afterPullPage_4 (by decide) ?_
  refine callVN (q0 := 3) (pc := 5) (As := [.int 1]) (rest := []) X (k_R_moveStack l g rt o st 1) hC (NC_R_moveStack_164 X rfl rfl ⟨by decide, by decide⟩) rfl rfl rfl hl.1 (Nat.le_of_ble_eq_true rfl) rfl d_C_afterPullPage_5 ⟨Nat.zero_le _, Nat.zero_le _⟩ (fun st1 H locs est1 hC => ?_)
  replace he := bS_go he est1
  refine lv_aload_n (pc := 8) hx hb d_C_afterPullPage_8 rfl (lv_at hl 0 rfl) ?_
  refine GC_registers (pc := 9) X hC d_C_afterPullPage_9 ?_
  refine lv_aload_n (pc := 12) hx hb d_C_afterPullPage_12 rfl (lv_at hl 0 rfl) ?_
  refine GC_held (pc := 13) X hC d_C_afterPullPage_13 ?_
  refine lv_sipush (pc := 16) (v := 256) hx hb d_C_afterPullPage_16 (by decide) ?_
  refine lv_iload_n (pc := 19) hx hb d_C_afterPullPage_19 rfl (lv_at hl 1 rfl) ?_
  refine lv_imul (pc := 20) hx hb d_C_afterPullPage_20 ?_
  refine lv_iadd (pc := 21) hx hb d_C_afterPullPage_21 ?_
  refine PCR_pc (pc := 22) X hC d_C_afterPullPage_22 (fun st2 H locs est2 hC => ?_)
  replace he := bS_go he est2
  refine lv_aload_n (pc := 25) hx hb d_C_afterPullPage_25 rfl (lv_at hl 0 rfl) ?_
  refine GC_kind (pc := 26) X hC d_C_afterPullPage_26 ?_
  refine SC_knd_RETURN (pc := 29) X hC d_C_afterPullPage_29 ?_
  refine acK_ne (pc := 32) (tgt := 45) (i := st2.2.2.1) (j := (9 : Fin 16)) X d_C_afterPullPage_32 (by decide) (fun h3 => ?_) (fun h3 => ?_)
  · replace he := if_no he h3
    refine lv_aload_n (pc := 45) hx hb d_C_afterPullPage_45 rfl (lv_at hl 0 rfl) ?_
    refine callVO (q0 := 0) (pc := 46) (As := []) (rest := []) X (k_C_end l g rt o st2 ) hC (NC_C_end_161 X rfl rfl ⟨by decide, by decide⟩) rfl rfl rfl hl.1 (Nat.le_of_ble_eq_true rfl) rfl d_C_afterPullPage_46 ⟨Nat.zero_le _, Nat.zero_le _⟩ (fun st4 H locs est4 hC => ?_)
    replace he := bS_go he est4
    exact B49 _ _ _ st4   hC (lv_sub hl [] rfl) he
  replace he := if_go he h3
  refine lv_aload_n (pc := 35) hx hb d_C_afterPullPage_35 rfl (lv_at hl 0 rfl) ?_
  refine SC_stp_RETURN_IDLE (pc := 36) X hC d_C_afterPullPage_36 ?_
  refine PC_step (pc := 39) X hC d_C_afterPullPage_39 (fun st5 H locs est5 hC => ?_)
  replace he := bS_go he est5
  refine lv_goto (pc := 42) (tgt := 49) hx hb d_C_afterPullPage_42 (by decide) ?_
  exact B49 _ _ _ st5   hC (lv_sub hl [] rfl) he
def f_C_afterVectorLow (st : CS) (v1 : Int32) : CS := bS (sV st 13 v1) (fun st1 => bP (f_C_addressOfStep st1 ) (fun r3 st2 => bS (sV st2 11 (r3 + 1)) (fun st4 => bS (sV st4 6 0) (fun st5 => bS (sS st5 (30 : Fin 35)) (fun st6 => st6)))))
abbrev rm_C_afterVectorLow : Room := { frames := 1, cells := 0, slots := 0, locals := 20 }
set_option maxHeartbeats 4000000 in
set_option maxRecDepth 100000 in
theorem k_C_afterVectorLow (l : Launch) (g : CG) (rt : MS) (o : Nat → Int64) (st : CS) (v1 : Int32) : KV l g y_C_afterVectorLow (Cond.code y_C_afterVectorLow c_C_afterVectorLow 2 none :: ALL) rm_C_afterVectorLow [.ref (g.chip), .int v1] (wC g rt o) st (f_C_afterVectorLow st v1) := by
  refine KV.ofW (by decide) (Nat.le_of_ble_eq_true rfl) ?_
  intro p e s m args below meth c A Q ls Rv X he RET hC hl
  obtain ⟨hx, hb⟩ := FX_xb X
  have hl : lv_has ls 2 [(0, .ref (g.chip)), (1, .int v1)] := hl
  unfold f_C_afterVectorLow at he
  refine lv_aload_n (pc := 0) hx hb d_C_afterVectorLow_0 rfl (lv_at hl 0 rfl) ?_
  refine lv_iload_n (pc := 1) hx hb d_C_afterVectorLow_1 rfl (lv_at hl 1 rfl) ?_
  refine PC_held (pc := 2) X hC d_C_afterVectorLow_2 (fun st1 H locs est1 hC => ?_)
  replace he := bS_go he est1
  refine lv_aload_n (pc := 5) hx hb d_C_afterVectorLow_5 rfl (lv_at hl 0 rfl) ?_
  refine lv_aload_n (pc := 6) hx hb d_C_afterVectorLow_6 rfl (lv_at hl 0 rfl) ?_
  refine callIO (q0 := 0) (pc := 7) (As := []) (rest := [.ref (g.chip)]) X (k_C_addressOfStep l g rt o st1 ) hC (NC_C_addressOfStep_109 X rfl rfl ⟨by decide, by decide⟩) rfl rfl rfl hl.1 (Nat.le_of_ble_eq_true rfl) rfl d_C_afterVectorLow_7 ⟨Nat.zero_le _, Nat.zero_le _⟩ (fun r3 st2 H locs est2 hC => ?_)
  replace he := bP_go he est2
  refine lv_iconst (pc := 10) (v := 1) hx hb d_C_afterVectorLow_10 (by decide) ?_
  refine lv_iadd (pc := 11) hx hb d_C_afterVectorLow_11 ?_
  refine PC_aim (pc := 12) X hC d_C_afterVectorLow_12 (fun st4 H locs est4 hC => ?_)
  replace he := bS_go he est4
  refine lv_aload_n (pc := 15) hx hb d_C_afterVectorLow_15 rfl (lv_at hl 0 rfl) ?_
  refine lv_iconst (pc := 16) (v := 0) hx hb d_C_afterVectorLow_16 (by decide) ?_
  refine PC_nmiWanted (pc := 17) X hC b0 d_C_afterVectorLow_17 (fun st5 H locs est5 hC => ?_)
  replace he := bS_go he est5
  refine lv_aload_n (pc := 20) hx hb d_C_afterVectorLow_20 rfl (lv_at hl 0 rfl) ?_
  refine SC_stp_VECTOR_PAGE (pc := 21) X hC d_C_afterVectorLow_21 ?_
  refine PC_step (pc := 24) X hC d_C_afterVectorLow_24 (fun st6 H locs est6 hC => ?_)
  replace he := bS_go he est6
  exact RET (pc := 27) d_C_afterVectorLow_27 hC he
end
section
/-! contracts of methods (printed by my own program: pure pictures and walks) -/
def f_C_afterResetStack_26 (st : CS) (s0 : Fin 35) : CS := bS (sS st s0) (fun st3 => st3)
def f_C_afterResetStack (st : CS)  : CS := bS (f_R_moveStack st (-1)) (fun st1 => if 5 ≤ (st1.1 9) then (f_C_afterResetStack_26 st1 (33 : Fin 35)) else (f_C_afterResetStack_26 st1 (32 : Fin 35)))
abbrev rm_C_afterResetStack : Room := { frames := 1, cells := 0, slots := 0, locals := 21 }
set_option maxHeartbeats 4000000 in
set_option maxRecDepth 100000 in
theorem k_C_afterResetStack (l : Launch) (g : CG) (rt : MS) (o : Nat → Int64) (st : CS)  : KV l g y_C_afterResetStack (Cond.code y_C_afterResetStack c_C_afterResetStack 1 none :: ALL) rm_C_afterResetStack [.ref (g.chip)] (wC g rt o) st (f_C_afterResetStack st ) := by
  refine KV.ofW (by decide) (Nat.le_of_ble_eq_true rfl) ?_
  intro p e s m args below meth c A Q ls Rv X he RET hC hl
  obtain ⟨hx, hb⟩ := FX_xb X
  have hl : lv_has ls 1 [(0, .ref (g.chip))] := hl
  have B26 : ∀ (H : Heap) (locs : List Loc) (ls : Array Slot) (st : CS) (s0 : Fin 35), HC g A s (wC g rt o st) H locs → lv_has ls 1 [] → f_C_afterResetStack_26 st s0 = Rv → W p l e rm_C_afterResetStack s m args below meth c H locs 0 0 Q (F0 m 26 ls [.ref (g.adS (s0).val), .ref (g.chip)]) := by
    intro H locs ls st s0  hC hl he
    unfold f_C_afterResetStack_26 at he
    refine PC_step (pc := 26) X hC d_C_afterResetStack_26 (fun st3 H locs est3 hC => ?_)
    replace he := bS_go he est3
    exact RET (pc := 29) d_C_afterResetStack_29 hC he
  unfold f_C_afterResetStack at he
  refine lv_aload_n (pc := 0) hx hb d_C_afterResetStack_0 rfl (lv_at hl 0 rfl) ?_
  refine GC_registers (pc := 1) X hC d_C_afterResetStack_1 ?_
  refine lv_iconst (pc := 4) (v := (-1)) hx hb d_C_afterResetStack_4 (by decide) ?_
  refine callVN (q0 := 3) (pc := 5) (As := [.int (-1)]) (rest := []) X (k_R_moveStack l g rt o st (-1)) hC (NC_R_moveStack_164 X rfl rfl ⟨by decide, by decide⟩) rfl rfl rfl hl.1 (Nat.le_of_ble_eq_true rfl) rfl d_C_afterResetStack_5 ⟨Nat.zero_le _, Nat.zero_le _⟩ (fun st1 H locs est1 hC => ?_)
  replace he := bS_go he est1
  refine lv_aload_n (pc := 8) hx hb d_C_afterResetStack_8 rfl (lv_at hl 0 rfl) ?_
  refine lv_aload_n (pc := 9) hx hb d_C_afterResetStack_9 rfl (lv_at hl 0 rfl) ?_
  refine GC_done (pc := 10) X hC d_C_afterResetStack_10 ?_
  refine lv_iconst (pc := 13) (v := 5) hx hb d_C_afterResetStack_13 (by decide) ?_
  refine lv_icmp_ge (pc := 14) (tgt := 23) hx hb d_C_afterResetStack_14 (by decide) (fun h2 => ?_) (fun h2 => ?_)
  · replace he := if_go he h2
    refine SC_stp_RESET_LOW (pc := 23) X hC d_C_afterResetStack_23 ?_
    exact B26 _ _ _ st1 (33 : Fin 35)  hC (lv_sub hl [] rfl) he
  replace he := if_no he h2
  refine SC_stp_RESET_STACK (pc := 17) X hC d_C_afterResetStack_17 ?_
  refine lv_goto (pc := 20) (tgt := 26) hx hb d_C_afterResetStack_20 (by decide) ?_
  exact B26 _ _ _ st1 (32 : Fin 35)  hC (lv_sub hl [] rfl) he
def f_C_afterResetLow (st : CS) (v1 : Int32) : CS := bS (f_R_put st 4 1) (fun st1 => bS (sV st1 13 v1) (fun st2 => bS (sV st2 11 65533) (fun st3 => bS (sS st3 (30 : Fin 35)) (fun st4 => st4))))
abbrev rm_C_afterResetLow : Room := { frames := 1, cells := 0, slots := 0, locals := 22 }
set_option maxHeartbeats 4000000 in
set_option maxRecDepth 100000 in
theorem k_C_afterResetLow (l : Launch) (g : CG) (rt : MS) (o : Nat → Int64) (st : CS) (v1 : Int32) : KV l g y_C_afterResetLow (Cond.code y_C_afterResetLow c_C_afterResetLow 2 none :: ALL) rm_C_afterResetLow [.ref (g.chip), .int v1] (wC g rt o) st (f_C_afterResetLow st v1) := by
  refine KV.ofW (by decide) (Nat.le_of_ble_eq_true rfl) ?_
  intro p e s m args below meth c A Q ls Rv X he RET hC hl
  obtain ⟨hx, hb⟩ := FX_xb X
  have hl : lv_has ls 2 [(0, .ref (g.chip)), (1, .int v1)] := hl
  unfold f_C_afterResetLow at he
  refine lv_aload_n (pc := 0) hx hb d_C_afterResetLow_0 rfl (lv_at hl 0 rfl) ?_
  refine GC_registers (pc := 1) X hC d_C_afterResetLow_1 ?_
  refine lv_iconst (pc := 4) (v := 4) hx hb d_C_afterResetLow_4 (by decide) ?_
  refine lv_iconst (pc := 5) (v := 1) hx hb d_C_afterResetLow_5 (by decide) ?_
  refine callVN (q0 := 3) (pc := 6) (As := [.int 4, .int 1]) (rest := []) X (k_R_put l g rt o st 4 1) hC (NC_R_put_105 X rfl rfl ⟨by decide, by decide⟩) rfl rfl rfl hl.1 (Nat.le_of_ble_eq_true rfl) rfl d_C_afterResetLow_6 ⟨Nat.zero_le _, Nat.zero_le _⟩ (fun st1 H locs est1 hC => ?_)
  replace he := bS_go he est1
  refine lv_aload_n (pc := 9) hx hb d_C_afterResetLow_9 rfl (lv_at hl 0 rfl) ?_
  refine lv_iload_n (pc := 10) hx hb d_C_afterResetLow_10 rfl (lv_at hl 1 rfl) ?_
  refine PC_held (pc := 11) X hC d_C_afterResetLow_11 (fun st2 H locs est2 hC => ?_)
  replace he := bS_go he est2
  refine lv_aload_n (pc := 14) hx hb d_C_afterResetLow_14 rfl (lv_at hl 0 rfl) ?_
  refine LC_411 (pc := 15) X d_C_afterResetLow_15 ?_
  refine PC_aim (pc := 18) X hC d_C_afterResetLow_18 (fun st3 H locs est3 hC => ?_)
  replace he := bS_go he est3
  refine lv_aload_n (pc := 21) hx hb d_C_afterResetLow_21 rfl (lv_at hl 0 rfl) ?_
  refine SC_stp_VECTOR_PAGE (pc := 22) X hC d_C_afterResetLow_22 ?_
  refine PC_step (pc := 25) X hC d_C_afterResetLow_25 (fun st4 H locs est4 hC => ?_)
  replace he := bS_go he est4
  exact RET (pc := 28) d_C_afterResetLow_28 hC he
def f_C_afterStackOrVectorRead_200 (st : CS)  : CS := st
def f_C_afterStackOrVectorRead_182 (st : CS) (s0 : Fin 35) : CS := bS (sS st s0) (fun st25 => f_C_afterStackOrVectorRead_200 st25 )
def f_C_afterStackOrVectorRead_133 (st : CS) (s0 : Fin 35) : CS := bS (sS st s0) (fun st24 => f_C_afterStackOrVectorRead_200 st24 )
def f_C_afterStackOrVectorRead (st : CS) (v1 : Int32) : CS := if (swS (st.2.1)) = 25 then (bP (f_C_stepAfterStackIdle st ) (fun r3 st2 => bS (sS st2 r3) (fun st4 => f_C_afterStackOrVectorRead_200 st4 ))) else (if (swS (st.2.1)) = 26 then (bS (f_C_afterPullByte st v1) (fun st6 => f_C_afterStackOrVectorRead_200 st6 )) else (if (swS (st.2.1)) = 27 then (bS (f_C_afterPullLow st v1) (fun st8 => f_C_afterStackOrVectorRead_200 st8 )) else (if (swS (st.2.1)) = 28 then (bS (f_C_afterPullPage st v1) (fun st10 => f_C_afterStackOrVectorRead_200 st10 )) else (if (swS (st.2.1)) = 29 then (bS (f_C_goTo st ((st.1 4) + 1)) (fun st12 => f_C_afterStackOrVectorRead_200 st12 )) else (if (swS (st.2.1)) = 30 then (if 2 ≤ (st.1 9) then (f_C_afterStackOrVectorRead_133 st (21 : Fin 35)) else (f_C_afterStackOrVectorRead_133 st (28 : Fin 35))) else (if (swS (st.2.1)) = 31 then (bS (f_C_afterVectorLow st v1) (fun st16 => f_C_afterStackOrVectorRead_200 st16 )) else (if (swS (st.2.1)) = 32 then (bS (f_C_goTo st ((st.1 13) + (256 * v1))) (fun st18 => f_C_afterStackOrVectorRead_200 st18 )) else (if (swS (st.2.1)) = 33 then (if 2 ≤ (st.1 9) then (f_C_afterStackOrVectorRead_182 st (32 : Fin 35)) else (f_C_afterStackOrVectorRead_182 st (31 : Fin 35))) else (if (swS (st.2.1)) = 34 then (bS (f_C_afterResetStack st ) (fun st22 => f_C_afterStackOrVectorRead_200 st22 )) else (bS (f_C_afterResetLow st v1) (fun st23 => f_C_afterStackOrVectorRead_200 st23 )))))))))))
abbrev rm_C_afterStackOrVectorRead : Room := { frames := 3, cells := 0, slots := 0, locals := 64 }
set_option maxHeartbeats 4000000 in
set_option maxRecDepth 100000 in
theorem k_C_afterStackOrVectorRead (l : Launch) (g : CG) (rt : MS) (o : Nat → Int64) (st : CS) (v1 : Int32) : KV l g y_C_afterStackOrVectorRead (Cond.code y_C_afterStackOrVectorRead c_C_afterStackOrVectorRead 2 none :: ALL) rm_C_afterStackOrVectorRead [.ref (g.chip), .int v1] (wC g rt o) st (f_C_afterStackOrVectorRead st v1) := by
  refine KV.ofW (by decide) (Nat.le_of_ble_eq_true rfl) ?_
  intro p e s m args below meth c A Q ls Rv X he RET hC hl
  obtain ⟨hx, hb⟩ := FX_xb X
  have hl : lv_has ls 2 [(0, .ref (g.chip)), (1, .int v1)] := hl
  have B200 : ∀ (H : Heap) (locs : List Loc) (ls : Array Slot) (st : CS) , HC g A s (wC g rt o st) H locs → lv_has ls 2 [] → f_C_afterStackOrVectorRead_200 st  = Rv → W p l e rm_C_afterStackOrVectorRead s m args below meth c H locs 0 0 Q (F0 m 200 ls []) := by
    intro H locs ls st   hC hl he
    unfold f_C_afterStackOrVectorRead_200 at he
    exact RET (pc := 200) d_C_afterStackOrVectorRead_200 hC he
  have B182 : ∀ (H : Heap) (locs : List Loc) (ls : Array Slot) (st : CS) (s0 : Fin 35), HC g A s (wC g rt o st) H locs → lv_has ls 2 [] → f_C_afterStackOrVectorRead_182 st s0 = Rv → W p l e rm_C_afterStackOrVectorRead s m args below meth c H locs 0 0 Q (F0 m 182 ls [.ref (g.adS (s0).val), .ref (g.chip)]) := by
    intro H locs ls st s0  hC hl he
    unfold f_C_afterStackOrVectorRead_182 at he
    refine PC_step (pc := 182) X hC d_C_afterStackOrVectorRead_182 (fun st25 H locs est25 hC => ?_)
    replace he := bS_go he est25
    refine lv_goto (pc := 185) (tgt := 200) hx hb d_C_afterStackOrVectorRead_185 (by decide) ?_
    exact B200 _ _ _ st25   hC (lv_sub hl [] rfl) he
  have B133 : ∀ (H : Heap) (locs : List Loc) (ls : Array Slot) (st : CS) (s0 : Fin 35), HC g A s (wC g rt o st) H locs → lv_has ls 2 [] → f_C_afterStackOrVectorRead_133 st s0 = Rv → W p l e rm_C_afterStackOrVectorRead s m args below meth c H locs 0 0 Q (F0 m 133 ls [.ref (g.adS (s0).val), .ref (g.chip)]) := by
    intro H locs ls st s0  hC hl he
    unfold f_C_afterStackOrVectorRead_133 at he
    refine PC_step (pc := 133) X hC d_C_afterStackOrVectorRead_133 (fun st24 H locs est24 hC => ?_)
    replace he := bS_go he est24
    refine lv_goto (pc := 136) (tgt := 200) hx hb d_C_afterStackOrVectorRead_136 (by decide) ?_
    exact B200 _ _ _ st24   hC (lv_sub hl [] rfl) he
  unfold f_C_afterStackOrVectorRead at he
  refine SC_mapS (pc := 0) X hC d_C_afterStackOrVectorRead_0 ?_
  refine lv_aload_n (pc := 3) hx hb d_C_afterStackOrVectorRead_3 rfl (lv_at hl 0 rfl) ?_
  refine GC_step (pc := 4) X hC d_C_afterStackOrVectorRead_4 ?_
  refine OC_stp (pc := 7) (k := st.2.1) (rest := [.ref (g.mapS)]) X hC hl.1 (Nat.le_of_ble_eq_true rfl) ⟨by decide, by decide⟩ ⟨Nat.zero_le _, Nat.zero_le _⟩ d_C_afterStackOrVectorRead_7 ?_
  refine AmapS (pc := 10) (k := st.2.1) X hC d_C_afterStackOrVectorRead_10 ?_
  by_cases h1 : (swS (st.2.1)) = 25
  · replace he := if_go he h1
    refine lv_tableIn (pc := 11) (tgt := 64) hx hb d_C_afterStackOrVectorRead_11 (by rw [h1]; decide) (by rw [h1]; decide) (by rw [h1]; rfl) (by decide) ?_
    refine lv_aload_n (pc := 64) hx hb d_C_afterStackOrVectorRead_64 rfl (lv_at hl 0 rfl) ?_
    refine lv_aload_n (pc := 65) hx hb d_C_afterStackOrVectorRead_65 rfl (lv_at hl 0 rfl) ?_
    refine callEO (q0 := 0) (pc := 66) (As := []) (rest := [.ref (g.chip)]) X (k_C_stepAfterStackIdle l g rt o st ) hC (NC_C_stepAfterStackIdle_236 X rfl rfl ⟨by decide, by decide⟩) rfl rfl rfl hl.1 (Nat.le_of_ble_eq_true rfl) rfl d_C_afterStackOrVectorRead_66 ⟨Nat.zero_le _, Nat.zero_le _⟩ (fun r3 st2 H locs est2 hC => ?_)
    replace he := bP_go he est2
    refine PC_step (pc := 69) X hC d_C_afterStackOrVectorRead_69 (fun st4 H locs est4 hC => ?_)
    replace he := bS_go he est4
    refine lv_goto (pc := 72) (tgt := 200) hx hb d_C_afterStackOrVectorRead_72 (by decide) ?_
    exact B200 _ _ _ st4   hC (lv_sub hl [] rfl) he
  replace he := if_no he h1
  by_cases h5 : (swS (st.2.1)) = 26
  · replace he := if_go he h5
    refine lv_tableIn (pc := 11) (tgt := 75) hx hb d_C_afterStackOrVectorRead_11 (by rw [h5]; decide) (by rw [h5]; decide) (by rw [h5]; rfl) (by decide) ?_
    refine lv_aload_n (pc := 75) hx hb d_C_afterStackOrVectorRead_75 rfl (lv_at hl 0 rfl) ?_
    refine lv_iload_n (pc := 76) hx hb d_C_afterStackOrVectorRead_76 rfl (lv_at hl 1 rfl) ?_
    refine callVO (q0 := 0) (pc := 77) (As := [.int v1]) (rest := []) X (k_C_afterPullByte l g rt o st v1) hC (NC_C_afterPullByte_240 X rfl rfl ⟨by decide, by decide⟩) rfl rfl rfl hl.1 (Nat.le_of_ble_eq_true rfl) rfl d_C_afterStackOrVectorRead_77 ⟨Nat.zero_le _, Nat.zero_le _⟩ (fun st6 H locs est6 hC => ?_)
    replace he := bS_go he est6
    refine lv_goto (pc := 80) (tgt := 200) hx hb d_C_afterStackOrVectorRead_80 (by decide) ?_
    exact B200 _ _ _ st6   hC (lv_sub hl [] rfl) he
  replace he := if_no he h5
  by_cases h7 : (swS (st.2.1)) = 27
  · replace he := if_go he h7
    refine lv_tableIn (pc := 11) (tgt := 83) hx hb d_C_afterStackOrVectorRead_11 (by rw [h7]; decide) (by rw [h7]; decide) (by rw [h7]; rfl) (by decide) ?_
    refine lv_aload_n (pc := 83) hx hb d_C_afterStackOrVectorRead_83 rfl (lv_at hl 0 rfl) ?_
    refine lv_iload_n (pc := 84) hx hb d_C_afterStackOrVectorRead_84 rfl (lv_at hl 1 rfl) ?_
    refine callVO (q0 := 0) (pc := 85) (As := [.int v1]) (rest := []) X (k_C_afterPullLow l g rt o st v1) hC (NC_C_afterPullLow_243 X rfl rfl ⟨by decide, by decide⟩) rfl rfl rfl hl.1 (Nat.le_of_ble_eq_true rfl) rfl d_C_afterStackOrVectorRead_85 ⟨Nat.zero_le _, Nat.zero_le _⟩ (fun st8 H locs est8 hC => ?_)
    replace he := bS_go he est8
    refine lv_goto (pc := 88) (tgt := 200) hx hb d_C_afterStackOrVectorRead_88 (by decide) ?_
    exact B200 _ _ _ st8   hC (lv_sub hl [] rfl) he
  replace he := if_no he h7
  by_cases h9 : (swS (st.2.1)) = 28
  · replace he := if_go he h9
    refine lv_tableIn (pc := 11) (tgt := 91) hx hb d_C_afterStackOrVectorRead_11 (by rw [h9]; decide) (by rw [h9]; decide) (by rw [h9]; rfl) (by decide) ?_
    refine lv_aload_n (pc := 91) hx hb d_C_afterStackOrVectorRead_91 rfl (lv_at hl 0 rfl) ?_
    refine lv_iload_n (pc := 92) hx hb d_C_afterStackOrVectorRead_92 rfl (lv_at hl 1 rfl) ?_
    refine callVO (q0 := 0) (pc := 93) (As := [.int v1]) (rest := []) X (k_C_afterPullPage l g rt o st v1) hC (NC_C_afterPullPage_246 X rfl rfl ⟨by decide, by decide⟩) rfl rfl rfl hl.1 (Nat.le_of_ble_eq_true rfl) rfl d_C_afterStackOrVectorRead_93 ⟨Nat.zero_le _, Nat.zero_le _⟩ (fun st10 H locs est10 hC => ?_)
    replace he := bS_go he est10
    refine lv_goto (pc := 96) (tgt := 200) hx hb d_C_afterStackOrVectorRead_96 (by decide) ?_
    exact B200 _ _ _ st10   hC (lv_sub hl [] rfl) he
  replace he := if_no he h9
  by_cases h11 : (swS (st.2.1)) = 29
  · replace he := if_go he h11
    refine lv_tableIn (pc := 11) (tgt := 99) hx hb d_C_afterStackOrVectorRead_11 (by rw [h11]; decide) (by rw [h11]; decide) (by rw [h11]; rfl) (by decide) ?_
    refine lv_aload_n (pc := 99) hx hb d_C_afterStackOrVectorRead_99 rfl (lv_at hl 0 rfl) ?_
    refine lv_aload_n (pc := 100) hx hb d_C_afterStackOrVectorRead_100 rfl (lv_at hl 0 rfl) ?_
    refine GC_registers (pc := 101) X hC d_C_afterStackOrVectorRead_101 ?_
    refine GCR_pc (pc := 104) X hC d_C_afterStackOrVectorRead_104 ?_
    refine lv_iconst (pc := 107) (v := 1) hx hb d_C_afterStackOrVectorRead_107 (by decide) ?_
    refine lv_iadd (pc := 108) hx hb d_C_afterStackOrVectorRead_108 ?_
    refine callVO (q0 := 0) (pc := 109) (As := [.int ((st.1 4) + 1)]) (rest := []) X (k_C_goTo l g rt o st ((st.1 4) + 1)) hC (NC_C_goTo_224 X rfl rfl ⟨by decide, by decide⟩) rfl rfl rfl hl.1 (Nat.le_of_ble_eq_true rfl) rfl d_C_afterStackOrVectorRead_109 ⟨Nat.zero_le _, Nat.zero_le _⟩ (fun st12 H locs est12 hC => ?_)
    replace he := bS_go he est12
    refine lv_goto (pc := 112) (tgt := 200) hx hb d_C_afterStackOrVectorRead_112 (by decide) ?_
    exact B200 _ _ _ st12   hC (lv_sub hl [] rfl) he
  replace he := if_no he h11
  by_cases h13 : (swS (st.2.1)) = 30
  · replace he := if_go he h13
    refine lv_tableIn (pc := 11) (tgt := 115) hx hb d_C_afterStackOrVectorRead_11 (by rw [h13]; decide) (by rw [h13]; decide) (by rw [h13]; rfl) (by decide) ?_
    refine lv_aload_n (pc := 115) hx hb d_C_afterStackOrVectorRead_115 rfl (lv_at hl 0 rfl) ?_
    refine lv_aload_n (pc := 116) hx hb d_C_afterStackOrVectorRead_116 rfl (lv_at hl 0 rfl) ?_
    refine GC_done (pc := 117) X hC d_C_afterStackOrVectorRead_117 ?_
    refine lv_iconst (pc := 120) (v := 2) hx hb d_C_afterStackOrVectorRead_120 (by decide) ?_
    refine lv_icmp_ge (pc := 121) (tgt := 130) hx hb d_C_afterStackOrVectorRead_121 (by decide) (fun h14 => ?_) (fun h14 => ?_)
    · replace he := if_go he h14
      refine SC_stp_PUSH_PAGE (pc := 130) X hC d_C_afterStackOrVectorRead_130 ?_
      exact B133 _ _ _ st (21 : Fin 35)  hC (lv_sub hl [] rfl) he
    replace he := if_no he h14
    refine SC_stp_INTERRUPT_IDLE (pc := 124) X hC d_C_afterStackOrVectorRead_124 ?_
    refine lv_goto (pc := 127) (tgt := 133) hx hb d_C_afterStackOrVectorRead_127 (by decide) ?_
    exact B133 _ _ _ st (28 : Fin 35)  hC (lv_sub hl [] rfl) he
  replace he := if_no he h13
  by_cases h15 : (swS (st.2.1)) = 31
  · replace he := if_go he h15
    refine lv_tableIn (pc := 11) (tgt := 139) hx hb d_C_afterStackOrVectorRead_11 (by rw [h15]; decide) (by rw [h15]; decide) (by rw [h15]; rfl) (by decide) ?_
    refine lv_aload_n (pc := 139) hx hb d_C_afterStackOrVectorRead_139 rfl (lv_at hl 0 rfl) ?_
    refine lv_iload_n (pc := 140) hx hb d_C_afterStackOrVectorRead_140 rfl (lv_at hl 1 rfl) ?_
    refine callVO (q0 := 0) (pc := 141) (As := [.int v1]) (rest := []) X (k_C_afterVectorLow l g rt o st v1) hC (NC_C_afterVectorLow_255 X rfl rfl ⟨by decide, by decide⟩) rfl rfl rfl hl.1 (Nat.le_of_ble_eq_true rfl) rfl d_C_afterStackOrVectorRead_141 ⟨Nat.zero_le _, Nat.zero_le _⟩ (fun st16 H locs est16 hC => ?_)
    replace he := bS_go he est16
    refine lv_goto (pc := 144) (tgt := 200) hx hb d_C_afterStackOrVectorRead_144 (by decide) ?_
    exact B200 _ _ _ st16   hC (lv_sub hl [] rfl) he
  replace he := if_no he h15
  by_cases h17 : (swS (st.2.1)) = 32
  · replace he := if_go he h17
    refine lv_tableIn (pc := 11) (tgt := 147) hx hb d_C_afterStackOrVectorRead_11 (by rw [h17]; decide) (by rw [h17]; decide) (by rw [h17]; rfl) (by decide) ?_
    refine lv_aload_n (pc := 147) hx hb d_C_afterStackOrVectorRead_147 rfl (lv_at hl 0 rfl) ?_
    refine lv_aload_n (pc := 148) hx hb d_C_afterStackOrVectorRead_148 rfl (lv_at hl 0 rfl) ?_
    refine GC_held (pc := 149) X hC d_C_afterStackOrVectorRead_149 ?_
    refine lv_sipush (pc := 152) (v := 256) hx hb d_C_afterStackOrVectorRead_152 (by decide) ?_
    refine lv_iload_n (pc := 155) hx hb d_C_afterStackOrVectorRead_155 rfl (lv_at hl 1 rfl) ?_
    refine lv_imul (pc := 156) hx hb d_C_afterStackOrVectorRead_156 ?_
    refine lv_iadd (pc := 157) hx hb d_C_afterStackOrVectorRead_157 ?_
    refine callVO (q0 := 0) (pc := 158) (As := [.int ((st.1 13) + (256 * v1))]) (rest := []) X (k_C_goTo l g rt o st ((st.1 13) + (256 * v1))) hC (NC_C_goTo_224 X rfl rfl ⟨by decide, by decide⟩) rfl rfl rfl hl.1 (Nat.le_of_ble_eq_true rfl) rfl d_C_afterStackOrVectorRead_158 ⟨Nat.zero_le _, Nat.zero_le _⟩ (fun st18 H locs est18 hC => ?_)
    replace he := bS_go he est18
    refine lv_goto (pc := 161) (tgt := 200) hx hb d_C_afterStackOrVectorRead_161 (by decide) ?_
    exact B200 _ _ _ st18   hC (lv_sub hl [] rfl) he
  replace he := if_no he h17
  by_cases h19 : (swS (st.2.1)) = 33
  · replace he := if_go he h19
    refine lv_tableIn (pc := 11) (tgt := 164) hx hb d_C_afterStackOrVectorRead_11 (by rw [h19]; decide) (by rw [h19]; decide) (by rw [h19]; rfl) (by decide) ?_
    refine lv_aload_n (pc := 164) hx hb d_C_afterStackOrVectorRead_164 rfl (lv_at hl 0 rfl) ?_
    refine lv_aload_n (pc := 165) hx hb d_C_afterStackOrVectorRead_165 rfl (lv_at hl 0 rfl) ?_
    refine GC_done (pc := 166) X hC d_C_afterStackOrVectorRead_166 ?_
    refine lv_iconst (pc := 169) (v := 2) hx hb d_C_afterStackOrVectorRead_169 (by decide) ?_
    refine lv_icmp_ge (pc := 170) (tgt := 179) hx hb d_C_afterStackOrVectorRead_170 (by decide) (fun h20 => ?_) (fun h20 => ?_)
    · replace he := if_go he h20
      refine SC_stp_RESET_STACK (pc := 179) X hC d_C_afterStackOrVectorRead_179 ?_
      exact B182 _ _ _ st (32 : Fin 35)  hC (lv_sub hl [] rfl) he
    replace he := if_no he h20
    refine SC_stp_RESET_IDLE (pc := 173) X hC d_C_afterStackOrVectorRead_173 ?_
    refine lv_goto (pc := 176) (tgt := 182) hx hb d_C_afterStackOrVectorRead_176 (by decide) ?_
    exact B182 _ _ _ st (31 : Fin 35)  hC (lv_sub hl [] rfl) he
  replace he := if_no he h19
  by_cases h21 : (swS (st.2.1)) = 34
  · replace he := if_go he h21
    refine lv_tableIn (pc := 11) (tgt := 188) hx hb d_C_afterStackOrVectorRead_11 (by rw [h21]; decide) (by rw [h21]; decide) (by rw [h21]; rfl) (by decide) ?_
    refine lv_aload_n (pc := 188) hx hb d_C_afterStackOrVectorRead_188 rfl (lv_at hl 0 rfl) ?_
    refine callVO (q0 := 0) (pc := 189) (As := []) (rest := []) X (k_C_afterResetStack l g rt o st ) hC (NC_C_afterResetStack_261 X rfl rfl ⟨by decide, by decide⟩) rfl rfl rfl hl.1 (Nat.le_of_ble_eq_true rfl) rfl d_C_afterStackOrVectorRead_189 ⟨Nat.zero_le _, Nat.zero_le _⟩ (fun st22 H locs est22 hC => ?_)
    replace he := bS_go he est22
    refine lv_goto (pc := 192) (tgt := 200) hx hb d_C_afterStackOrVectorRead_192 (by decide) ?_
    exact B200 _ _ _ st22   hC (lv_sub hl [] rfl) he
  replace he := if_no he h21
  refine lv_tableOut (pc := 11) (tgt := 195) hx hb d_C_afterStackOrVectorRead_11 (by have nh1 := lv_neT (a := 25) h1 (by decide); have nh5 := lv_neT (a := 26) h5 (by decide); have nh7 := lv_neT (a := 27) h7 (by decide); have nh9 := lv_neT (a := 28) h9 (by decide); have nh11 := lv_neT (a := 29) h11 (by decide); have nh13 := lv_neT (a := 30) h13 (by decide); have nh15 := lv_neT (a := 31) h15 (by decide); have nh17 := lv_neT (a := 32) h17 (by decide); have nh19 := lv_neT (a := 33) h19 (by decide); have nh21 := lv_neT (a := 34) h21 (by decide); omega) (by decide) ?_
  refine lv_aload_n (pc := 195) hx hb d_C_afterStackOrVectorRead_195 rfl (lv_at hl 0 rfl) ?_
  refine lv_iload_n (pc := 196) hx hb d_C_afterStackOrVectorRead_196 rfl (lv_at hl 1 rfl) ?_
  refine callVO (q0 := 0) (pc := 197) (As := [.int v1]) (rest := []) X (k_C_afterResetLow l g rt o st v1) hC (NC_C_afterResetLow_264 X rfl rfl ⟨by decide, by decide⟩) rfl rfl rfl hl.1 (Nat.le_of_ble_eq_true rfl) rfl d_C_afterStackOrVectorRead_197 ⟨Nat.zero_le _, Nat.zero_le _⟩ (fun st23 H locs est23 hC => ?_)
  replace he := bS_go he est23
  exact B200 _ _ _ st23   hC (lv_sub hl [] rfl) he
def f_C_afterRead_264 (st : CS)  : CS := st
def f_C_afterRead (st : CS) (v1 : Int32) : CS := if (swS (st.2.1)) = 8 then (bS (f_C_afterFetch st v1) (fun st2 => f_C_afterRead_264 st2 )) else (if (swS (st.2.1)) = 9 then (bS (f_R_nextPc st ) (fun st4 => bS (f_R_operate st4 (st4.1 7) v1) (fun st5 => bS (f_C_end st5 ) (fun st6 => f_C_afterRead_264 st6 )))) else (if (swS (st.2.1)) = 10 then (bS (f_C_afterZeroByte st v1) (fun st8 => f_C_afterRead_264 st8 )) else (if (swS (st.2.1)) = 11 then (bS (f_C_afterZeroIdle st ) (fun st10 => f_C_afterRead_264 st10 )) else (if (swS (st.2.1)) = 12 then (bS (f_C_afterPointerLow st v1) (fun st12 => f_C_afterRead_264 st12 )) else (if (swS (st.2.1)) = 13 then (bS (f_C_afterPointerPage st v1) (fun st14 => f_C_afterRead_264 st14 )) else (if (swS (st.2.1)) = 14 then (bS (f_C_afterFarLow st v1) (fun st16 => f_C_afterRead_264 st16 )) else (if (swS (st.2.1)) = 15 then (bS (f_C_afterFarPage st v1) (fun st18 => f_C_afterRead_264 st18 )) else (if (swS (st.2.1)) = 16 then (bS (f_C_accessOperandAt st (st.1 12)) (fun st20 => f_C_afterRead_264 st20 )) else (if (swS (st.2.1)) = 17 then (bS (f_R_operate st (st.1 7) v1) (fun st22 => bS (f_C_end st22 ) (fun st23 => f_C_afterRead_264 st23 ))) else (if (swS (st.2.1)) = 18 then (bS (f_C_afterChangeRead st v1) (fun st25 => f_C_afterRead_264 st25 )) else (if (swS (st.2.1)) = 19 then (bS (f_C_afterBranchDistance st v1) (fun st27 => f_C_afterRead_264 st27 )) else (if (swS (st.2.1)) = 20 then (bS (f_C_afterBranchIdle st ) (fun st29 => f_C_afterRead_264 st29 )) else (if (swS (st.2.1)) = 21 then (bS (f_C_goTo st (st.1 12)) (fun st31 => f_C_afterRead_264 st31 )) else (if (swS (st.2.1)) = 22 then (bS (f_C_afterBreakNext st ) (fun st33 => f_C_afterRead_264 st33 )) else (if (swS (st.2.1)) = 23 then (bS (f_C_afterPcIdle st ) (fun st35 => f_C_afterRead_264 st35 )) else (if (swS (st.2.1)) = 24 then (bS (sV st 9 1) (fun st37 => f_C_afterRead_264 st37 )) else (bS (f_C_afterStackOrVectorRead st v1) (fun st38 => f_C_afterRead_264 st38 ))))))))))))))))))
abbrev rm_C_afterRead : Room := { frames := 4, cells := 0, slots := 0, locals := 91 }
set_option maxHeartbeats 4000000 in
set_option maxRecDepth 100000 in
theorem k_C_afterRead (l : Launch) (g : CG) (rt : MS) (o : Nat → Int64) (st : CS) (v1 : Int32) : KV l g y_C_afterRead (Cond.code y_C_afterRead c_C_afterRead 2 none :: ALL) rm_C_afterRead [.ref (g.chip), .int v1] (wC g rt o) st (f_C_afterRead st v1) := by
  refine KV.ofW (by decide) (Nat.le_of_ble_eq_true rfl) ?_
  intro p e s m args below meth c A Q ls Rv X he RET hC hl
  obtain ⟨hx, hb⟩ := FX_xb X
  have hl : lv_has ls 2 [(0, .ref (g.chip)), (1, .int v1)] := hl
  have B264 : ∀ (H : Heap) (locs : List Loc) (ls : Array Slot) (st : CS) , HC g A s (wC g rt o st) H locs → lv_has ls 2 [] → f_C_afterRead_264 st  = Rv → W p l e rm_C_afterRead s m args below meth c H locs 0 0 Q (F0 m 264 ls []) := by
    intro H locs ls st   hC hl he
    unfold f_C_afterRead_264 at he
    exact RET (pc := 264) d_C_afterRead_264 hC he
  unfold f_C_afterRead at he
  refine SC_mapS (pc := 0) X hC d_C_afterRead_0 ?_
  refine lv_aload_n (pc := 3) hx hb d_C_afterRead_3 rfl (lv_at hl 0 rfl) ?_
  refine GC_step (pc := 4) X hC d_C_afterRead_4 ?_
  refine OC_stp (pc := 7) (k := st.2.1) (rest := [.ref (g.mapS)]) X hC hl.1 (Nat.le_of_ble_eq_true rfl) ⟨by decide, by decide⟩ ⟨Nat.zero_le _, Nat.zero_le _⟩ d_C_afterRead_7 ?_
  refine AmapS (pc := 10) (k := st.2.1) X hC d_C_afterRead_10 ?_
  by_cases h1 : (swS (st.2.1)) = 8
  · replace he := if_go he h1
    refine lv_tableIn (pc := 11) (tgt := 92) hx hb d_C_afterRead_11 (by rw [h1]; decide) (by rw [h1]; decide) (by rw [h1]; rfl) (by decide) ?_
    refine lv_aload_n (pc := 92) hx hb d_C_afterRead_92 rfl (lv_at hl 0 rfl) ?_
    refine lv_iload_n (pc := 93) hx hb d_C_afterRead_93 rfl (lv_at hl 1 rfl) ?_
    refine callVO (q0 := 0) (pc := 94) (As := [.int v1]) (rest := []) X (k_C_afterFetch l g rt o st v1) hC (NC_C_afterFetch_182 X rfl rfl ⟨by decide, by decide⟩) rfl rfl rfl hl.1 (Nat.le_of_ble_eq_true rfl) rfl d_C_afterRead_94 ⟨Nat.zero_le _, Nat.zero_le _⟩ (fun st2 H locs est2 hC => ?_)
    replace he := bS_go he est2
    refine lv_goto (pc := 97) (tgt := 264) hx hb d_C_afterRead_97 (by decide) ?_
    exact B264 _ _ _ st2   hC (lv_sub hl [] rfl) he
  replace he := if_no he h1
  by_cases h3 : (swS (st.2.1)) = 9
  · replace he := if_go he h3
    refine lv_tableIn (pc := 11) (tgt := 100) hx hb d_C_afterRead_11 (by rw [h3]; decide) (by rw [h3]; decide) (by rw [h3]; rfl) (by decide) ?_
    refine lv_aload_n (pc := 100) hx hb d_C_afterRead_100 rfl (lv_at hl 0 rfl) ?_
    refine GC_registers (pc := 101) X hC d_C_afterRead_101 ?_
    refine callVN (q0 := 3) (pc := 104) (As := []) (rest := []) X (k_R_nextPc l g rt o st ) hC (NC_R_nextPc_185 X rfl rfl ⟨by decide, by decide⟩) rfl rfl rfl hl.1 (Nat.le_of_ble_eq_true rfl) rfl d_C_afterRead_104 ⟨Nat.zero_le _, Nat.zero_le _⟩ (fun st4 H locs est4 hC => ?_)
    replace he := bS_go he est4
    refine lv_aload_n (pc := 107) hx hb d_C_afterRead_107 rfl (lv_at hl 0 rfl) ?_
    refine GC_registers (pc := 108) X hC d_C_afterRead_108 ?_
    refine lv_aload_n (pc := 111) hx hb d_C_afterRead_111 rfl (lv_at hl 0 rfl) ?_
    refine GC_operation (pc := 112) X hC d_C_afterRead_112 ?_
    refine lv_iload_n (pc := 115) hx hb d_C_afterRead_115 rfl (lv_at hl 1 rfl) ?_
    refine callVN (q0 := 3) (pc := 116) (As := [.int (st4.1 7), .int v1]) (rest := []) X (k_R_operate l g rt o st4 (st4.1 7) v1) hC (NC_R_operate_188 X rfl rfl ⟨by decide, by decide⟩) rfl rfl rfl hl.1 (Nat.le_of_ble_eq_true rfl) rfl d_C_afterRead_116 ⟨Nat.zero_le _, Nat.zero_le _⟩ (fun st5 H locs est5 hC => ?_)
    replace he := bS_go he est5
    refine lv_aload_n (pc := 119) hx hb d_C_afterRead_119 rfl (lv_at hl 0 rfl) ?_
    refine callVO (q0 := 0) (pc := 120) (As := []) (rest := []) X (k_C_end l g rt o st5 ) hC (NC_C_end_161 X rfl rfl ⟨by decide, by decide⟩) rfl rfl rfl hl.1 (Nat.le_of_ble_eq_true rfl) rfl d_C_afterRead_120 ⟨Nat.zero_le _, Nat.zero_le _⟩ (fun st6 H locs est6 hC => ?_)
    replace he := bS_go he est6
    refine lv_goto (pc := 123) (tgt := 264) hx hb d_C_afterRead_123 (by decide) ?_
    exact B264 _ _ _ st6   hC (lv_sub hl [] rfl) he
  replace he := if_no he h3
  by_cases h7 : (swS (st.2.1)) = 10
  · replace he := if_go he h7
    refine lv_tableIn (pc := 11) (tgt := 126) hx hb d_C_afterRead_11 (by rw [h7]; decide) (by rw [h7]; decide) (by rw [h7]; rfl) (by decide) ?_
    refine lv_aload_n (pc := 126) hx hb d_C_afterRead_126 rfl (lv_at hl 0 rfl) ?_
    refine lv_iload_n (pc := 127) hx hb d_C_afterRead_127 rfl (lv_at hl 1 rfl) ?_
    refine callVO (q0 := 0) (pc := 128) (As := [.int v1]) (rest := []) X (k_C_afterZeroByte l g rt o st v1) hC (NC_C_afterZeroByte_191 X rfl rfl ⟨by decide, by decide⟩) rfl rfl rfl hl.1 (Nat.le_of_ble_eq_true rfl) rfl d_C_afterRead_128 ⟨Nat.zero_le _, Nat.zero_le _⟩ (fun st8 H locs est8 hC => ?_)
    replace he := bS_go he est8
    refine lv_goto (pc := 131) (tgt := 264) hx hb d_C_afterRead_131 (by decide) ?_
    exact B264 _ _ _ st8   hC (lv_sub hl [] rfl) he
  replace he := if_no he h7
  by_cases h9 : (swS (st.2.1)) = 11
  · replace he := if_go he h9
    refine lv_tableIn (pc := 11) (tgt := 134) hx hb d_C_afterRead_11 (by rw [h9]; decide) (by rw [h9]; decide) (by rw [h9]; rfl) (by decide) ?_
    refine lv_aload_n (pc := 134) hx hb d_C_afterRead_134 rfl (lv_at hl 0 rfl) ?_
    refine callVO (q0 := 0) (pc := 135) (As := []) (rest := []) X (k_C_afterZeroIdle l g rt o st ) hC (NC_C_afterZeroIdle_194 X rfl rfl ⟨by decide, by decide⟩) rfl rfl rfl hl.1 (Nat.le_of_ble_eq_true rfl) rfl d_C_afterRead_135 ⟨Nat.zero_le _, Nat.zero_le _⟩ (fun st10 H locs est10 hC => ?_)
    replace he := bS_go he est10
    refine lv_goto (pc := 138) (tgt := 264) hx hb d_C_afterRead_138 (by decide) ?_
    exact B264 _ _ _ st10   hC (lv_sub hl [] rfl) he
  replace he := if_no he h9
  by_cases h11 : (swS (st.2.1)) = 12
  · replace he := if_go he h11
    refine lv_tableIn (pc := 11) (tgt := 141) hx hb d_C_afterRead_11 (by rw [h11]; decide) (by rw [h11]; decide) (by rw [h11]; rfl) (by decide) ?_
    refine lv_aload_n (pc := 141) hx hb d_C_afterRead_141 rfl (lv_at hl 0 rfl) ?_
    refine lv_iload_n (pc := 142) hx hb d_C_afterRead_142 rfl (lv_at hl 1 rfl) ?_
    refine callVO (q0 := 0) (pc := 143) (As := [.int v1]) (rest := []) X (k_C_afterPointerLow l g rt o st v1) hC (NC_C_afterPointerLow_197 X rfl rfl ⟨by decide, by decide⟩) rfl rfl rfl hl.1 (Nat.le_of_ble_eq_true rfl) rfl d_C_afterRead_143 ⟨Nat.zero_le _, Nat.zero_le _⟩ (fun st12 H locs est12 hC => ?_)
    replace he := bS_go he est12
    refine lv_goto (pc := 146) (tgt := 264) hx hb d_C_afterRead_146 (by decide) ?_
    exact B264 _ _ _ st12   hC (lv_sub hl [] rfl) he
  replace he := if_no he h11
  by_cases h13 : (swS (st.2.1)) = 13
  · replace he := if_go he h13
    refine lv_tableIn (pc := 11) (tgt := 149) hx hb d_C_afterRead_11 (by rw [h13]; decide) (by rw [h13]; decide) (by rw [h13]; rfl) (by decide) ?_
    refine lv_aload_n (pc := 149) hx hb d_C_afterRead_149 rfl (lv_at hl 0 rfl) ?_
    refine lv_iload_n (pc := 150) hx hb d_C_afterRead_150 rfl (lv_at hl 1 rfl) ?_
    refine callVO (q0 := 0) (pc := 151) (As := [.int v1]) (rest := []) X (k_C_afterPointerPage l g rt o st v1) hC (NC_C_afterPointerPage_200 X rfl rfl ⟨by decide, by decide⟩) rfl rfl rfl hl.1 (Nat.le_of_ble_eq_true rfl) rfl d_C_afterRead_151 ⟨Nat.zero_le _, Nat.zero_le _⟩ (fun st14 H locs est14 hC => ?_)
    replace he := bS_go he est14
    refine lv_goto (pc := 154) (tgt := 264) hx hb d_C_afterRead_154 (by decide) ?_
    exact B264 _ _ _ st14   hC (lv_sub hl [] rfl) he
  replace he := if_no he h13
  by_cases h15 : (swS (st.2.1)) = 14
  · replace he := if_go he h15
    refine lv_tableIn (pc := 11) (tgt := 157) hx hb d_C_afterRead_11 (by rw [h15]; decide) (by rw [h15]; decide) (by rw [h15]; rfl) (by decide) ?_
    refine lv_aload_n (pc := 157) hx hb d_C_afterRead_157 rfl (lv_at hl 0 rfl) ?_
    refine lv_iload_n (pc := 158) hx hb d_C_afterRead_158 rfl (lv_at hl 1 rfl) ?_
    refine callVO (q0 := 0) (pc := 159) (As := [.int v1]) (rest := []) X (k_C_afterFarLow l g rt o st v1) hC (NC_C_afterFarLow_203 X rfl rfl ⟨by decide, by decide⟩) rfl rfl rfl hl.1 (Nat.le_of_ble_eq_true rfl) rfl d_C_afterRead_159 ⟨Nat.zero_le _, Nat.zero_le _⟩ (fun st16 H locs est16 hC => ?_)
    replace he := bS_go he est16
    refine lv_goto (pc := 162) (tgt := 264) hx hb d_C_afterRead_162 (by decide) ?_
    exact B264 _ _ _ st16   hC (lv_sub hl [] rfl) he
  replace he := if_no he h15
  by_cases h17 : (swS (st.2.1)) = 15
  · replace he := if_go he h17
    refine lv_tableIn (pc := 11) (tgt := 165) hx hb d_C_afterRead_11 (by rw [h17]; decide) (by rw [h17]; decide) (by rw [h17]; rfl) (by decide) ?_
    refine lv_aload_n (pc := 165) hx hb d_C_afterRead_165 rfl (lv_at hl 0 rfl) ?_
    refine lv_iload_n (pc := 166) hx hb d_C_afterRead_166 rfl (lv_at hl 1 rfl) ?_
    refine callVO (q0 := 0) (pc := 167) (As := [.int v1]) (rest := []) X (k_C_afterFarPage l g rt o st v1) hC (NC_C_afterFarPage_206 X rfl rfl ⟨by decide, by decide⟩) rfl rfl rfl hl.1 (Nat.le_of_ble_eq_true rfl) rfl d_C_afterRead_167 ⟨Nat.zero_le _, Nat.zero_le _⟩ (fun st18 H locs est18 hC => ?_)
    replace he := bS_go he est18
    refine lv_goto (pc := 170) (tgt := 264) hx hb d_C_afterRead_170 (by decide) ?_
    exact B264 _ _ _ st18   hC (lv_sub hl [] rfl) he
  replace he := if_no he h17
  by_cases h19 : (swS (st.2.1)) = 16
  · replace he := if_go he h19
    refine lv_tableIn (pc := 11) (tgt := 173) hx hb d_C_afterRead_11 (by rw [h19]; decide) (by rw [h19]; decide) (by rw [h19]; rfl) (by decide) ?_
    refine lv_aload_n (pc := 173) hx hb d_C_afterRead_173 rfl (lv_at hl 0 rfl) ?_
    refine lv_aload_n (pc := 174) hx hb d_C_afterRead_174 rfl (lv_at hl 0 rfl) ?_
    refine GC_target (pc := 175) X hC d_C_afterRead_175 ?_
    refine callVO (q0 := 0) (pc := 178) (As := [.int (st.1 12)]) (rest := []) X (k_C_accessOperandAt l g rt o st (st.1 12)) hC (NC_C_accessOperandAt_212 X rfl rfl ⟨by decide, by decide⟩) rfl rfl rfl hl.1 (Nat.le_of_ble_eq_true rfl) rfl d_C_afterRead_178 ⟨Nat.zero_le _, Nat.zero_le _⟩ (fun st20 H locs est20 hC => ?_)
    replace he := bS_go he est20
    refine lv_goto (pc := 181) (tgt := 264) hx hb d_C_afterRead_181 (by decide) ?_
    exact B264 _ _ _ st20   hC (lv_sub hl [] rfl) he
  replace he := if_no he h19
  by_cases h21 : (swS (st.2.1)) = 17
  · replace he := if_go he h21
    refine lv_tableIn (pc := 11) (tgt := 184) hx hb d_C_afterRead_11 (by rw [h21]; decide) (by rw [h21]; decide) (by rw [h21]; rfl) (by decide) ?_
    refine lv_aload_n (pc := 184) hx hb d_C_afterRead_184 rfl (lv_at hl 0 rfl) ?_
    refine GC_registers (pc := 185) X hC d_C_afterRead_185 ?_
    refine lv_aload_n (pc := 188) hx hb d_C_afterRead_188 rfl (lv_at hl 0 rfl) ?_
    refine GC_operation (pc := 189) X hC d_C_afterRead_189 ?_
    refine lv_iload_n (pc := 192) hx hb d_C_afterRead_192 rfl (lv_at hl 1 rfl) ?_
    refine callVN (q0 := 3) (pc := 193) (As := [.int (st.1 7), .int v1]) (rest := []) X (k_R_operate l g rt o st (st.1 7) v1) hC (NC_R_operate_188 X rfl rfl ⟨by decide, by decide⟩) rfl rfl rfl hl.1 (Nat.le_of_ble_eq_true rfl) rfl d_C_afterRead_193 ⟨Nat.zero_le _, Nat.zero_le _⟩ (fun st22 H locs est22 hC => ?_)
    replace he := bS_go he est22
    refine lv_aload_n (pc := 196) hx hb d_C_afterRead_196 rfl (lv_at hl 0 rfl) ?_
    refine callVO (q0 := 0) (pc := 197) (As := []) (rest := []) X (k_C_end l g rt o st22 ) hC (NC_C_end_161 X rfl rfl ⟨by decide, by decide⟩) rfl rfl rfl hl.1 (Nat.le_of_ble_eq_true rfl) rfl d_C_afterRead_197 ⟨Nat.zero_le _, Nat.zero_le _⟩ (fun st23 H locs est23 hC => ?_)
    replace he := bS_go he est23
    refine lv_goto (pc := 200) (tgt := 264) hx hb d_C_afterRead_200 (by decide) ?_
    exact B264 _ _ _ st23   hC (lv_sub hl [] rfl) he
  replace he := if_no he h21
  by_cases h24 : (swS (st.2.1)) = 18
  · replace he := if_go he h24
    refine lv_tableIn (pc := 11) (tgt := 203) hx hb d_C_afterRead_11 (by rw [h24]; decide) (by rw [h24]; decide) (by rw [h24]; rfl) (by decide) ?_
    refine lv_aload_n (pc := 203) hx hb d_C_afterRead_203 rfl (lv_at hl 0 rfl) ?_
    refine lv_iload_n (pc := 204) hx hb d_C_afterRead_204 rfl (lv_at hl 1 rfl) ?_
    refine callVO (q0 := 0) (pc := 205) (As := [.int v1]) (rest := []) X (k_C_afterChangeRead l g rt o st v1) hC (NC_C_afterChangeRead_215 X rfl rfl ⟨by decide, by decide⟩) rfl rfl rfl hl.1 (Nat.le_of_ble_eq_true rfl) rfl d_C_afterRead_205 ⟨Nat.zero_le _, Nat.zero_le _⟩ (fun st25 H locs est25 hC => ?_)
    replace he := bS_go he est25
    refine lv_goto (pc := 208) (tgt := 264) hx hb d_C_afterRead_208 (by decide) ?_
    exact B264 _ _ _ st25   hC (lv_sub hl [] rfl) he
  replace he := if_no he h24
  by_cases h26 : (swS (st.2.1)) = 19
  · replace he := if_go he h26
    refine lv_tableIn (pc := 11) (tgt := 211) hx hb d_C_afterRead_11 (by rw [h26]; decide) (by rw [h26]; decide) (by rw [h26]; rfl) (by decide) ?_
    refine lv_aload_n (pc := 211) hx hb d_C_afterRead_211 rfl (lv_at hl 0 rfl) ?_
    refine lv_iload_n (pc := 212) hx hb d_C_afterRead_212 rfl (lv_at hl 1 rfl) ?_
    refine callVO (q0 := 0) (pc := 213) (As := [.int v1]) (rest := []) X (k_C_afterBranchDistance l g rt o st v1) hC (NC_C_afterBranchDistance_218 X rfl rfl ⟨by decide, by decide⟩) rfl rfl rfl hl.1 (Nat.le_of_ble_eq_true rfl) rfl d_C_afterRead_213 ⟨Nat.zero_le _, Nat.zero_le _⟩ (fun st27 H locs est27 hC => ?_)
    replace he := bS_go he est27
    refine lv_goto (pc := 216) (tgt := 264) hx hb d_C_afterRead_216 (by decide) ?_
    exact B264 _ _ _ st27   hC (lv_sub hl [] rfl) he
  replace he := if_no he h26
  by_cases h28 : (swS (st.2.1)) = 20
  · replace he := if_go he h28
    refine lv_tableIn (pc := 11) (tgt := 219) hx hb d_C_afterRead_11 (by rw [h28]; decide) (by rw [h28]; decide) (by rw [h28]; rfl) (by decide) ?_
    refine lv_aload_n (pc := 219) hx hb d_C_afterRead_219 rfl (lv_at hl 0 rfl) ?_
    refine callVO (q0 := 0) (pc := 220) (As := []) (rest := []) X (k_C_afterBranchIdle l g rt o st ) hC (NC_C_afterBranchIdle_221 X rfl rfl ⟨by decide, by decide⟩) rfl rfl rfl hl.1 (Nat.le_of_ble_eq_true rfl) rfl d_C_afterRead_220 ⟨Nat.zero_le _, Nat.zero_le _⟩ (fun st29 H locs est29 hC => ?_)
    replace he := bS_go he est29
    refine lv_goto (pc := 223) (tgt := 264) hx hb d_C_afterRead_223 (by decide) ?_
    exact B264 _ _ _ st29   hC (lv_sub hl [] rfl) he
  replace he := if_no he h28
  by_cases h30 : (swS (st.2.1)) = 21
  · replace he := if_go he h30
    refine lv_tableIn (pc := 11) (tgt := 226) hx hb d_C_afterRead_11 (by rw [h30]; decide) (by rw [h30]; decide) (by rw [h30]; rfl) (by decide) ?_
    refine lv_aload_n (pc := 226) hx hb d_C_afterRead_226 rfl (lv_at hl 0 rfl) ?_
    refine lv_aload_n (pc := 227) hx hb d_C_afterRead_227 rfl (lv_at hl 0 rfl) ?_
    refine GC_target (pc := 228) X hC d_C_afterRead_228 ?_
    refine callVO (q0 := 0) (pc := 231) (As := [.int (st.1 12)]) (rest := []) X (k_C_goTo l g rt o st (st.1 12)) hC (NC_C_goTo_224 X rfl rfl ⟨by decide, by decide⟩) rfl rfl rfl hl.1 (Nat.le_of_ble_eq_true rfl) rfl d_C_afterRead_231 ⟨Nat.zero_le _, Nat.zero_le _⟩ (fun st31 H locs est31 hC => ?_)
    replace he := bS_go he est31
    refine lv_goto (pc := 234) (tgt := 264) hx hb d_C_afterRead_234 (by decide) ?_
    exact B264 _ _ _ st31   hC (lv_sub hl [] rfl) he
  replace he := if_no he h30
  by_cases h32 : (swS (st.2.1)) = 22
  · replace he := if_go he h32
    refine lv_tableIn (pc := 11) (tgt := 237) hx hb d_C_afterRead_11 (by rw [h32]; decide) (by rw [h32]; decide) (by rw [h32]; rfl) (by decide) ?_
    refine lv_aload_n (pc := 237) hx hb d_C_afterRead_237 rfl (lv_at hl 0 rfl) ?_
    refine callVO (q0 := 0) (pc := 238) (As := []) (rest := []) X (k_C_afterBreakNext l g rt o st ) hC (NC_C_afterBreakNext_227 X rfl rfl ⟨by decide, by decide⟩) rfl rfl rfl hl.1 (Nat.le_of_ble_eq_true rfl) rfl d_C_afterRead_238 ⟨Nat.zero_le _, Nat.zero_le _⟩ (fun st33 H locs est33 hC => ?_)
    replace he := bS_go he est33
    refine lv_goto (pc := 241) (tgt := 264) hx hb d_C_afterRead_241 (by decide) ?_
    exact B264 _ _ _ st33   hC (lv_sub hl [] rfl) he
  replace he := if_no he h32
  by_cases h34 : (swS (st.2.1)) = 23
  · replace he := if_go he h34
    refine lv_tableIn (pc := 11) (tgt := 244) hx hb d_C_afterRead_11 (by rw [h34]; decide) (by rw [h34]; decide) (by rw [h34]; rfl) (by decide) ?_
    refine lv_aload_n (pc := 244) hx hb d_C_afterRead_244 rfl (lv_at hl 0 rfl) ?_
    refine callVO (q0 := 0) (pc := 245) (As := []) (rest := []) X (k_C_afterPcIdle l g rt o st ) hC (NC_C_afterPcIdle_230 X rfl rfl ⟨by decide, by decide⟩) rfl rfl rfl hl.1 (Nat.le_of_ble_eq_true rfl) rfl d_C_afterRead_245 ⟨Nat.zero_le _, Nat.zero_le _⟩ (fun st35 H locs est35 hC => ?_)
    replace he := bS_go he est35
    refine lv_goto (pc := 248) (tgt := 264) hx hb d_C_afterRead_248 (by decide) ?_
    exact B264 _ _ _ st35   hC (lv_sub hl [] rfl) he
  replace he := if_no he h34
  by_cases h36 : (swS (st.2.1)) = 24
  · replace he := if_go he h36
    refine lv_tableIn (pc := 11) (tgt := 251) hx hb d_C_afterRead_11 (by rw [h36]; decide) (by rw [h36]; decide) (by rw [h36]; rfl) (by decide) ?_
    refine lv_aload_n (pc := 251) hx hb d_C_afterRead_251 rfl (lv_at hl 0 rfl) ?_
    refine lv_iconst (pc := 252) (v := 1) hx hb d_C_afterRead_252 (by decide) ?_
    refine PC_done (pc := 253) X hC d_C_afterRead_253 (fun st37 H locs est37 hC => ?_)
    replace he := bS_go he est37
    refine lv_goto (pc := 256) (tgt := 264) hx hb d_C_afterRead_256 (by decide) ?_
    exact B264 _ _ _ st37   hC (lv_sub hl [] rfl) he
  replace he := if_no he h36
  refine lv_tableOut (pc := 11) (tgt := 259) hx hb d_C_afterRead_11 (by have nh1 := lv_neT (a := 8) h1 (by decide); have nh3 := lv_neT (a := 9) h3 (by decide); have nh7 := lv_neT (a := 10) h7 (by decide); have nh9 := lv_neT (a := 11) h9 (by decide); have nh11 := lv_neT (a := 12) h11 (by decide); have nh13 := lv_neT (a := 13) h13 (by decide); have nh15 := lv_neT (a := 14) h15 (by decide); have nh17 := lv_neT (a := 15) h17 (by decide); have nh19 := lv_neT (a := 16) h19 (by decide); have nh21 := lv_neT (a := 17) h21 (by decide); have nh24 := lv_neT (a := 18) h24 (by decide); have nh26 := lv_neT (a := 19) h26 (by decide); have nh28 := lv_neT (a := 20) h28 (by decide); have nh30 := lv_neT (a := 21) h30 (by decide); have nh32 := lv_neT (a := 22) h32 (by decide); have nh34 := lv_neT (a := 23) h34 (by decide); have nh36 := lv_neT (a := 24) h36 (by decide); omega) (by decide) ?_
  refine lv_aload_n (pc := 259) hx hb d_C_afterRead_259 rfl (lv_at hl 0 rfl) ?_
  refine lv_iload_n (pc := 260) hx hb d_C_afterRead_260 rfl (lv_at hl 1 rfl) ?_
  refine callVO (q0 := 0) (pc := 261) (As := [.int v1]) (rest := []) X (k_C_afterStackOrVectorRead l g rt o st v1) hC (NC_C_afterStackOrVectorRead_233 X rfl rfl ⟨by decide, by decide⟩) rfl rfl rfl hl.1 (Nat.le_of_ble_eq_true rfl) rfl d_C_afterRead_261 ⟨Nat.zero_le _, Nat.zero_le _⟩ (fun st38 H locs est38 hC => ?_)
  replace he := bS_go he est38
  exact B264 _ _ _ st38   hC (lv_sub hl [] rfl) he
def f_C_runCycle_92 (st : CS) (v1 : Int32) (v2 : Int32) : Int32 × CS := (((512 * v1) + v2), st)
def f_C_runCycle (st : CS)  : Int32 × CS := bP (f_C_addressOfStep st ) (fun r2 st1 => if (wrS (st1.2.1)) = 0 then (bS ((rM st1 r2) : Int32) (fun y4 => if (rP st1 2) = 0 then (f_C_runCycle_92 st1 r2 y4) else (bS (sV st1 9 ((st1.1 9) + 1)) (fun st6 => bS (f_C_afterRead st6 y4) (fun st7 => f_C_runCycle_92 st7 r2 y4))))) else (bP (f_C_byteToWrite st1 ) (fun r9 st8 => bS (sM st8 r2 r9) (fun st10 => bS (sV st10 9 ((st10.1 9) + 1)) (fun st11 => bS (f_C_afterWrite st11 ) (fun st12 => ((((512 * r2) + 256) + r9), st12)))))))
abbrev rm_C_runCycle : Room := { frames := 5, cells := 0, slots := 0, locals := 112 }
set_option maxHeartbeats 4000000 in
set_option maxRecDepth 100000 in
theorem k_C_runCycle (l : Launch) (g : CG) (rt : MS) (o : Nat → Int64) (st : CS)  : KI l g y_C_runCycle (Cond.code y_C_runCycle c_C_runCycle 3 (some .int) :: ALL) rm_C_runCycle [.ref (g.chip)] (wC g rt o) st (f_C_runCycle st ) := by
  refine KI.ofW (by decide) (Nat.le_of_ble_eq_true rfl) ?_
  intro p e s m args below meth c A Q ls Rv X he RET hC hl
  obtain ⟨hx, hb⟩ := FX_xb X
  have hl : lv_has ls 3 [(0, .ref (g.chip))] := hl
  have B92 : ∀ (H : Heap) (locs : List Loc) (ls : Array Slot) (st : CS) (v1 : Int32) (v2 : Int32), HC g A s (wC g rt o st) H locs → lv_has ls 3 [(1, .int v1), (2, .int v2)] → f_C_runCycle_92 st v1 v2 = Rv → W p l e rm_C_runCycle s m args below meth c H locs 0 0 Q (F0 m 92 ls []) := by
    intro H locs ls st v1 v2  hC hl he
    unfold f_C_runCycle_92 at he
    refine lv_sipush (pc := 92) (v := 512) hx hb d_C_runCycle_92 (by decide) ?_
    refine lv_iload_n (pc := 95) hx hb d_C_runCycle_95 rfl (lv_at hl 0 rfl) ?_
    refine lv_imul (pc := 96) hx hb d_C_runCycle_96 ?_
    refine lv_iload_n (pc := 97) hx hb d_C_runCycle_97 rfl (lv_at hl 1 rfl) ?_
    refine lv_iadd (pc := 98) hx hb d_C_runCycle_98 ?_
    exact RET (pc := 99) d_C_runCycle_99 hC he
  unfold f_C_runCycle at he
  refine lv_aload_n (pc := 0) hx hb d_C_runCycle_0 rfl (lv_at hl 0 rfl) ?_
  refine callIO (q0 := 0) (pc := 1) (As := []) (rest := []) X (k_C_addressOfStep l g rt o st ) hC (NC_C_addressOfStep_109 X rfl rfl ⟨by decide, by decide⟩) rfl rfl rfl hl.1 (Nat.le_of_ble_eq_true rfl) rfl d_C_runCycle_1 ⟨Nat.zero_le _, Nat.zero_le _⟩ (fun r2 st1 H locs est1 hC => ?_)
  replace he := bP_go he est1
  refine lv_istore_n (pc := 4) (nL := 3) (lv' := [(1, .int r2), (0, .ref (g.chip))]) hx hb d_C_runCycle_4 rfl hl (by decide) rfl (fun ls hl => ?_)
  refine lv_aload_n (pc := 5) hx hb d_C_runCycle_5 rfl (lv_at hl 1 rfl) ?_
  refine GC_step (pc := 6) X hC d_C_runCycle_6 ?_
  refine GC_stp_writes (pc := 9) (k := st1.2.1) X hC d_C_runCycle_9 ?_
  refine lv_if_eq (pc := 12) (tgt := 57) hx hb d_C_runCycle_12 (by decide) (fun h3 => ?_) (fun h3 => ?_)
  · replace he := if_go he h3
    refine lv_aload_n (pc := 57) hx hb d_C_runCycle_57 rfl (lv_at hl 1 rfl) ?_
    refine GC_memory (pc := 58) X hC d_C_runCycle_58 ?_
    refine lv_iload_n (pc := 61) hx hb d_C_runCycle_61 rfl (lv_at hl 0 rfl) ?_
    refine lv_sipush (pc := 62) (v := 1023) hx hb d_C_runCycle_62 (by decide) ?_
    refine lv_iand (pc := 65) hx hb d_C_runCycle_65 ?_
    refine Amem (pc := 66) (i := r2) X hC d_C_runCycle_66 ?_
    refine lv_topi (fun y4 ey4 => ?_)
    replace he := bS_go he ey4.symm
    refine lv_istore_n (pc := 67) (nL := 3) (lv' := [(2, .int y4), (1, .int r2), (0, .ref (g.chip))]) hx hb d_C_runCycle_67 rfl hl (by decide) rfl (fun ls hl => ?_)
    refine lv_aload_n (pc := 68) hx hb d_C_runCycle_68 rfl (lv_at hl 2 rfl) ?_
    refine GC_pins (pc := 69) X hC d_C_runCycle_69 ?_
    refine lv_iconst (pc := 72) (v := 2) hx hb d_C_runCycle_72 (by decide) ?_
    refine Apins (pc := 73) (i := 2) X hC (by unfold vp_in; decide) d_C_runCycle_73 ?_
    refine lv_if_eq (pc := 74) (tgt := 92) hx hb d_C_runCycle_74 (by decide) (fun h5 => ?_) (fun h5 => ?_)
    · replace he := if_go he h5
      exact B92 _ _ _ st1 r2 y4  hC (lv_sub hl [1, 0] rfl) he
    replace he := if_no he h5
    refine lv_aload_n (pc := 77) hx hb d_C_runCycle_77 rfl (lv_at hl 2 rfl) ?_
    refine lv_dup (pc := 78) hx hb d_C_runCycle_78 rfl ?_
    refine GC_done (pc := 79) X hC d_C_runCycle_79 ?_
    refine lv_iconst (pc := 82) (v := 1) hx hb d_C_runCycle_82 (by decide) ?_
    refine lv_iadd (pc := 83) hx hb d_C_runCycle_83 ?_
    refine PC_done (pc := 84) X hC d_C_runCycle_84 (fun st6 H locs est6 hC => ?_)
    replace he := bS_go he est6
    refine lv_aload_n (pc := 87) hx hb d_C_runCycle_87 rfl (lv_at hl 2 rfl) ?_
    refine lv_iload_n (pc := 88) hx hb d_C_runCycle_88 rfl (lv_at hl 0 rfl) ?_
    refine callVO (q0 := 0) (pc := 89) (As := [.int y4]) (rest := []) X (k_C_afterRead l g rt o st6 y4) hC (NC_C_afterRead_121 X rfl rfl ⟨by decide, by decide⟩) rfl rfl rfl hl.1 (Nat.le_of_ble_eq_true rfl) rfl d_C_runCycle_89 ⟨Nat.zero_le _, Nat.zero_le _⟩ (fun st7 H locs est7 hC => ?_)
    replace he := bS_go he est7
    exact B92 _ _ _ st7 r2 y4  hC (lv_sub hl [1, 0] rfl) he
  replace he := if_no he h3
  refine lv_aload_n (pc := 15) hx hb d_C_runCycle_15 rfl (lv_at hl 1 rfl) ?_
  refine callIO (q0 := 0) (pc := 16) (As := []) (rest := []) X (k_C_byteToWrite l g rt o st1 ) hC (NC_C_byteToWrite_115 X rfl rfl ⟨by decide, by decide⟩) rfl rfl rfl hl.1 (Nat.le_of_ble_eq_true rfl) rfl d_C_runCycle_16 ⟨Nat.zero_le _, Nat.zero_le _⟩ (fun r9 st8 H locs est8 hC => ?_)
  replace he := bP_go he est8
  refine lv_istore_n (pc := 19) (nL := 3) (lv' := [(2, .int r9), (1, .int r2), (0, .ref (g.chip))]) hx hb d_C_runCycle_19 rfl hl (by decide) rfl (fun ls hl => ?_)
  refine lv_aload_n (pc := 20) hx hb d_C_runCycle_20 rfl (lv_at hl 2 rfl) ?_
  refine GC_memory (pc := 21) X hC d_C_runCycle_21 ?_
  refine lv_iload_n (pc := 24) hx hb d_C_runCycle_24 rfl (lv_at hl 1 rfl) ?_
  refine lv_sipush (pc := 25) (v := 1023) hx hb d_C_runCycle_25 (by decide) ?_
  refine lv_iand (pc := 28) hx hb d_C_runCycle_28 ?_
  refine lv_iload_n (pc := 29) hx hb d_C_runCycle_29 rfl (lv_at hl 0 rfl) ?_
  refine Bmem (pc := 30) (i := r2) X hC d_C_runCycle_30 (fun st10 H locs est10 hC => ?_)
  replace he := bS_go he est10
  refine lv_aload_n (pc := 31) hx hb d_C_runCycle_31 rfl (lv_at hl 2 rfl) ?_
  refine lv_dup (pc := 32) hx hb d_C_runCycle_32 rfl ?_
  refine GC_done (pc := 33) X hC d_C_runCycle_33 ?_
  refine lv_iconst (pc := 36) (v := 1) hx hb d_C_runCycle_36 (by decide) ?_
  refine lv_iadd (pc := 37) hx hb d_C_runCycle_37 ?_
  refine PC_done (pc := 38) X hC d_C_runCycle_38 (fun st11 H locs est11 hC => ?_)
  replace he := bS_go he est11
  refine lv_aload_n (pc := 41) hx hb d_C_runCycle_41 rfl (lv_at hl 2 rfl) ?_
  refine callVO (q0 := 0) (pc := 42) (As := []) (rest := []) X (k_C_afterWrite l g rt o st11 ) hC (NC_C_afterWrite_118 X rfl rfl ⟨by decide, by decide⟩) rfl rfl rfl hl.1 (Nat.le_of_ble_eq_true rfl) rfl d_C_runCycle_42 ⟨Nat.zero_le _, Nat.zero_le _⟩ (fun st12 H locs est12 hC => ?_)
  replace he := bS_go he est12
  refine lv_sipush (pc := 45) (v := 512) hx hb d_C_runCycle_45 (by decide) ?_
  refine lv_iload_n (pc := 48) hx hb d_C_runCycle_48 rfl (lv_at hl 1 rfl) ?_
  refine lv_imul (pc := 49) hx hb d_C_runCycle_49 ?_
  refine lv_sipush (pc := 50) (v := 256) hx hb d_C_runCycle_50 (by decide) ?_
  refine lv_iadd (pc := 53) hx hb d_C_runCycle_53 ?_
  refine lv_iload_n (pc := 54) hx hb d_C_runCycle_54 rfl (lv_at hl 0 rfl) ?_
  refine lv_iadd (pc := 55) hx hb d_C_runCycle_55 ?_
  exact RET (pc := 56) d_C_runCycle_56 hC he
def f_C_cycle (st : CS)  : Int32 × CS := bP (f_C_runCycle st ) (fun r2 st1 => (r2, st1))
abbrev rm_C_cycle : Room := { frames := 6, cells := 0, slots := 0, locals := 134 }
set_option maxHeartbeats 4000000 in
set_option maxRecDepth 100000 in
theorem k_C_cycle (l : Launch) (g : CG) (rt : MS) (o : Nat → Int64) (st : CS)  : KI l g y_C_cycle (Cond.code y_C_cycle c_C_cycle 1 (some .int) :: ALL) rm_C_cycle [.ref (g.chip)] (wC g rt o) st (f_C_cycle st ) := by
  refine KI.ofW (by decide) (Nat.le_of_ble_eq_true rfl) ?_
  intro p e s m args below meth c A Q ls Rv X he RET hC hl
  obtain ⟨hx, hb⟩ := FX_xb X
  have hl : lv_has ls 1 [(0, .ref (g.chip))] := hl
  unfold f_C_cycle at he
  refine lv_aload_n (pc := 0) hx hb d_C_cycle_0 rfl (lv_at hl 0 rfl) ?_
  refine callIO (q0 := 0) (pc := 1) (As := []) (rest := []) X (k_C_runCycle l g rt o st ) hC (NC_C_runCycle_42 X rfl rfl ⟨by decide, by decide⟩) rfl rfl rfl hl.1 (Nat.le_of_ble_eq_true rfl) rfl d_C_cycle_1 ⟨Nat.zero_le _, Nat.zero_le _⟩ (fun r2 st1 H locs est1 hC => ?_)
  replace he := bP_go he est1
  exact RET (pc := 4) d_C_cycle_4 hC he
def f_C_reset (st : CS)  : CS := bS (sV st 6 0) (fun st1 => bS (f_C_begin st1 (14 : Fin 16) (31 : Fin 35)) (fun st2 => st2))
abbrev rm_C_reset : Room := { frames := 1, cells := 0, slots := 0, locals := 22 }
set_option maxHeartbeats 4000000 in
set_option maxRecDepth 100000 in
theorem k_C_reset (l : Launch) (g : CG) (rt : MS) (o : Nat → Int64) (st : CS)  : KV l g y_C_reset (Cond.code y_C_reset c_C_reset 1 none :: ALL) rm_C_reset [.ref (g.chip)] (wC g rt o) st (f_C_reset st ) := by
  refine KV.ofW (by decide) (Nat.le_of_ble_eq_true rfl) ?_
  intro p e s m args below meth c A Q ls Rv X he RET hC hl
  obtain ⟨hx, hb⟩ := FX_xb X
  have hl : lv_has ls 1 [(0, .ref (g.chip))] := hl
  unfold f_C_reset at he
  refine lv_aload_n (pc := 0) hx hb d_C_reset_0 rfl (lv_at hl 0 rfl) ?_
  refine lv_iconst (pc := 1) (v := 0) hx hb d_C_reset_1 (by decide) ?_
  refine PC_nmiWanted (pc := 2) X hC b0 d_C_reset_2 (fun st1 H locs est1 hC => ?_)
  replace he := bS_go he est1
  refine lv_aload_n (pc := 5) hx hb d_C_reset_5 rfl (lv_at hl 0 rfl) ?_
  refine SC_knd_RESET (pc := 6) X hC d_C_reset_6 ?_
  refine SC_stp_RESET_IDLE (pc := 9) X hC d_C_reset_9 ?_
  refine callVO (q0 := 0) (pc := 12) (As := [.ref (g.adK ((14 : Fin 16)).val), .ref (g.adS ((31 : Fin 35)).val)]) (rest := []) X (k_C_begin l g rt o st1 (14 : Fin 16) (31 : Fin 35)) hC (NC_C_begin_70 X rfl rfl ⟨by decide, by decide⟩) rfl rfl rfl hl.1 (Nat.le_of_ble_eq_true rfl) rfl d_C_reset_12 ⟨Nat.zero_le _, Nat.zero_le _⟩ (fun st2 H locs est2 hC => ?_)
  replace he := bS_go he est2
  exact RET (pc := 15) d_C_reset_15 hC he
def f_C_pinWentOn_27 (st : CS)  : CS := st
def f_C_pinWentOn (st : CS) (v1 : Int32) : CS := if v1 = 0 then (bS (sV st 6 1) (fun st4 => f_C_pinWentOn_27 st4 )) else (if v1 = 3 then (bS (f_R_put st 64 1) (fun st3 => f_C_pinWentOn_27 st3 )) else (f_C_pinWentOn_27 st ))
abbrev rm_C_pinWentOn : Room := { frames := 1, cells := 0, slots := 0, locals := 22 }
set_option maxHeartbeats 4000000 in
set_option maxRecDepth 100000 in
theorem k_C_pinWentOn (l : Launch) (g : CG) (rt : MS) (o : Nat → Int64) (st : CS) (v1 : Int32) : KV l g y_C_pinWentOn (Cond.code y_C_pinWentOn c_C_pinWentOn 2 none :: ALL) rm_C_pinWentOn [.ref (g.chip), .int v1] (wC g rt o) st (f_C_pinWentOn st v1) := by
  refine KV.ofW (by decide) (Nat.le_of_ble_eq_true rfl) ?_
  intro p e s m args below meth c A Q ls Rv X he RET hC hl
  obtain ⟨hx, hb⟩ := FX_xb X
  have hl : lv_has ls 2 [(0, .ref (g.chip)), (1, .int v1)] := hl
  have B27 : ∀ (H : Heap) (locs : List Loc) (ls : Array Slot) (st : CS) , HC g A s (wC g rt o st) H locs → lv_has ls 2 [] → f_C_pinWentOn_27 st  = Rv → W p l e rm_C_pinWentOn s m args below meth c H locs 0 0 Q (F0 m 27 ls []) := by
    intro H locs ls st   hC hl he
    unfold f_C_pinWentOn_27 at he
    exact RET (pc := 27) d_C_pinWentOn_27 hC he
  unfold f_C_pinWentOn at he
  refine lv_iload_n (pc := 0) hx hb d_C_pinWentOn_0 rfl (lv_at hl 1 rfl) ?_
  refine lv_if_ne (pc := 1) (tgt := 12) hx hb d_C_pinWentOn_1 (by decide) (fun h1 => ?_) (fun h1 => ?_)
  · replace he := if_no he h1
    refine lv_iload_n (pc := 12) hx hb d_C_pinWentOn_12 rfl (lv_at hl 1 rfl) ?_
    refine lv_iconst (pc := 13) (v := 3) hx hb d_C_pinWentOn_13 (by decide) ?_
    refine lv_icmp_ne (pc := 14) (tgt := 27) hx hb d_C_pinWentOn_14 (by decide) (fun h2 => ?_) (fun h2 => ?_)
    · replace he := if_no he h2
      exact B27 _ _ _ st   hC (lv_sub hl [] rfl) he
    replace he := if_go he h2
    refine lv_aload_n (pc := 17) hx hb d_C_pinWentOn_17 rfl (lv_at hl 0 rfl) ?_
    refine GC_registers (pc := 18) X hC d_C_pinWentOn_18 ?_
    refine lv_bipush (pc := 21) (v := 64) hx hb d_C_pinWentOn_21 (by decide) ?_
    refine lv_iconst (pc := 23) (v := 1) hx hb d_C_pinWentOn_23 (by decide) ?_
    refine callVN (q0 := 3) (pc := 24) (As := [.int 64, .int 1]) (rest := []) X (k_R_put l g rt o st 64 1) hC (NC_R_put_105 X rfl rfl ⟨by decide, by decide⟩) rfl rfl rfl hl.1 (Nat.le_of_ble_eq_true rfl) rfl d_C_pinWentOn_24 ⟨Nat.zero_le _, Nat.zero_le _⟩ (fun st3 H locs est3 hC => ?_)
    replace he := bS_go he est3
    exact B27 _ _ _ st3   hC (lv_sub hl [] rfl) he
  replace he := if_go he h1
  refine lv_aload_n (pc := 4) hx hb d_C_pinWentOn_4 rfl (lv_at hl 0 rfl) ?_
  refine lv_iconst (pc := 5) (v := 1) hx hb d_C_pinWentOn_5 (by decide) ?_
  refine PC_nmiWanted (pc := 6) X hC b1 d_C_pinWentOn_6 (fun st4 H locs est4 hC => ?_)
  replace he := bS_go he est4
  refine lv_goto (pc := 9) (tgt := 27) hx hb d_C_pinWentOn_9 (by decide) ?_
  exact B27 _ _ _ st4   hC (lv_sub hl [] rfl) he
end

/-! what a throw needs stands in the tables, but for two statics -/
abbrev nmX : List String := ["java/lang/RuntimeException", "java/lang/Exception"]
def stU : List Cond := [.isRef (.static "java/lang/Throwable" "UNASSIGNED_STACK" "[Ljava/lang/StackTraceElement;"), .isRef (.static "java/lang/Throwable" "SUPPRESSED_SENTINEL" "Ljava/util/List;"), .laysStatic "java/lang/Throwable" "UNASSIGNED_STACK" "[Ljava/lang/StackTraceElement;", .laysStatic "java/lang/Throwable" "SUPPRESSED_SENTINEL" "Ljava/util/List;"]
set_option maxRecDepth 100000 in
theorem own_A : ∀ a ∈ Bundle.ownAtoms0 "ClockedChip" 48 "java/lang/IllegalArgumentException" nmX, a ∈ tables_1 ∨ a ∈ stU := by decide +kernel
set_option maxRecDepth 100000 in
theorem own_B : ∀ a ∈ Bundle.ownAtoms0 "ClockedChip" 55 "java/lang/IndexOutOfBoundsException" nmX, a ∈ tables_1 ∨ a ∈ stU := by decide +kernel
set_option maxRecDepth 100000 in
theorem own_S : ∀ a ∈ Bundle.ownAtoms0 "ClockedChip" 100 "java/lang/IllegalStateException" nmX, a ∈ tables_1 ∨ a ∈ stU := by decide +kernel

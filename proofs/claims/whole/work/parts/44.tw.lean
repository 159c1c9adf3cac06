/-! what a throw needs beside the words of ALL -/
def isCD : Cond → Bool
  | .castable .. => true
  | .declares _ => true
  | .not (.castable ..) => true
  | _ => false
/-- an IllegalStateException is no IndexOutOfBoundsException -/
def wNC : Cond := .not (.castable "java/lang/IllegalStateException" "java/lang/IndexOutOfBoundsException")
theorem notcast_moved {args args' : Array Value} {u U : State} {C D : String} (hvm : u.vm.Alike U.vm) (h : (Cond.not (.castable C D)).before args u = true) : (Cond.not (.castable C D)).before args' U = true := by
  have hv := Cond.holds_not_iff.mp h
  refine Cond.holds_not_iff.mpr ?_
  simp only [Cond.value] at hv ⊢
  rw [hvm.findClass, hvm.findClass]
  cases h1 : u.vm.findClass C with
  | none => simp [h1] at hv
  | some a =>
    cases h2 : u.vm.findClass D with
    | none => simp [h1, h2] at hv
    | some b =>
      simp only [h1, h2] at hv ⊢
      rw [hvm.assignable]
      exact hv
def TW (A : Nat → Prop) (U : State) (H : Heap) : Prop := ZLs "java/lang/Throwable" "UNASSIGNED_STACK" "[Ljava/lang/StackTraceElement;" A U H ∧ ZLs "java/lang/Throwable" "SUPPRESSED_SENTINEL" "Ljava/util/List;" A U H ∧ ∀ w ∈ wNC :: tables_1, isCD w = true → ∀ args : Array Value, w.before args U = true
theorem TW.moved {A : Nat → Prop} {u U : State} {H : Heap} (hvm : u.vm.Alike U.vm) (h : TW A u H) : TW A U H := by
  refine ⟨h.1.moved hvm, h.2.1.moved hvm, fun w hw hc args => ?_⟩
  have q := h.2.2 w hw hc args
  cases w with
  | not c => cases c <;> first | exact notcast_moved hvm q | cases hc
  | _ => first | exact castable_moved hvm q | exact declares_moved hvm q | cases hc
theorem TW.kept {A : Nat → Prop} {U : State} {H H1 : Heap} (h : TW A U H) (hq : ∀ a : Nat, a < H.size → ¬ A a → H1[a]? = H[a]?) : TW A U H1 := ⟨h.1.kept hq, h.2.1.kept hq, h.2.2⟩
theorem TW.narrow {A B : Nat → Prop} {U : State} {H : Heap} (h : TW A U H) (hAB : ∀ q, B q → A q) : TW B U H := ⟨h.1.narrow hAB, h.2.1.narrow hAB, h.2.2⟩
theorem TW.st {A : Nat → Prop} {args : Array Value} {U : State} (h : TW A U U.heap) : ∀ w ∈ stU, w.before args U = true := by
  intro w hw
  rcases List.mem_cons.mp hw with rfl | hw
  · exact h.1.ref
  rcases List.mem_cons.mp hw with rfl | hw
  · exact h.2.1.ref
  rcases List.mem_cons.mp hw with rfl | hw
  · exact h.1.lays
  rcases List.mem_cons.mp hw with rfl | hw
  · exact h.2.1.lays
  cases hw
theorem own_before {ic : Nat} {X : String} {args : Array Value} {U : State} {A : Nat → Prop} (ho : ∀ a ∈ Bundle.ownAtoms0 "ClockedChip" ic X nmX, a ∈ tables_1 ∨ a ∈ stU) (hg : ∀ a ∈ Bundle.ownAtoms0 "ClockedChip" ic X nmX, a ∈ stU ∨ (goodWord a || isCD a) = true) (ht : ∀ w ∈ ALL, w.before args U = true) (h : TW A U U.heap) : ∀ a ∈ Bundle.ownAtoms0 "ClockedChip" ic X nmX, a.before args U = true := by
  intro a ha
  rcases hg a ha with q | q
  · exact h.st a q
  · rcases ho a ha with r | r
    · rcases Bool.or_eq_true_iff.mp q with z | z
      · exact ht a (in_ALL r z)
      · exact h.2.2 a (List.mem_cons_of_mem _ r) z args
    · exact h.st a r
set_option maxRecDepth 100000 in
theorem gd_A : ∀ a ∈ Bundle.ownAtoms0 "ClockedChip" 48 "java/lang/IllegalArgumentException" nmX, a ∈ stU ∨ (goodWord a || isCD a) = true := by decide +kernel
set_option maxRecDepth 100000 in
theorem gd_B : ∀ a ∈ Bundle.ownAtoms0 "ClockedChip" 55 "java/lang/IndexOutOfBoundsException" nmX, a ∈ stU ∨ (goodWord a || isCD a) = true := by decide +kernel
set_option maxRecDepth 100000 in
theorem gd_S : ∀ a ∈ Bundle.ownAtoms0 "ClockedChip" 100 "java/lang/IllegalStateException" nmX, a ∈ stU ∨ (goodWord a || isCD a) = true := by decide +kernel

/-! the two statics that a Throwable's constructor reads -/
def TU (A : Nat → Prop) (U : State) (H : Heap) : Prop := va_Zq "java/lang/Throwable" "UNASSIGNED_STACK" "[Ljava/lang/StackTraceElement;" A U H ∧ va_Zq "java/lang/Throwable" "SUPPRESSED_SENTINEL" "Ljava/util/List;" A U H
theorem TU.moved {A : Nat → Prop} {u U : State} {H : Heap} (hvm : u.vm.Alike U.vm) (h : TU A u H) : TU A U H := ⟨h.1.moved hvm, h.2.moved hvm⟩
theorem TU.kept {A : Nat → Prop} {U : State} {H H1 : Heap} (h : TU A U H) (hq : ∀ a : Nat, a < H.size → ¬ A a → H1[a]? = H[a]?) : TU A U H1 := ⟨h.1.kept hq, h.2.kept hq⟩
theorem TU.narrow {A B : Nat → Prop} {U : State} {H : Heap} (h : TU A U H) (hAB : ∀ q, B q → A q) : TU B U H := ⟨h.1.narrow hAB, h.2.narrow hAB⟩
theorem Zq_ref {C n d : String} {A : Nat → Prop} {args : Array Value} {U : State} (h : va_Zq C n d A U U.heap) : (Cond.isRef (.static C n d)).before args U = true := by
  rcases h with h | ⟨t, h⟩
  · obtain ⟨cf, kf, fi, f, a, cell, h1, h2, h3, h4, h5, h6, h7, -⟩ := h
    simp [Cond.before, Cond.holds, Cond.value, Term.eval, State.fieldNamed?, h1, h2, h4, h5, h6, h7, Value.isRef]
  · obtain ⟨cf, kf, fi, f, a, cell, h1, h2, h3, h4, h5, h6, h7, -⟩ := h
    simp [Cond.before, Cond.holds, Cond.value, Term.eval, State.fieldNamed?, h1, h2, h4, h5, h6, h7, Value.isRef]

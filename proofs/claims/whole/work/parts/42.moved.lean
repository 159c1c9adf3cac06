/-! words that read the classes alone stand where the classes stand -/
theorem castable_moved {args args' : Array Value} {u U : State} {C D : String} (hvm : u.vm.Alike U.vm) (h : (Cond.castable C D).before args u = true) : (Cond.castable C D).before args' U = true := by
  obtain ⟨c, t, h1, h2, h3⟩ := Cond.castable_spec h
  have e1 : U.vm.findClass C = some c := by rw [hvm.findClass]; exact h1
  have e2 : U.vm.findClass D = some t := by rw [hvm.findClass]; exact h2
  have e3 : U.vm.assignable c t = true := by rw [hvm.assignable]; exact h3
  simp [Cond.before, Cond.holds, Cond.value, e1, e2, e3]
theorem declares_moved {args args' : Array Value} {u U : State} {x : MethodName} (hvm : u.vm.Alike U.vm) (h : (Cond.declares x).before args u = true) : (Cond.declares x).before args' U = true := by
  obtain ⟨m, meth, h1, h2, h3, h4⟩ := Cond.declares_spec h
  have hn : U.methodNamed? x = some m := by
    rw [State.methodNamed?_of_vm (U := U) (V := u.setVm U.vm) rfl, State.methodNamed?_setVm hvm x]
    exact h1
  have hm : U.vm.method? m = some meth := by rw [hvm.method?]; exact h2
  simp [Cond.before, Cond.holds, Cond.value, hn, hm, h3, h4]
theorem laysStatic_kept {args args' : Array Value} {u U : State} {C n d : String} (hvm : u.vm.Alike U.vm) (h : (Cond.laysStatic C n d).before args u = true) (hh : ∀ (a : Nat) (cell : Cell), u.heap[a]? = some cell → cell.vm.isStatics = true → ∃ cell' : Cell, U.heap[a]? = some cell' ∧ cell'.vm = cell.vm ∧ cell'.cls = cell.cls ∧ cell'.slots.size = cell.slots.size) : ∃ c k i f a cell, U.vm.findClass C = some c ∧ U.fieldFound? C n d = some (c, k, i, f) ∧ f.isStatic = true ∧ k.statics = some a ∧ U.heap[a]? = some cell ∧ cell.vm.isStatics = true ∧ cell.cls = c ∧ f.slot < cell.slots.size ∧ k.staticTypes[f.slot]? = some f.type := by
  obtain ⟨c, k, i, f, a, cell, h1, h2, h3, h4, h5, h6, h7, h8, h9⟩ := Cond.laysStatic_spec h
  obtain ⟨k', hi', he⟩ := State.fieldFound?_setVm hvm h2
  obtain ⟨cell', q1, q2, q3, q4⟩ := hh a cell h5 h6
  exact ⟨c, k', i, f, a, cell', by rw [hvm.findClass]; exact h1, hi', h3, by rw [he]; exact h4, q1, by rw [q2]; exact h6, by rw [q3]; exact h7, by rw [q4]; exact h8, by rw [he]; exact h9⟩

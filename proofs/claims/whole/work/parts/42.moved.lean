/-! words that read the classes alone stand where the classes stand -/
theorem castable_moved {args args' : Array Value} {u U : State} {C D : String} (hvm : u.vm.Alike U.vm) (h : (Cond.castable C D).before args u = true) : (Cond.castable C D).before args' U = true := by
  obtain ⟨c, t, h1, h2, h3⟩ := Cond.castable_spec h
  have e1 : U.vm.findClass C = some c := by rw [hvm.findClass]; exact h1
  have e2 : U.vm.findClass D = some t := by rw [hvm.findClass]; exact h2
  have e3 : U.vm.assignable c t = true := by rw [hvm.assignable]; exact h3
  simp [Cond.before, Cond.holds, Cond.value, e1, e2, e3]

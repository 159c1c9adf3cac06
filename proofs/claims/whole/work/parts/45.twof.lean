/-! TW at the start -/
theorem ZLs.of {args : Array Value} {s : State} {C n d : String} {A : Nat → Prop} (hl : (Cond.laysStatic C n d).before args s = true) (hr : (Cond.isRef (.static C n d)).before args s = true) (hA : ∀ a : Nat, a < s.heap.size → ¬ A a) : ZLs C n d A s s.heap := by
  obtain ⟨c, k, i, f, a, cell, h1, h2, h3, h4, h5, h6, h7, h8, h9⟩ := Cond.laysStatic_spec hl
  obtain ⟨v, hv, hvr⟩ := Cond.isRef_spec hr
  obtain ⟨-, a', cell', ha', hcell', -, hslot⟩ := Term.static_spec h2 hv
  cases h4.symm.trans ha'
  cases h5.symm.trans hcell'
  exact ⟨c, k, i, f, a, cell, v, h1, h2, h3, h4, h5, h6, h7, h8, h9, hslot, hvr, hA a (Array.getElem?_eq_some_iff.mp h5).1⟩
theorem TW.of {args : Array Value} {s : State} {A : Nat → Prop} (ht : ∀ w ∈ tables_1, w.before args s = true) (hu : ∀ w ∈ stU, w.before args s = true) (hn : wNC.before args s = true) (hA : ∀ a : Nat, a < s.heap.size → ¬ A a) : TW A s s.heap := by
  refine ⟨ZLs.of (args := args) (hu _ (List.mem_of_getElem? (i := 2) rfl)) (hu _ (List.mem_of_getElem? (i := 0) rfl)) hA, ZLs.of (args := args) (hu _ (List.mem_of_getElem? (i := 3) rfl)) (hu _ (List.mem_of_getElem? (i := 1) rfl)) hA, fun w hw hc a => ?_⟩
  rcases List.mem_cons.mp hw with rfl | hw
  · exact notcast_moved (Vm.Alike.refl s.vm) hn
  have q := ht w hw
  cases w with
  | not c => cases c <;> first | exact notcast_moved (Vm.Alike.refl s.vm) q | cases hc
  | _ => first | exact castable_moved (Vm.Alike.refl s.vm) q | exact declares_moved (Vm.Alike.refl s.vm) q | cases hc

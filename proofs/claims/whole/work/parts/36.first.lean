/-! the first states: related -/
def st0 : CS := (fun _ => 0, 0, 15, fun _ => 0, upd (fun _ => 0) 2 1)
def rt0 : MS := (upd (fun _ => 0) 8 1, fun _ => 0)
theorem RR_0 : RR st0 rt0 := by
  have b : isB 0 := ⟨0, by decide, rfl⟩
  exact ⟨⟨⟨rfl, rfl, rfl, rfl, rfl, rfl⟩, ⟨b, b, b, b, ⟨0, by decide, rfl⟩, ⟨0, by decide, rfl, rfl⟩⟩, rfl, ⟨rfl, rfl, rfl, rfl⟩, rfl, fun _ => b, ⟨Or.inl rfl, Or.inl rfl, Or.inr rfl, Or.inl rfl⟩, Or.inl rfl⟩, rfl, Or.inl ⟨rfl, rfl, rfl, rfl⟩⟩

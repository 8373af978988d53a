theorem xS_f : gi xS 0 7 = gi xS 717 11 ∧ gi xS 0 8 = gi xS 717 12 := ⟨rfl, rfl⟩


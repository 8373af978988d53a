theorem xS_2 : SRf xS 2 := SRf_of (by decide +kernel)
theorem xS_60 : SRf xS 60 := SRf_of (by decide +kernel)
theorem xS_118 : SRf xS 118 := SRf_of (by decide +kernel)
theorem xS_p : ∀ j, j < 10 → SRf xS (177 + 54 * j) := fun j hj => SRf_of ((show ∀ j, j < 10 → (gr xS (177 + 54 * j) 5 = some (177 + 54 * j + 1) ∧ gr xS (177 + 54 * j) 6 = some (177 + 54 * j + 2) ∧ gr xS (177 + 54 * j) 7 = some (177 + 54 * j + 3) ∧ gr xS (177 + 54 * j) 8 = some (177 + 54 * j + 4) ∧ gr xS (177 + 54 * j) 9 = some (177 + 54 * j + 5)) ∧ (∀ s, s < 24 → gr xS (177 + 54 * j + 3) s = some (177 + 54 * j + 6 + s) ∧ gr xS (177 + 54 * j + 4) s = some (177 + 54 * j + 30 + s)) by decide +kernel) j hj)
theorem xS_58 : ∀ i, i < 10 → gr xS 58 i = some (177 + 54 * i) := by decide +kernel
theorem xS_c : CRf xS := by
  refine ⟨by decide +kernel, by decide +kernel, by decide +kernel, by decide +kernel, by decide +kernel, by decide +kernel, by decide +kernel, by decide +kernel, by decide +kernel, by decide +kernel, Or.inl (by decide +kernel), by decide +kernel, by decide +kernel, by decide +kernel, by decide +kernel, by decide +kernel, by decide +kernel, xS_60, xS_118, xS_p, fun i hi => ⟨i, hi, xS_58 i hi⟩, fun i j hi hj e => ?_⟩
  rw [xS_58 i hi, xS_58 j hj] at e
  have := Option.some.inj e
  omega
theorem xS_m : MRf xS 718 := by
  refine ⟨by decide +kernel, by decide +kernel, by decide +kernel, by decide +kernel, by decide +kernel, by decide +kernel, by decide +kernel, by decide +kernel, by decide +kernel⟩
theorem xS_718 (k : Nat) : gi xS 718 k = 0 := xS_z (by omega) (by omega) (by omega)
theorem xS_rel : Rel xS := by
  refine ⟨xS_c, xS_m, ⟨trivial, trivial⟩, ⟨0, by decide, xS_z (by omega) (by omega) (by omega), xS_z (by omega) (by omega) (by omega), fun i hi => absurd hi (by omega)⟩, ⟨0, by decide, xS_z (by omega) (by omega) (by omega), xS_z (by omega) (by omega) (by omega), fun i hi => absurd hi (by omega)⟩, 0, 0, 0, 0, 0, ⟨Or.inl rfl, xS_2, ⟨?_, ?_, ?_, ?_, ?_, fun h hh => ⟨?_, ?_⟩, fun s p hs _ => absurd hs (by omega), fun s p hs _ => absurd hs (by omega)⟩, ⟨xS_718 _, Or.inl ⟨rfl, rfl⟩, by decide, xS_718 _, by decide, xS_718 _, by decide, xS_718 _, by decide, xS_718 _, by decide, fun h hh => ⟨0, 0, by decide, by decide, xS_718 _, xS_718 _⟩, fun s hs => absurd hs (by omega), fun s hs => absurd hs (by omega)⟩⟩, ⟨xS_z (by omega) (by omega) (by omega), fun c hc => absurd hc (by omega)⟩, ⟨0, by decide, xS_z (by omega) (by omega) (by omega), xS_z (by omega) (by omega) (by omega), fun j hj => absurd hj (by omega)⟩⟩
  all_goals (rw [xS_718, xS_z (by omega) (by omega) (by omega)])

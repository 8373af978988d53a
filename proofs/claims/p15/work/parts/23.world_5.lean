theorem km : kk KW 717 = some (8, 0) := by decide
theorem km1 : kk KW 718 = some (20, 518) := by decide
theorem km2 : kk KW 719 = some (20, 518) := by decide
/-- an int within 0 .. n-1 -/
theorem inN {v : Int32} {n : Nat} (hn : n < 2 ^ 31) (h : 0 ≤ v ∧ v < nI n) : ∃ j, j < n ∧ v = nI j := by
  obtain ⟨j, hj, rfl⟩ := nI_of (Int32.not_lt.mpr h.1)
  exact ⟨j, (nI_ltI hj hn).mp h.2, rfl⟩
theorem inN' {v : Int32} {n : Nat} (hn : n < 2 ^ 31) : (0 ≤ v ∧ v ≤ nI n - 1) ↔ (0 ≤ v ∧ v < nI n) := by
  cases n with
  | zero =>
    constructor
    · intro h
      have h1 : v ≤ -1 := h.2
      exact absurd (Int32.le_trans h.1 h1) (by decide)
    · intro h
      exact absurd h.2 (Int32.not_lt.mpr h.1)
  | succ n =>
    rw [nI_pred]
    constructor
    · intro h
      refine ⟨h.1, ?_⟩
      obtain ⟨j, hj, rfl⟩ := nI_of (Int32.not_lt.mpr h.1)
      have := (nI_leI hj (by omega)).mp h.2
      exact nI_lt (by omega) hn
    · intro h
      refine ⟨h.1, ?_⟩
      obtain ⟨j, hj, rfl⟩ := nI_of (Int32.not_lt.mpr h.1)
      have := (nI_ltI hj hn).mp h.2
      exact nI_le (by omega) (by omega)


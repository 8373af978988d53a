section KS
variable {q : Nat}
theorem ks1 (h : Isea q) : kk KW (q + 1) = some (20, 24) := ksea h 1 (by decide)
theorem ks2 (h : Isea q) : kk KW (q + 2) = some (20, 24) := ksea h 2 (by decide)
theorem ks3 (h : Isea q) : kk KW (q + 3) = some (23, 24) := ksea h 3 (by decide)
theorem ks4 (h : Isea q) : kk KW (q + 4) = some (24, 24) := ksea h 4 (by decide)
theorem ks5 (h : Isea q) : kk KW (q + 5) = some (20, 25) := ksea h 5 (by decide)
theorem ks6 (h : Isea q) {j : Nat} (hj : j < 24) : kk KW (q + 6 + j) = some (5, 0) := by
  have := ksea h (6 + j) (by omega)
  rw [Nat.add_assoc, this]
  unfold skd
  rw [if_neg (by omega), if_neg (by omega), if_neg (by omega), if_neg (by omega), if_neg (by omega), if_pos (by omega)]
theorem ks30 (h : Isea q) {j : Nat} (hj : j < 24) : kk KW (q + 30 + j) = some (0, 0) := by
  have := ksea h (30 + j) (by omega)
  rw [Nat.add_assoc, this]
  unfold skd
  rw [if_neg (by omega), if_neg (by omega), if_neg (by omega), if_neg (by omega), if_neg (by omega), if_neg (by omega)]
end KS
/-! the told row as the state of all -/
abbrev TT : Type := Nat → Int32
def so (T : TT) (s k : Nat) : Int32 := T (62 + 12 * s + k)
def ao (T : TT) (a k : Nat) : Int32 := T (350 + 7 * a + k)
def bas (T : TT) (s : Nat) : Int32 := ((so T s 7 ||| so T s 8) ||| so T s 9) ||| so T s 10
/-- a series of the row is sound: C carriers, W weeks -/
def Wse (T : TT) (C W s : Nat) : Prop := (∃ c, c < C ∧ so T s 0 = nI c) ∧ (∃ d, d < 7 ∧ so T s 1 = nI d) ∧ (∃ h, h < 24 ∧ so T s 2 = nI h) ∧ (so T s 3 = 0 ∨ so T s 3 = 1) ∧ (so T s 4 = 0 ∨ so T s 4 = 1) ∧ (∃ f l, f ≤ l ∧ l < W ∧ so T s 5 = nI f ∧ so T s 6 = nI l) ∧ (∀ i, i < 32 → ∀ k j, k < 5 → j < 5 → tb (so T s (7 + k)) i = true → tb (so T s (7 + j)) i = true → k = j) ∧ ∀ i k, k < 5 → tb (so T s (7 + k)) i = true → i < W

/-! the shape behind both constructors -/
def skd (j : Nat) : Nat × Nat := if j = 0 then (4, 0) else if j ≤ 2 then (20, 24) else if j = 3 then (23, 24) else if j = 4 then (24, 24) else if j = 5 then (20, 25) else if j < 30 then (5, 0) else (0, 0)
def kwf (a : Nat) : Nat × Nat := if a = 0 then (7, 0) else if a = 1 then (21, 1200) else if a < 56 then skd (a - 2) else if a = 56 then (1, 0) else if a = 57 then (20, 48) else if a = 58 then (22, 10) else if a = 59 then (3, 0) else if a < 114 then skd (a - 60) else if a = 114 then (1, 0) else if a = 115 then (20, 48) else if a = 116 then (21, 0) else if a = 117 then (2, 0) else if a < 172 then skd (a - 118) else if a = 172 then (20, 56) else if a ≤ 174 then (20, 24) else if a = 175 then (6, 0) else if a = 176 then (21, 2400) else if a < 717 then skd ((a - 177) % 54) else if a = 717 then (8, 0) else if a ≤ 719 then (20, 518) else if a = 720 then (21, 1200) else if a = 721 then (20, 7) else if a ≤ 723 then (20, 24) else if a = 724 then (20, 5180) else (21, 3000)
def KW : Sh := (726, kwf)
/-- where seasons lie -/
def Isea (q : Nat) : Prop := q = 2 ∨ q = 60 ∨ q = 118 ∨ ∃ i, i < 10 ∧ q = 177 + 54 * i
theorem ksea {q : Nat} (h : Isea q) : ∀ j, j < 54 → kk KW (q + j) = some (skd j) := by
  rcases h with rfl | rfl | rfl | ⟨i, hi, rfl⟩
  · decide +kernel
  · decide +kernel
  · decide +kernel
  · have : ∀ i, i < 10 → ∀ j, j < 54 → kk KW (177 + 54 * i + j) = some (skd j) := by decide +kernel
    exact this i hi
theorem Isea.lt {q : Nat} (h : Isea q) : 2 ≤ q ∧ q + 54 ≤ 717 := by
  rcases h with rfl | rfl | rfl | ⟨i, hi, rfl⟩ <;> omega
section KS
variable {q : Nat}
theorem ks0 (h : Isea q) : kk KW q = some (4, 0) := ksea h 0 (by decide)
end KS

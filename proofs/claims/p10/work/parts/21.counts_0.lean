/-! the two counts of bits are one -/
def st1 (n : Nat) : Nat := n - (n / 2 &&& 21845)
def st2 (n : Nat) : Nat := (n &&& 13107) + (n / 4 &&& 13107)
def st3 (n : Nat) : Nat := (n + n / 16) &&& 3855
def stA (n : Nat) : Nat := st3 (st2 (st1 n))
def by1 (n : Nat) : Nat := n - (n / 2 &&& 85)
def by2 (n : Nat) : Nat := (n &&& 51) + (n / 4 &&& 51)
def by3 (n : Nat) : Nat := (n + n / 16) &&& 15
theorem by_ok : ∀ b, b < 256 → (b / 2 &&& 85) ≤ b ∧ by1 b ≤ 170 ∧ by2 (by1 b) ≤ 68 ∧ by2 (by1 b) % 16 ≤ 4 ∧ by2 (by1 b) / 16 ≤ 4 ∧ by3 (by2 (by1 b)) = npc 8 b := by decide +kernel
theorem hi_and {b l : Nat} (hl : l < 32768) (m : Nat) (hm : m < 32768) : (32768 * b + l) &&& m = l &&& m := by
  have := land_split 15 (a := b) (b := l) (c := 0) (d := m) (by omega) (by omega)
  rw [show (2 : Nat) ^ 15 = 32768 by decide] at this
  simpa using this
theorem hi_and4 {b l : Nat} (hl : l < 16384) (m : Nat) (hm : m < 16384) : (16384 * b + l) &&& m = l &&& m := by
  have := land_split 14 (a := b) (b := l) (c := 0) (d := m) (by omega) (by omega)
  rw [show (2 : Nat) ^ 14 = 16384 by decide] at this
  simpa using this
theorem hi_and12 {b l : Nat} (hl : l < 4096) (m : Nat) (hm : m < 4096) : (4096 * b + l) &&& m = l &&& m := by
  have := land_split 12 (a := b) (b := l) (c := 0) (d := m) (by omega) (by omega)
  rw [show (2 : Nat) ^ 12 = 4096 by decide] at this
  simpa using this
theorem hi_and7 {b l : Nat} (hl : l < 128) (m : Nat) (hm : m < 128) : (128 * b + l) &&& m = l &&& m := by
  have := land_split 7 (a := b) (b := l) (c := 0) (d := m) (by omega) (by omega)
  rw [show (2 : Nat) ^ 7 = 128 by decide] at this
  simpa using this
theorem hi_and6 {b l : Nat} (hl : l < 64) (m : Nat) (hm : m < 64) : (64 * b + l) &&& m = l &&& m := by
  have := land_split 6 (a := b) (b := l) (c := 0) (d := m) (by omega) (by omega)
  rw [show (2 : Nat) ^ 6 = 64 by decide] at this
  simpa using this
theorem and15 (n : Nat) : n &&& 15 = n % 16 := Nat.and_two_pow_sub_one_eq_mod n 4

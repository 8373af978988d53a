/-- all of it -/
def SEA (x : Cn) (q : Nat) (T : TT) (W C S A N : Nat) : Prop := Isea q ∧ SRf x q ∧ SVl x q T S A ∧ WF T W C S A N
/-! bits of a series -/
theorem tb_bas (T : TT) (s i : Nat) : tb (bas T s) i = (((tb (so T s 7) i || tb (so T s 8) i) || tb (so T s 9) i) || tb (so T s 10) i) := by
  unfold bas
  rw [tb_or, tb_or, tb_or]
theorem SER.held {x : Cn} {p : Nat} {T : TT} {C W s : Nat} (h : SER x p T s) (w : Wse T C W s) : f_held x p = bas T s := by
  obtain ⟨-, -, -, -, -, -, hd, -⟩ := w
  unfold f_held
  rw [h.2, h.1 11 (by decide) (by decide)]
  apply tb_ext
  intro i hi
  rw [tb_and, tb_or, tb_not _ hi, tb_bas]
  have d0 := hd i hi 0 4 (by decide) (by decide)
  have d1 := hd i hi 1 4 (by decide) (by decide)
  have d2 := hd i hi 2 4 (by decide) (by decide)
  have d3 := hd i hi 3 4 (by decide) (by decide)
  simp only [Nat.add_zero, Nat.reduceAdd] at d0 d1 d2 d3
  cases h7 : tb (so T s 7) i <;> cases h8 : tb (so T s 8) i <;> cases h9 : tb (so T s 9) i <;> cases h10 : tb (so T s 10) i <;> cases h11 : tb (so T s 11) i <;> simp_all
theorem SER.opn {x : Cn} {p : Nat} {T : TT} {C W s : Nat} (h : SER x p T s) (w : Wse T C W s) : f_open x p = so T s 7 := by
  obtain ⟨-, -, -, -, -, -, hd, -⟩ := w
  unfold f_open
  rw [h.2, h.1 8 (by decide) (by decide), h.1 9 (by decide) (by decide), h.1 10 (by decide) (by decide), h.1 11 (by decide) (by decide)]
  apply tb_ext
  intro i hi
  rw [tb_and, tb_or, tb_not _ hi, tb_bas, tb_or, tb_or, tb_or]
  have d1 := hd i hi 0 1 (by decide) (by decide)
  have d2 := hd i hi 0 2 (by decide) (by decide)
  have d3 := hd i hi 0 3 (by decide) (by decide)
  have d4 := hd i hi 0 4 (by decide) (by decide)
  simp only [Nat.add_zero, Nat.reduceAdd] at d1 d2 d3 d4
  cases h7 : tb (so T s 7) i <;> cases h8 : tb (so T s 8) i <;> cases h9 : tb (so T s 9) i <;> cases h10 : tb (so T s 10) i <;> cases h11 : tb (so T s 11) i <;> simp_all
/-! places in the rows -/

section MCB
variable {B : BT} {c : Nat × Nat} {ad : Nat → Nat} {M : MR} {P : MP} {pc : Nat} {L : List (Option Value)} {st : List Value} {h : HP}
theorem g_mmax {idx : Nat} {x y : Int32} (X : mCx B c ad M P) (d : decode M.2.1 pc = .ok (.invokestatic idx, 3)) (hl : Cond.methodLink M.1.cls idx Lib.Math.max.name ∈ mTb) (hw : Cond.static Lib.Math.max.name ∈ mTb ∧ Cond.initialized "java/lang/Math" ∈ mTb ∧ Cond.code Lib.Math.max.name Lib.Math.max.code 2 (some .int) ∈ mTb) (hR : 1 ≤ M.2.2.2.2.1 ∧ 21 ≤ M.2.2.2.2.2) (hst : (st.map fun v => v.category).sum ≤ 8) (k : mG B c ad M.2.2.1 (pc + 3) L (.int (if x < y then y else x) :: st) h) : mG B c ad M.2.2.1 pc L (.int y :: .int x :: st) h := by
  obtain ⟨p, l, e0, R, s, m, args, below, meth, cd, Q, D, A⟩ := B
  intro H locs ls h1 h2 h3
  obtain ⟨x1, x2, x3, x4, x5, x6, x7, ⟨x8, x9, x10, x11⟩, x12, x13, -⟩ := X
  exact va_mmax x1 x2 (x3.trans h3.1.1.symm) x4 (x5 _ hl) (x5 _ hw.1) (x5 _ hw.2.1) (x5 _ hw.2.2) (Nat.le_trans hR.1 x8) (by rw [mCats]; omega) x10 x11 d (k H locs ls h1 h2 h3)
theorem g_mmin {idx : Nat} {x y : Int32} (X : mCx B c ad M P) (d : decode M.2.1 pc = .ok (.invokestatic idx, 3)) (hl : Cond.methodLink M.1.cls idx Lib.Math.min.name ∈ mTb) (hw : Cond.static Lib.Math.min.name ∈ mTb ∧ Cond.initialized "java/lang/Math" ∈ mTb ∧ Cond.code Lib.Math.min.name Lib.Math.min.code 2 (some .int) ∈ mTb) (hR : 1 ≤ M.2.2.2.2.1 ∧ 21 ≤ M.2.2.2.2.2) (hst : (st.map fun v => v.category).sum ≤ 8) (k : mG B c ad M.2.2.1 (pc + 3) L (.int (if y < x then y else x) :: st) h) : mG B c ad M.2.2.1 pc L (.int y :: .int x :: st) h := by
  obtain ⟨p, l, e0, R, s, m, args, below, meth, cd, Q, D, A⟩ := B
  intro H locs ls h1 h2 h3
  obtain ⟨x1, x2, x3, x4, x5, x6, x7, ⟨x8, x9, x10, x11⟩, x12, x13, -⟩ := X
  exact va_mmin x1 x2 (x3.trans h3.1.1.symm) x4 (x5 _ hl) (x5 _ hw.1) (x5 _ hw.2.1) (x5 _ hw.2.2) (Nat.le_trans hR.1 x8) (by rw [mCats]; omega) x10 x11 d (k H locs ls h1 h2 h3)
theorem r_callV (N : MR) {a ci q idx : Nat} {As : List Value} (d : decode M.2.1 pc = .ok (.invokevirtual idx, 3)) (hl : Cond.methodLink M.1.cls idx N.1 ∈ mTb) (hi : Cond.instanceMethod N.1 ∈ mTb ∧ Cond.selects N.1.cls N.1 N.1 ∈ mTb) (mo : mMo N As.length) (e : kd h a = some (ci, q)) (hci : ci < 9 ∧ mCn ci = N.1.cls) (hR : N.2.2.2.2.1 + 1 ≤ M.2.2.2.2.1 ∧ 8 + (N.2.2.1 + 11) + N.2.2.2.2.2 ≤ M.2.2.2.2.2) (hst : (st.map fun v => v.category).sum ≤ 8)
    (k : mSp N (.ref a :: As) h (fun v h' => mGM M (pc + 3) L (v.toList ++ st) h' P)) : mGM M pc L (As.reverse ++ .ref a :: st) h P := fun B c ad X => g_callV N X d hl hi mo e hci hR hst (mSp_mono k (fun v h' q => q B c ad X))
end MCB

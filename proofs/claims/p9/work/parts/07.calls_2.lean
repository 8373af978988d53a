section MCB
variable {B : BT} {c : Nat × Nat} {ad : Nat → Nat} {M : MR} {P : MP} {pc : Nat} {L : List (Option Value)} {st : List Value} {h : HP}
theorem g_callS (N : MR) {idx : Nat} {As : List Value} (X : mCx B c ad M P) (d : decode M.2.1 pc = .ok (.invokestatic idx, 3)) (hl : Cond.methodLink M.1.cls idx N.1 ∈ mTb) (hi : Cond.static N.1 ∈ mTb) (mo : mMo N As.length) (hR : N.2.2.2.2.1 + 1 ≤ M.2.2.2.2.1 ∧ 8 + (N.2.2.1 + 11) + N.2.2.2.2.2 ≤ M.2.2.2.2.2) (hst : (st.map fun v => v.category).sum ≤ 8)
    (k : mSp N As h (fun v h' => mG B c ad M.2.2.1 (pc + 3) L (v.toList ++ st) h')) : mG B c ad M.2.2.1 pc L (As.reverse ++ st) h := by
  obtain ⟨p, l, e0, R, s, m, args, below, meth, cd, Q, D, A⟩ := B
  intro H locs ls h1 h2 h3
  obtain ⟨x1, x2, x3, x4, x5, x6, x7, ⟨x8, x9, x10, x11⟩, x12, x13, -⟩ := X
  have hA := h1.free h2 x7
  have hM := k l D ad H.size
  have cw : CallB R s args M.1.cls idx N.1 N.2.1 N.2.2.1 N.2.2.2.1 (mWs N) (mRm N) 0 0 As.length ∧ (Cond.static N.1).before args s = true := ⟨callB_of As.length x5 (mGoodWs mo.2.1) rfl rfl rfl (x5 _ mo.1) (x5 _ hl) ⟨mo.2.2.1.1, mo.2.2.1.2, mo.2.2.2⟩ ⟨Nat.le_trans hR.1 x8, Nat.le_trans hR.2 x9⟩, x5 _ hi⟩
  refine mCont (rest := st.map (mcv ad)) (va_runS (As := As.map (mcv ad)) (rm := mRm N) ⟨x1, x2, x3, x4, x5⟩ hM cw ⟨mBlind, fun U hU hW => ⟨rfl, by rw [hU], by rw [hU]; exact (h1.weaken (fun _ _ => trivial)).moved hW.alike, va_K.moved hW.alike x6, x12.go h2 hA hU hW⟩⟩ rfl (by simp) h3.1.1 (by show List.map _ _ = _; simp) (lv_room (by rw [mCats]; exact hst)) d ⟨x10, x11⟩) h2 hA (fun v h' H1 locs1 q1 q2 q3 => ?_)
  have := q1 H1 locs1 ls q2 q3 h3
  rw [mStMap] at this
  exact this
theorem g_callSN (N : MR) {idx : Nat} {host : String} {As : List Value} (X : mCx B c ad M P) (d : decode M.2.1 pc = .ok (.invokestatic idx, 3)) (hl : (M.1.cls, idx, N.1, host) ∈ mNst) (hi : Cond.static N.1 ∈ mTb) (mo : mMo N As.length) (hR : N.2.2.2.2.1 + 1 ≤ M.2.2.2.2.1 ∧ 8 + (N.2.2.1 + 11) + N.2.2.2.2.2 ≤ M.2.2.2.2.2) (hst : (st.map fun v => v.category).sum ≤ 8)
    (k : mSp N As h (fun v h' => mG B c ad M.2.2.1 (pc + 3) L (v.toList ++ st) h')) : mG B c ad M.2.2.1 pc L (As.reverse ++ st) h := by
  obtain ⟨p, l, e0, R, s, m, args, below, meth, cd, Q, D, A⟩ := B
  intro H locs ls h1 h2 h3
  obtain ⟨x1, x2, x3, x4, x5, x6, x7, ⟨x8, x9, x10, x11⟩, x12, x13, -⟩ := X
  have hA := h1.free h2 x7
  have hM := k l D ad H.size
  have cw : va_CN R s args M.1.cls idx N.1 host N.2.1 N.2.2.1 N.2.2.2.1 (mWs N) (mRm N) 0 0 As.length ∧ (Cond.static N.1).before args s = true ∧ True := ⟨va_cnB As.length x5 (mGoodWs mo.2.1) rfl rfl rfl (x12.2.1 _ hl) (x5 _ mo.1) ⟨mo.2.2.1.1, mo.2.2.1.2, mo.2.2.2⟩ ⟨Nat.le_trans hR.1 x8, Nat.le_trans hR.2 x9⟩, x5 _ hi, trivial⟩
  refine mCont (rest := st.map (mcv ad)) (va_runSN (As := As.map (mcv ad)) (rm := mRm N) ⟨x1, x2, x3, x4, x5⟩ hM cw ⟨mBlind, fun U hU hW => ⟨rfl, by rw [hU], by rw [hU]; exact (h1.weaken (fun _ _ => trivial)).moved hW.alike, va_K.moved hW.alike x6, x12.go h2 hA hU hW⟩⟩ rfl (by simp) h3.1.1 (by show List.map _ _ = _; simp) (lv_room (by rw [mCats]; exact hst)) d ⟨x10, x11⟩) h2 hA (fun v h' H1 locs1 q1 q2 q3 => ?_)
  have := q1 H1 locs1 ls q2 q3 h3
  rw [mStMap] at this
  exact this
end MCB

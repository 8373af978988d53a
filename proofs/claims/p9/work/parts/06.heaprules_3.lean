section MHR
variable {B : BT} {c : Nat × Nat} {ad : Nat → Nat} {M : MR} {P : MP} {pc : Nat} {L : List (Option Value)} {st : List Value} {h : HP}
theorem mTyK {D : va_G} {s : State} {ca : Nat → ClassId} {a ci n : Nat} (hK : va_K D vwCl [] s) (e : kd h a = some (ci, n)) (h9 : 9 ≤ ci) (hT : ∀ a, a < h.1 → 9 ≤ (h.2.1 a).1 → ArrOfT s (ca a) (mAty (h.2.1 a).1) ∧ va_RA s (ca a) (mAty (h.2.1 a).1)) : va_K D vwCl [(ca a, mAty ci)] s := by
  refine ⟨hK.1, fun k q hk => ?_⟩
  have hz : k < 1 := (List.getElem?_eq_some_iff.mp hk).1
  rw [show k = 0 by omega] at hk
  cases hk
  obtain ⟨e1, e2⟩ := kd_lt e
  have := hT a e1 (by rw [e2]; exact h9)
  rw [e2] at this
  exact this
theorem g_iald {a n : Nat} {i : Int32} (X : mCx B c ad M P) (d : decode M.2.1 pc = .ok (.iaload, 1)) (e : kd h a = some (20, n)) (hin : vp_in i n) (kk : mG B c ad M.2.2.1 (pc + 1) L (.int (rI h a i.toNatClampNeg) :: st) h) : mG B c ad M.2.2.1 pc L (.int i :: .ref a :: st) h := by
  obtain ⟨p, l, e0, R, s, m, args, below, meth, cd, Q, D, A⟩ := B
  intro H locs ls h1 h2 h3
  obtain ⟨ca, hP, hD, hT⟩ := h1
  exact va_iald X.1 X.2.1 (mTyK X.2.2.2.2.2.1 e (by decide) hT) hP a 0 (by rw [mWl_at (kd_lt e).1, mEnt_int e (by decide) (by decide)]) rfl hin d (kk H locs ls ⟨ca, hP, hD, hT⟩ h2 h3)
theorem g_bald {a n : Nat} {i : Int32} (X : mCx B c ad M P) (d : decode M.2.1 pc = .ok (.baload, 1)) (e : kd h a = some (21, n)) (hin : vp_in i n) (kk : mG B c ad M.2.2.1 (pc + 1) L (.int (rI h a i.toNatClampNeg) :: st) h) : mG B c ad M.2.2.1 pc L (.int i :: .ref a :: st) h := by
  obtain ⟨p, l, e0, R, s, m, args, below, meth, cd, Q, D, A⟩ := B
  intro H locs ls h1 h2 h3
  obtain ⟨ca, hP, hD, hT⟩ := h1
  exact va_bald X.1 X.2.1 (mTyK X.2.2.2.2.2.1 e (by decide) hT) hP a 0 (by rw [mWl_at (kd_lt e).1, mEnt_int e (by decide) (by decide)]) rfl hin d (kk H locs ls ⟨ca, hP, hD, hT⟩ h2 h3)
theorem g_iast {a n : Nat} {i x : Int32} (X : mCx B c ad M P) (d : decode M.2.1 pc = .ok (.iastore, 1)) (e : kd h a = some (20, n)) (hin : vp_in i n) (kk : mG B c ad M.2.2.1 (pc + 1) L st (wI h a i.toNatClampNeg x)) : mG B c ad M.2.2.1 pc L (.int x :: .int i :: .ref a :: st) h := by
  obtain ⟨p, l, e0, R, s, m, args, below, meth, cd, Q, D, A⟩ := B
  intro H locs ls h1 h2 h3
  obtain ⟨ca, hP, hD, hT⟩ := h1
  refine va_iast X.1 X.2.1 (mTyK X.2.2.2.2.2.1 e (by decide) hT) hP hD h2 a 0 (by rw [mWl_at (kd_lt e).1, mEnt_int e (by decide) (by decide)]) rfl hin d (fun H1 locs1 q1 q2 q3 => ?_)
  rw [← mWl_arr e (by decide) (by decide)] at q1 q2
  exact kk H1 locs1 ls ⟨ca, q1, q2, hT⟩ q3 h3
theorem g_bast {a n : Nat} {i x : Int32} (X : mCx B c ad M P) (d : decode M.2.1 pc = .ok (.bastore, 1)) (e : kd h a = some (21, n)) (hin : vp_in i n) (kk : mG B c ad M.2.2.1 (pc + 1) L st (wI h a i.toNatClampNeg (vp_nar .byte x))) : mG B c ad M.2.2.1 pc L (.int x :: .int i :: .ref a :: st) h := by
  obtain ⟨p, l, e0, R, s, m, args, below, meth, cd, Q, D, A⟩ := B
  intro H locs ls h1 h2 h3
  obtain ⟨ca, hP, hD, hT⟩ := h1
  refine va_bast X.1 X.2.1 (mTyK X.2.2.2.2.2.1 e (by decide) hT) hP hD h2 a 0 (by rw [mWl_at (kd_lt e).1, mEnt_int e (by decide) (by decide)]) rfl hin d (fun H1 locs1 q1 q2 q3 => ?_)
  rw [← mWl_arr e (by decide) (by decide)] at q1 q2
  exact kk H1 locs1 ls ⟨ca, q1, q2, hT⟩ q3 h3
theorem g_alen {a ci n : Nat} {v : Int32} (X : mCx B c ad M P) (d : decode M.2.1 pc = .ok (.arraylength, 1)) (e : kd h a = some (ci, n)) (h9 : 9 ≤ ci) (hv : Int32.ofNat n = v) (kk : mG B c ad M.2.2.1 (pc + 1) L (.int v :: st) h) : mG B c ad M.2.2.1 pc L (.ref a :: st) h := by
  obtain ⟨p, l, e0, R, s, m, args, below, meth, cd, Q, D, A⟩ := B
  intro H locs ls h1 h2 h3
  obtain ⟨ca, hP, hD, hT⟩ := h1
  rcases Nat.lt_or_ge ci 22 with hc | hc
  · exact va_alen X.1 X.2.1 (mTyK X.2.2.2.2.2.1 e h9 hT) hP a 0 (by rw [mWl_at (kd_lt e).1, mEnt_int e (by omega) hc]) rfl hv d (kk H locs ls ⟨ca, hP, hD, hT⟩ h2 h3)
  · exact va_alen X.1 X.2.1 (mTyK X.2.2.2.2.2.1 e h9 hT) hP a 0 (by rw [mWl_at (kd_lt e).1, mEnt_ref e (by omega)]) rfl hv d (kk H locs ls ⟨ca, hP, hD, hT⟩ h2 h3)
end MHR

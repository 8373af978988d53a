section MHR
variable {B : BT} {c : Nat × Nat} {ad : Nat → Nat} {M : MR} {P : MP} {pc : Nat} {L : List (Option Value)} {st : List Value} {h : HP}
theorem g_aald {a ci n b : Nat} {C : String} {i : Int32} (X : mCx B c ad M P) (d : decode M.2.1 pc = .ok (.aaload, 1)) (e : kd h a = some (ci, n)) (h22 : ¬ ci < 22) (hC : mAty ci = .object C) (hin : vp_in i n) (hb : rR h a i.toNatClampNeg = some b) (kk : mG B c ad M.2.2.1 (pc + 1) L (.ref b :: st) h) : mG B c ad M.2.2.1 pc L (.int i :: .ref a :: st) h := by
  obtain ⟨p, l, e0, R, s, m, args, below, meth, cd, Q, D, A⟩ := B
  intro H locs ls h1 h2 h3
  obtain ⟨ca, hP, hD, hT⟩ := h1
  refine va_aldq (C := C) X.1 X.2.1 (mTyK X.2.2.2.2.2.1 e (by omega) hT) hP a 0 (by rw [mWl_at (kd_lt e).1, mEnt_ref e h22]) (by rw [hC]; rfl) hin d ?_
  rw [hb]
  exact kk H locs ls ⟨ca, hP, hD, hT⟩ h2 h3
theorem g_aast {a ci n b cj nb : Nat} {i : Int32} (X : mCx B c ad M P) (d : decode M.2.1 pc = .ok (.aastore, 1)) (e : kd h a = some (ci, n)) (h22 : ¬ ci < 22) (hj : cj < 9) (hC : mAty ci = .object (mCn cj)) (e2 : kd h b = some (cj, nb)) (hin : vp_in i n) (kk : mG B c ad M.2.2.1 (pc + 1) L st (wR h a i.toNatClampNeg (some b))) : mG B c ad M.2.2.1 pc L (.ref b :: .int i :: .ref a :: st) h := by
  obtain ⟨p, l, e0, R, s, m, args, below, meth, cd, Q, D, A⟩ := B
  intro H locs ls h1 h2 h3
  obtain ⟨ca, hP, hD, hT⟩ := h1
  refine va_astq (r := (mCn cj, mTt cj, mNF cj)) (ci := cj) X.1 X.2.1 (mTyK X.2.2.2.2.2.1 e (by omega) hT) hP hD h2 a 0 b (by rw [mWl_at (kd_lt e).1, mEnt_ref e h22]) (by rw [hC]; rfl) (by rw [mWl_at (kd_lt e2).1, mEnt_obj e2 hj]) (mCl_at hj) hin d (fun H1 locs1 q1 q2 q3 => ?_)
  rw [← mWl_arrR e h22] at q1 q2
  exact kk H1 locs1 ls ⟨ca, q1, q2, hT⟩ q3 h3
theorem r_getI {a ci n i k : Nat} (d : decode M.2.1 pc = .ok (.getfield i, 3)) (F : mFld M.1.cls i ci k) (hi : mIs (mTy ci k) = true) (e : kd h a = some (ci, n)) (kk : mGM M (pc + 3) L (.int (rI h a k) :: st) h P) : mGM M pc L (.ref a :: st) h P := fun B c ad X => g_getI X d F hi e (kk B c ad X)
theorem r_getR {a ci n i k b : Nat} (d : decode M.2.1 pc = .ok (.getfield i, 3)) (F : mFld M.1.cls i ci k) (hi : mIs (mTy ci k) = false) (e : kd h a = some (ci, n)) (hr : rR h a k = some b) (kk : mGM M (pc + 3) L (.ref b :: st) h P) : mGM M pc L (.ref a :: st) h P := fun B c ad X => g_getR X d F hi e hr (kk B c ad X)
theorem r_putI {a ci n i k : Nat} {v : Int32} (d : decode M.2.1 pc = .ok (.putfield i, 3)) (F : mFld M.1.cls i ci k) (hi : mIs (mTy ci k) = true) (hf : (mTt ci k).2.2.2 = false) (e : kd h a = some (ci, n)) (hv : narrow (mTy ci k) (.int v) = .int v ∧ fits (mTy ci k) (.int v) = true) (kk : mGM M (pc + 3) L st (wI h a k v) P) : mGM M pc L (.int v :: .ref a :: st) h P := fun B c ad X => g_putI X d F hi hf e hv (kk B c ad X)
theorem r_putR {a ci n i k b : Nat} (d : decode M.2.1 pc = .ok (.putfield i, 3)) (F : mFld M.1.cls i ci k) (hi : mIs (mTy ci k) = false) (hf : (mTt ci k).2.2.2 = false) (e : kd h a = some (ci, n)) (kk : mGM M (pc + 3) L st (wR h a k (some b)) P) : mGM M pc L (.ref b :: .ref a :: st) h P := fun B c ad X => g_putR X d F hi hf e (kk B c ad X)
theorem r_iald {a n : Nat} {i : Int32} (d : decode M.2.1 pc = .ok (.iaload, 1)) (e : kd h a = some (20, n)) (hin : vp_in i n) (kk : mGM M (pc + 1) L (.int (rI h a i.toNatClampNeg) :: st) h P) : mGM M pc L (.int i :: .ref a :: st) h P := fun B c ad X => g_iald X d e hin (kk B c ad X)
theorem r_bald {a n : Nat} {i : Int32} (d : decode M.2.1 pc = .ok (.baload, 1)) (e : kd h a = some (21, n)) (hin : vp_in i n) (kk : mGM M (pc + 1) L (.int (rI h a i.toNatClampNeg) :: st) h P) : mGM M pc L (.int i :: .ref a :: st) h P := fun B c ad X => g_bald X d e hin (kk B c ad X)
end MHR

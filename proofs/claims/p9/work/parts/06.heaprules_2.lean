section MHR
variable {B : BT} {c : Nat × Nat} {ad : Nat → Nat} {M : MR} {P : MP} {pc : Nat} {L : List (Option Value)} {st : List Value} {h : HP}
theorem g_putI {a ci n i k : Nat} {v : Int32} (X : mCx B c ad M P) (d : decode M.2.1 pc = .ok (.putfield i, 3)) (F : mFld M.1.cls i ci k) (hi : mIs (mTy ci k) = true) (hf : (mTt ci k).2.2.2 = false) (e : kd h a = some (ci, n)) (hv : narrow (mTy ci k) (.int v) = .int v ∧ fits (mTy ci k) (.int v) = true) (kk : mG B c ad M.2.2.1 (pc + 3) L st (wI h a k v)) : mG B c ad M.2.2.1 pc L (.int v :: .ref a :: st) h := by
  obtain ⟨p, l, e0, R, s, m, args, below, meth, cd, Q, D, A⟩ := B
  intro H locs ls h1 h2 h3
  obtain ⟨ca, hP, hD, hT⟩ := h1
  have he : (mWl ad ca h)[a]? = some (ad a, .inr (ci, (List.range (mNF ci)).map (mfv ad h ci a))) := by rw [mWl_at (kd_lt e).1, mEnt_obj e F.1]
  refine va_put (cl := vwCl) (v := .int v) X.1 X.2.1 X.2.2.2.2.1 (mIn F.1) (mTy ci) (mTyOk F.1) (mNm F.1) X.2.2.2.1 X.2.2.2.2.2.1 hP hD h2 a he (mCl_at F.1) k F.2.1 (X.2.2.2.2.1 _ F.2.2) (fun _ q => q) hf (mTyOk F.1 k F.2.1) hv.1 hv.2 (by simpa using F.2.1) d (fun H1 locs1 q1 q2 q3 => ?_)
  rw [← mWl_obj e F.1 F.2.1 hi] at q1 q2
  exact kk H1 locs1 ls ⟨ca, q1, q2, hT⟩ q3 h3
theorem g_putR {a ci n i k b : Nat} (X : mCx B c ad M P) (d : decode M.2.1 pc = .ok (.putfield i, 3)) (F : mFld M.1.cls i ci k) (hi : mIs (mTy ci k) = false) (hf : (mTt ci k).2.2.2 = false) (e : kd h a = some (ci, n)) (kk : mG B c ad M.2.2.1 (pc + 3) L st (wR h a k (some b))) : mG B c ad M.2.2.1 pc L (.ref b :: .ref a :: st) h := by
  obtain ⟨p, l, e0, R, s, m, args, below, meth, cd, Q, D, A⟩ := B
  intro H locs ls h1 h2 h3
  obtain ⟨ca, hP, hD, hT⟩ := h1
  have he : (mWl ad ca h)[a]? = some (ad a, .inr (ci, (List.range (mNF ci)).map (mfv ad h ci a))) := by rw [mWl_at (kd_lt e).1, mEnt_obj e F.1]
  have hnf : narrow (mTy ci k) (.ref (ad b)) = .ref (ad b) ∧ fits (mTy ci k) (.ref (ad b)) = true := by
    cases ht : mTy ci k <;> first | exact ⟨rfl, rfl⟩ | (rw [ht] at hi; cases hi)
  refine va_put (cl := vwCl) (v := .ref (ad b)) X.1 X.2.1 X.2.2.2.2.1 (mIn F.1) (mTy ci) (mTyOk F.1) (mNm F.1) X.2.2.2.1 X.2.2.2.2.2.1 hP hD h2 a he (mCl_at F.1) k F.2.1 (X.2.2.2.2.1 _ F.2.2) (fun _ q => q) hf (mTyOk F.1 k F.2.1) hnf.1 hnf.2 (by simpa using F.2.1) d (fun H1 locs1 q1 q2 q3 => ?_)
  have hw := mWl_objR (ad := ad) (ca := ca) (v := some b) e F.1 F.2.1 hi
  rw [show va_rf ((some b).map ad) = .ref (ad b) from rfl] at hw
  rw [← hw] at q1 q2
  exact kk H1 locs1 ls ⟨ca, q1, q2, hT⟩ q3 h3
theorem g_putRF {a ci n i k b : Nat} (X : mCx B c ad M P) (d : decode M.2.1 pc = .ok (.putfield i, 3)) (F : mFld M.1.cls i ci k) (hi : mIs (mTy ci k) = false) (hf : (mTt ci k).2.2.2 = true) (hdc : (mTt ci k).1 = M.1.cls) (hin : M.1.name = "<init>") (e : kd h a = some (ci, n)) (kk : mG B c ad M.2.2.1 (pc + 3) L st (wR h a k (some b))) : mG B c ad M.2.2.1 pc L (.ref b :: .ref a :: st) h := by
  obtain ⟨p, l, e0, R, s, m, args, below, meth, cd, Q, D, A⟩ := B
  intro H locs ls h1 h2 h3
  obtain ⟨ca, hP, hD, hT⟩ := h1
  have he : (mWl ad ca h)[a]? = some (ad a, .inr (ci, (List.range (mNF ci)).map (mfv ad h ci a))) := by rw [mWl_at (kd_lt e).1, mEnt_obj e F.1]
  have hnf : narrow (mTy ci k) (.ref (ad b)) = .ref (ad b) ∧ fits (mTy ci k) (.ref (ad b)) = true := by
    cases ht : mTy ci k <;> first | exact ⟨rfl, rfl⟩ | (rw [ht] at hi; cases hi)
  refine va_putF (cl := vwCl) (v := .ref (ad b)) X.1 X.2.1 X.2.2.2.2.1 (mIn F.1) (mTy ci) (mTyOk F.1) (mNm F.1) X.2.2.2.1 X.2.2.2.2.2.1 hP hD h2 a he (mCl_at F.1) k F.2.1 (X.2.2.2.2.1 _ F.2.2) (fun _ q => q) hf (X.2.2.2.2.2.2.2.2.2.1.trans hin) hdc (mTyOk F.1 k F.2.1) hnf.1 hnf.2 (by simpa using F.2.1) d (fun H1 locs1 q1 q2 q3 => ?_)
  have hw := mWl_objR (ad := ad) (ca := ca) (v := some b) e F.1 F.2.1 hi
  rw [show va_rf ((some b).map ad) = .ref (ad b) from rfl] at hw
  rw [← hw] at q1 q2
  exact kk H1 locs1 ls ⟨ca, q1, q2, hT⟩ q3 h3
end MHR

theorem mIn {ci : Nat} (h : ci < 9) : ∀ w ∈ u_ws (mCn ci) (mTt ci) (mNF ci), w ∈ mTb := by
  match ci, h with
  | 0, _ => exact mIn0
  | 1, _ => exact mIn1
  | 2, _ => exact mIn2
  | 3, _ => exact mIn3
  | 4, _ => exact mIn4
  | 5, _ => exact mIn5
  | 6, _ => exact mIn6
  | 7, _ => exact mIn7
  | 8, _ => exact mIn8
theorem mTyOk {ci : Nat} (h : ci < 9) : ∀ k, k < mNF ci → parseFieldDescriptor (mTt ci k).2.2.1 = some (mTy ci k) := by
  match ci, h with
  | 0, _ => exact tyX0_ok
  | 1, _ => exact tyX1_ok
  | 2, _ => exact tyX2_ok
  | 3, _ => exact tyX3_ok
  | 4, _ => exact tyX4_ok
  | 5, _ => exact tyX5_ok
  | 6, _ => exact tyX6_ok
  | 7, _ => exact tyX7_ok
  | 8, _ => exact tyX8_ok
theorem mNm {ci : Nat} (h : ci < 9) : ∀ a, a < mNF ci → ∀ b, b < mNF ci → a ≠ b → (mTt ci a).2.1 ≠ (mTt ci b).2.1 := by
  match ci, h with
  | 0, _ => exact nmX0
  | 1, _ => exact nmX1
  | 2, _ => exact nmX2
  | 3, _ => exact nmX3
  | 4, _ => exact nmX4
  | 5, _ => exact nmX5
  | 6, _ => exact nmX6
  | 7, _ => exact nmX7
  | 8, _ => exact nmX8
/-- the link of a field: at place idx of own's pool stands field k of kind ci -/
def mFld (own : String) (idx ci k : Nat) : Prop := ci < 9 ∧ k < mNF ci ∧ Cond.fieldLink own idx (mTt ci k).1 (mTt ci k).2.1 (mTt ci k).2.2.1 ∈ mTb
theorem mfs_at {ad : Nat → Nat} {h : HP} {ci a k : Nat} (hk : k < mNF ci) : ((List.range (mNF ci)).map (mfv ad h ci a))[k]? = some (mfv ad h ci a k) := by simp [hk]
section MHR
variable {B : BT} {c : Nat × Nat} {ad : Nat → Nat} {M : MR} {P : MP} {pc : Nat} {L : List (Option Value)} {st : List Value} {h : HP}
theorem g_getI {a ci n i k : Nat} (X : mCx B c ad M P) (d : decode M.2.1 pc = .ok (.getfield i, 3)) (F : mFld M.1.cls i ci k) (hi : mIs (mTy ci k) = true) (e : kd h a = some (ci, n)) (kk : mG B c ad M.2.2.1 (pc + 3) L (.int (rI h a k) :: st) h) : mG B c ad M.2.2.1 pc L (.ref a :: st) h := by
  obtain ⟨p, l, e0, R, s, m, args, below, meth, cd, Q, D, A⟩ := B
  intro H locs ls h1 h2 h3
  obtain ⟨ca, hP, hD, hT⟩ := h1
  have he : (mWl ad ca h)[a]? = some (ad a, .inr (ci, (List.range (mNF ci)).map (mfv ad h ci a))) := by rw [mWl_at (kd_lt e).1, mEnt_obj e F.1]
  refine va_get (cl := vwCl) X.1 X.2.1 X.2.2.2.2.1 (mIn F.1) X.2.2.2.1 X.2.2.2.2.2.1 hP a he (mCl_at F.1) k F.2.1 (X.2.2.2.2.1 _ F.2.2) (fun _ q => q) (mfs_at F.2.1) d ?_
  have hv : mfv ad h ci a k = .int (rI h a k) := by unfold mfv; rw [if_pos hi]
  rw [hv]
  exact kk H locs ls ⟨ca, hP, hD, hT⟩ h2 h3
theorem g_getR {a ci n i k b : Nat} (X : mCx B c ad M P) (d : decode M.2.1 pc = .ok (.getfield i, 3)) (F : mFld M.1.cls i ci k) (hi : mIs (mTy ci k) = false) (e : kd h a = some (ci, n)) (hr : rR h a k = some b) (kk : mG B c ad M.2.2.1 (pc + 3) L (.ref b :: st) h) : mG B c ad M.2.2.1 pc L (.ref a :: st) h := by
  obtain ⟨p, l, e0, R, s, m, args, below, meth, cd, Q, D, A⟩ := B
  intro H locs ls h1 h2 h3
  obtain ⟨ca, hP, hD, hT⟩ := h1
  have he : (mWl ad ca h)[a]? = some (ad a, .inr (ci, (List.range (mNF ci)).map (mfv ad h ci a))) := by rw [mWl_at (kd_lt e).1, mEnt_obj e F.1]
  refine va_get (cl := vwCl) X.1 X.2.1 X.2.2.2.2.1 (mIn F.1) X.2.2.2.1 X.2.2.2.2.2.1 hP a he (mCl_at F.1) k F.2.1 (X.2.2.2.2.1 _ F.2.2) (fun _ q => q) (mfs_at F.2.1) d ?_
  have hv : mfv ad h ci a k = .ref (ad b) := by unfold mfv; rw [if_neg (by rw [hi]; decide), hr]; rfl
  rw [hv]
  exact kk H locs ls ⟨ca, hP, hD, hT⟩ h2 h3
end MHR

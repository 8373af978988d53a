/-! fields and rows -/
def mTt (ci : Nat) : u_T := match ci with
  | 0 => TX0
  | 1 => TX1
  | 2 => TX2
  | 3 => TX3
  | 4 => TX4
  | 5 => TX5
  | 6 => TX6
  | 7 => TX7
  | _ => TX8
def mCn (ci : Nat) : String := match ci with
  | 0 => RX0
  | 1 => RX1
  | 2 => RX2
  | 3 => RX3
  | 4 => RX4
  | 5 => RX5
  | 6 => RX6
  | 7 => RX7
  | _ => RX8
theorem mCl_at {ci : Nat} (h : ci < 9) : vwCl[ci]? = some (mCn ci, mTt ci, mNF ci) := by
  match ci, h with
  | 0, _ => rfl
  | 1, _ => rfl
  | 2, _ => rfl
  | 3, _ => rfl
  | 4, _ => rfl
  | 5, _ => rfl
  | 6, _ => rfl
  | 7, _ => rfl
  | 8, _ => rfl
def mCk (c : Nat) : List Cond := match c with
  | 0 => tables_1_1
  | 1 => tables_1_2
  | 2 => tables_1_3
  | 3 => tables_1_4
  | 4 => tables_1_5
  | 5 => tables_1_6
  | 6 => tables_1_7
  | _ => tables_1_8
theorem mCk_sub {c : Nat} {w : Cond} (h : w ∈ mCk c) : w ∈ tables_1 := by
  simp only [tables_1, List.mem_append]
  match c, h with
  | 0, h => exact Or.inl h
  | 1, h => exact Or.inr (Or.inl h)
  | 2, h => exact Or.inr (Or.inr (Or.inl h))
  | 3, h => exact Or.inr (Or.inr (Or.inr (Or.inl h)))
  | 4, h => exact Or.inr (Or.inr (Or.inr (Or.inr (Or.inl h))))
  | 5, h => exact Or.inr (Or.inr (Or.inr (Or.inr (Or.inr (Or.inl h)))))
  | 6, h => exact Or.inr (Or.inr (Or.inr (Or.inr (Or.inr (Or.inr (Or.inl h))))))
  | _ + 7, h => exact Or.inr (Or.inr (Or.inr (Or.inr (Or.inr (Or.inr (Or.inr (h)))))))
theorem mIn_ix {ws : List Cond} (ix : List (Nat × Nat)) (h : ix.map (fun p => (mCk p.1)[p.2]?) = ws.map some) (g : ws.all goodWord = true) : ∀ w ∈ ws, w ∈ mTb := fun w hw => by
  have h1 : some w ∈ ix.map (fun p => (mCk p.1)[p.2]?) := by rw [h]; exact List.mem_map.mpr ⟨w, hw, rfl⟩
  obtain ⟨p, _, h2⟩ := List.mem_map.mp h1
  exact List.mem_filter.mpr ⟨List.mem_append_right _ (mCk_sub (List.mem_of_getElem? h2)), List.all_eq_true.mp g w hw⟩
theorem mIn0 : ∀ w ∈ u_ws RX0 TX0 7, w ∈ mTb := mIn_ix [(0, 140), (0, 142), (0, 144), (0, 146), (0, 148), (0, 150), (0, 152)] (by decide +kernel) (by decide +kernel)
theorem mIn1 : ∀ w ∈ u_ws RX1 TX1 2, w ∈ mTb := mIn_ix [(0, 224), (0, 226)] (by decide +kernel) (by decide +kernel)
theorem mIn2 : ∀ w ∈ u_ws RX2 TX2 5, w ∈ mTb := mIn_ix [(1, 76), (1, 78), (1, 80), (1, 82), (1, 84)] (by decide +kernel) (by decide +kernel)
theorem mIn3 : ∀ w ∈ u_ws RX3 TX3 18, w ∈ mTb := mIn_ix [(1, 23), (1, 25), (1, 27), (1, 29), (1, 31), (1, 33), (1, 35), (1, 37), (1, 39), (1, 41), (1, 43), (1, 45), (1, 47), (1, 49), (1, 51), (1, 53), (1, 55), (1, 57)] (by decide +kernel) (by decide +kernel)
theorem mIn4 : ∀ w ∈ u_ws RX4 TX4 10, w ∈ mTb := mIn_ix [(0, 192), (0, 194), (0, 196), (0, 198), (0, 200), (0, 202), (0, 204), (0, 206), (0, 208), (0, 210)] (by decide +kernel) (by decide +kernel)
theorem mIn5 : ∀ w ∈ u_ws RX5 TX5 12, w ∈ mTb := mIn_ix [(0, 76), (0, 78), (0, 80), (0, 82), (0, 84), (0, 86), (0, 88), (0, 90), (0, 92), (0, 94), (0, 96), (0, 98)] (by decide +kernel) (by decide +kernel)
theorem mIn6 : ∀ w ∈ u_ws RX6 TX6 2, w ∈ mTb := mIn_ix [(1, 97), (1, 99)] (by decide +kernel) (by decide +kernel)
theorem mIn7 : ∀ w ∈ u_ws RX7 TX7 11, w ∈ mTb := mIn_ix [(1, 113), (1, 115), (1, 117), (1, 119), (1, 121), (1, 123), (1, 125), (1, 127), (1, 129), (1, 131), (1, 133)] (by decide +kernel) (by decide +kernel)
theorem mIn8 : ∀ w ∈ u_ws RX8 TX8 23, w ∈ mTb := mIn_ix [(4, 226), (4, 228), (4, 230), (4, 232), (4, 234), (4, 236), (4, 238), (5, 0), (5, 2), (5, 4), (5, 6), (5, 8), (5, 10), (5, 12), (5, 14), (5, 16), (5, 18), (5, 20), (5, 22), (5, 24), (5, 26), (5, 28), (5, 30)] (by decide +kernel) (by decide +kernel)
theorem mIn {ci : Nat} (h : ci < 9) : ∀ w ∈ u_ws (mCn ci) (mTt ci) (mNF ci), w ∈ mTb := by
  match ci, h with
  | 0, _ => exact mIn0
  | 1, _ => exact mIn1
  | 2, _ => exact mIn2
  | 3, _ => exact mIn3
  | 4, _ => exact mIn4
  | 5, _ => exact mIn5
  | 6, _ => exact mIn6
  | 7, _ => exact mIn7
  | 8, _ => exact mIn8
theorem mTyOk {ci : Nat} (h : ci < 9) : ∀ k, k < mNF ci → parseFieldDescriptor (mTt ci k).2.2.1 = some (mTy ci k) := by
  match ci, h with
  | 0, _ => exact tyX0_ok
  | 1, _ => exact tyX1_ok
  | 2, _ => exact tyX2_ok
  | 3, _ => exact tyX3_ok
  | 4, _ => exact tyX4_ok
  | 5, _ => exact tyX5_ok
  | 6, _ => exact tyX6_ok
  | 7, _ => exact tyX7_ok
  | 8, _ => exact tyX8_ok
theorem mNm {ci : Nat} (h : ci < 9) : ∀ a, a < mNF ci → ∀ b, b < mNF ci → a ≠ b → (mTt ci a).2.1 ≠ (mTt ci b).2.1 := by
  match ci, h with
  | 0, _ => exact nmX0
  | 1, _ => exact nmX1
  | 2, _ => exact nmX2
  | 3, _ => exact nmX3
  | 4, _ => exact nmX4
  | 5, _ => exact nmX5
  | 6, _ => exact nmX6
  | 7, _ => exact nmX7
  | 8, _ => exact nmX8
/-- the link of a field: at place idx of own's pool stands field k of kind ci -/
def mFld (own : String) (idx ci k : Nat) : Prop := ci < 9 ∧ k < mNF ci ∧ Cond.fieldLink own idx (mTt ci k).1 (mTt ci k).2.1 (mTt ci k).2.2.1 ∈ mTb
theorem mfs_at {ad : Nat → Nat} {h : HP} {ci a k : Nat} (hk : k < mNF ci) : ((List.range (mNF ci)).map (mfv ad h ci a))[k]? = some (mfv ad h ci a k) := by simp [hk]
section MHR
variable {B : BT} {c : Nat × Nat} {ad : Nat → Nat} {M : MR} {P : MP} {pc : Nat} {L : List (Option Value)} {st : List Value} {h : HP}
theorem g_getI {a ci n i k : Nat} (X : mCx B c ad M P) (d : decode M.2.1 pc = .ok (.getfield i, 3)) (F : mFld M.1.cls i ci k) (hi : mIs (mTy ci k) = true) (e : kd h a = some (ci, n)) (kk : mG B c ad M.2.2.1 (pc + 3) L (.int (rI h a k) :: st) h) : mG B c ad M.2.2.1 pc L (.ref a :: st) h := by
  obtain ⟨p, l, e0, R, s, m, args, below, meth, cd, Q, D, A⟩ := B
  intro H locs ls h1 h2 h3
  obtain ⟨ca, hP, hD, hT⟩ := h1
  have he : (mWl ad ca h)[a]? = some (ad a, .inr (ci, (List.range (mNF ci)).map (mfv ad h ci a))) := by rw [mWl_at (kd_lt e).1, mEnt_obj e F.1]
  refine va_get (cl := vwCl) X.1 X.2.1 X.2.2.2.2.1 (mIn F.1) X.2.2.2.1 X.2.2.2.2.2.1 hP a he (mCl_at F.1) k F.2.1 (X.2.2.2.2.1 _ F.2.2) (fun _ q => q) (mfs_at F.2.1) d ?_
  have hv : mfv ad h ci a k = .int (rI h a k) := by unfold mfv; rw [if_pos hi]
  rw [hv]
  exact kk H locs ls ⟨ca, hP, hD, hT⟩ h2 h3
theorem g_getR {a ci n i k b : Nat} (X : mCx B c ad M P) (d : decode M.2.1 pc = .ok (.getfield i, 3)) (F : mFld M.1.cls i ci k) (hi : mIs (mTy ci k) = false) (e : kd h a = some (ci, n)) (hr : rR h a k = some b) (kk : mG B c ad M.2.2.1 (pc + 3) L (.ref b :: st) h) : mG B c ad M.2.2.1 pc L (.ref a :: st) h := by
  obtain ⟨p, l, e0, R, s, m, args, below, meth, cd, Q, D, A⟩ := B
  intro H locs ls h1 h2 h3
  obtain ⟨ca, hP, hD, hT⟩ := h1
  have he : (mWl ad ca h)[a]? = some (ad a, .inr (ci, (List.range (mNF ci)).map (mfv ad h ci a))) := by rw [mWl_at (kd_lt e).1, mEnt_obj e F.1]
  refine va_get (cl := vwCl) X.1 X.2.1 X.2.2.2.2.1 (mIn F.1) X.2.2.2.1 X.2.2.2.2.2.1 hP a he (mCl_at F.1) k F.2.1 (X.2.2.2.2.1 _ F.2.2) (fun _ q => q) (mfs_at F.2.1) d ?_
  have hv : mfv ad h ci a k = .ref (ad b) := by unfold mfv; rw [if_neg (by rw [hi]; decide), hr]; rfl
  rw [hv]
  exact kk H locs ls ⟨ca, hP, hD, hT⟩ h2 h3
theorem g_putI {a ci n i k : Nat} {v : Int32} (X : mCx B c ad M P) (d : decode M.2.1 pc = .ok (.putfield i, 3)) (F : mFld M.1.cls i ci k) (hi : mIs (mTy ci k) = true) (hf : (mTt ci k).2.2.2 = false) (e : kd h a = some (ci, n)) (hv : narrow (mTy ci k) (.int v) = .int v ∧ fits (mTy ci k) (.int v) = true) (kk : mG B c ad M.2.2.1 (pc + 3) L st (wI h a k v)) : mG B c ad M.2.2.1 pc L (.int v :: .ref a :: st) h := by
  obtain ⟨p, l, e0, R, s, m, args, below, meth, cd, Q, D, A⟩ := B
  intro H locs ls h1 h2 h3
  obtain ⟨ca, hP, hD, hT⟩ := h1
  have he : (mWl ad ca h)[a]? = some (ad a, .inr (ci, (List.range (mNF ci)).map (mfv ad h ci a))) := by rw [mWl_at (kd_lt e).1, mEnt_obj e F.1]
  refine va_put (cl := vwCl) (v := .int v) X.1 X.2.1 X.2.2.2.2.1 (mIn F.1) (mTy ci) (mTyOk F.1) (mNm F.1) X.2.2.2.1 X.2.2.2.2.2.1 hP hD h2 a he (mCl_at F.1) k F.2.1 (X.2.2.2.2.1 _ F.2.2) (fun _ q => q) hf (mTyOk F.1 k F.2.1) hv.1 hv.2 (by simpa using F.2.1) d (fun H1 locs1 q1 q2 q3 => ?_)
  rw [← mWl_obj e F.1 F.2.1 hi] at q1 q2
  exact kk H1 locs1 ls ⟨ca, q1, q2, hT⟩ q3 h3
theorem g_putR {a ci n i k b : Nat} (X : mCx B c ad M P) (d : decode M.2.1 pc = .ok (.putfield i, 3)) (F : mFld M.1.cls i ci k) (hi : mIs (mTy ci k) = false) (hf : (mTt ci k).2.2.2 = false) (e : kd h a = some (ci, n)) (kk : mG B c ad M.2.2.1 (pc + 3) L st (wR h a k (some b))) : mG B c ad M.2.2.1 pc L (.ref b :: .ref a :: st) h := by
  obtain ⟨p, l, e0, R, s, m, args, below, meth, cd, Q, D, A⟩ := B
  intro H locs ls h1 h2 h3
  obtain ⟨ca, hP, hD, hT⟩ := h1
  have he : (mWl ad ca h)[a]? = some (ad a, .inr (ci, (List.range (mNF ci)).map (mfv ad h ci a))) := by rw [mWl_at (kd_lt e).1, mEnt_obj e F.1]
  have hnf : narrow (mTy ci k) (.ref (ad b)) = .ref (ad b) ∧ fits (mTy ci k) (.ref (ad b)) = true := by
    cases ht : mTy ci k <;> first | exact ⟨rfl, rfl⟩ | (rw [ht] at hi; cases hi)
  refine va_put (cl := vwCl) (v := .ref (ad b)) X.1 X.2.1 X.2.2.2.2.1 (mIn F.1) (mTy ci) (mTyOk F.1) (mNm F.1) X.2.2.2.1 X.2.2.2.2.2.1 hP hD h2 a he (mCl_at F.1) k F.2.1 (X.2.2.2.2.1 _ F.2.2) (fun _ q => q) hf (mTyOk F.1 k F.2.1) hnf.1 hnf.2 (by simpa using F.2.1) d (fun H1 locs1 q1 q2 q3 => ?_)
  have hw := mWl_objR (ad := ad) (ca := ca) (v := some b) e F.1 F.2.1 hi
  rw [show va_rf ((some b).map ad) = .ref (ad b) from rfl] at hw
  rw [← hw] at q1 q2
  exact kk H1 locs1 ls ⟨ca, q1, q2, hT⟩ q3 h3
theorem g_putRF {a ci n i k b : Nat} (X : mCx B c ad M P) (d : decode M.2.1 pc = .ok (.putfield i, 3)) (F : mFld M.1.cls i ci k) (hi : mIs (mTy ci k) = false) (hf : (mTt ci k).2.2.2 = true) (hdc : (mTt ci k).1 = M.1.cls) (hin : M.1.name = "<init>") (e : kd h a = some (ci, n)) (kk : mG B c ad M.2.2.1 (pc + 3) L st (wR h a k (some b))) : mG B c ad M.2.2.1 pc L (.ref b :: .ref a :: st) h := by
  obtain ⟨p, l, e0, R, s, m, args, below, meth, cd, Q, D, A⟩ := B
  intro H locs ls h1 h2 h3
  obtain ⟨ca, hP, hD, hT⟩ := h1
  have he : (mWl ad ca h)[a]? = some (ad a, .inr (ci, (List.range (mNF ci)).map (mfv ad h ci a))) := by rw [mWl_at (kd_lt e).1, mEnt_obj e F.1]
  have hnf : narrow (mTy ci k) (.ref (ad b)) = .ref (ad b) ∧ fits (mTy ci k) (.ref (ad b)) = true := by
    cases ht : mTy ci k <;> first | exact ⟨rfl, rfl⟩ | (rw [ht] at hi; cases hi)
  refine va_putF (cl := vwCl) (v := .ref (ad b)) X.1 X.2.1 X.2.2.2.2.1 (mIn F.1) (mTy ci) (mTyOk F.1) (mNm F.1) X.2.2.2.1 X.2.2.2.2.2.1 hP hD h2 a he (mCl_at F.1) k F.2.1 (X.2.2.2.2.1 _ F.2.2) (fun _ q => q) hf (X.2.2.2.2.2.2.2.2.2.1.trans hin) hdc (mTyOk F.1 k F.2.1) hnf.1 hnf.2 (by simpa using F.2.1) d (fun H1 locs1 q1 q2 q3 => ?_)
  have hw := mWl_objR (ad := ad) (ca := ca) (v := some b) e F.1 F.2.1 hi
  rw [show va_rf ((some b).map ad) = .ref (ad b) from rfl] at hw
  rw [← hw] at q1 q2
  exact kk H1 locs1 ls ⟨ca, q1, q2, hT⟩ q3 h3
theorem mTyK {D : va_G} {s : State} {ca : Nat → ClassId} {a ci n : Nat} (hK : va_K D vwCl [] s) (e : kd h a = some (ci, n)) (h9 : 9 ≤ ci) (hT : ∀ a, a < h.1 → 9 ≤ (h.2.1 a).1 → ArrOfT s (ca a) (mAty (h.2.1 a).1) ∧ va_RA s (ca a) (mAty (h.2.1 a).1)) : va_K D vwCl [(ca a, mAty ci)] s := by
  refine ⟨hK.1, fun k q hk => ?_⟩
  have hz : k < 1 := (List.getElem?_eq_some_iff.mp hk).1
  rw [show k = 0 by omega] at hk
  cases hk
  obtain ⟨e1, e2⟩ := kd_lt e
  have := hT a e1 (by rw [e2]; exact h9)
  rw [e2] at this
  exact this
theorem g_iald {a n : Nat} {i : Int32} (X : mCx B c ad M P) (d : decode M.2.1 pc = .ok (.iaload, 1)) (e : kd h a = some (20, n)) (hin : vp_in i n) (kk : mG B c ad M.2.2.1 (pc + 1) L (.int (rI h a i.toNatClampNeg) :: st) h) : mG B c ad M.2.2.1 pc L (.int i :: .ref a :: st) h := by
  obtain ⟨p, l, e0, R, s, m, args, below, meth, cd, Q, D, A⟩ := B
  intro H locs ls h1 h2 h3
  obtain ⟨ca, hP, hD, hT⟩ := h1
  exact va_iald X.1 X.2.1 (mTyK X.2.2.2.2.2.1 e (by decide) hT) hP a 0 (by rw [mWl_at (kd_lt e).1, mEnt_int e (by decide) (by decide)]) rfl hin d (kk H locs ls ⟨ca, hP, hD, hT⟩ h2 h3)
theorem g_bald {a n : Nat} {i : Int32} (X : mCx B c ad M P) (d : decode M.2.1 pc = .ok (.baload, 1)) (e : kd h a = some (21, n)) (hin : vp_in i n) (kk : mG B c ad M.2.2.1 (pc + 1) L (.int (rI h a i.toNatClampNeg) :: st) h) : mG B c ad M.2.2.1 pc L (.int i :: .ref a :: st) h := by
  obtain ⟨p, l, e0, R, s, m, args, below, meth, cd, Q, D, A⟩ := B
  intro H locs ls h1 h2 h3
  obtain ⟨ca, hP, hD, hT⟩ := h1
  exact va_bald X.1 X.2.1 (mTyK X.2.2.2.2.2.1 e (by decide) hT) hP a 0 (by rw [mWl_at (kd_lt e).1, mEnt_int e (by decide) (by decide)]) rfl hin d (kk H locs ls ⟨ca, hP, hD, hT⟩ h2 h3)
theorem g_iast {a n : Nat} {i x : Int32} (X : mCx B c ad M P) (d : decode M.2.1 pc = .ok (.iastore, 1)) (e : kd h a = some (20, n)) (hin : vp_in i n) (kk : mG B c ad M.2.2.1 (pc + 1) L st (wI h a i.toNatClampNeg x)) : mG B c ad M.2.2.1 pc L (.int x :: .int i :: .ref a :: st) h := by
  obtain ⟨p, l, e0, R, s, m, args, below, meth, cd, Q, D, A⟩ := B
  intro H locs ls h1 h2 h3
  obtain ⟨ca, hP, hD, hT⟩ := h1
  refine va_iast X.1 X.2.1 (mTyK X.2.2.2.2.2.1 e (by decide) hT) hP hD h2 a 0 (by rw [mWl_at (kd_lt e).1, mEnt_int e (by decide) (by decide)]) rfl hin d (fun H1 locs1 q1 q2 q3 => ?_)
  rw [← mWl_arr e (by decide) (by decide)] at q1 q2
  exact kk H1 locs1 ls ⟨ca, q1, q2, hT⟩ q3 h3
theorem g_bast {a n : Nat} {i x : Int32} (X : mCx B c ad M P) (d : decode M.2.1 pc = .ok (.bastore, 1)) (e : kd h a = some (21, n)) (hin : vp_in i n) (kk : mG B c ad M.2.2.1 (pc + 1) L st (wI h a i.toNatClampNeg (vp_nar .byte x))) : mG B c ad M.2.2.1 pc L (.int x :: .int i :: .ref a :: st) h := by
  obtain ⟨p, l, e0, R, s, m, args, below, meth, cd, Q, D, A⟩ := B
  intro H locs ls h1 h2 h3
  obtain ⟨ca, hP, hD, hT⟩ := h1
  refine va_bast X.1 X.2.1 (mTyK X.2.2.2.2.2.1 e (by decide) hT) hP hD h2 a 0 (by rw [mWl_at (kd_lt e).1, mEnt_int e (by decide) (by decide)]) rfl hin d (fun H1 locs1 q1 q2 q3 => ?_)
  rw [← mWl_arr e (by decide) (by decide)] at q1 q2
  exact kk H1 locs1 ls ⟨ca, q1, q2, hT⟩ q3 h3
theorem g_alen {a ci n : Nat} {v : Int32} (X : mCx B c ad M P) (d : decode M.2.1 pc = .ok (.arraylength, 1)) (e : kd h a = some (ci, n)) (h9 : 9 ≤ ci) (hv : Int32.ofNat n = v) (kk : mG B c ad M.2.2.1 (pc + 1) L (.int v :: st) h) : mG B c ad M.2.2.1 pc L (.ref a :: st) h := by
  obtain ⟨p, l, e0, R, s, m, args, below, meth, cd, Q, D, A⟩ := B
  intro H locs ls h1 h2 h3
  obtain ⟨ca, hP, hD, hT⟩ := h1
  rcases Nat.lt_or_ge ci 22 with hc | hc
  · exact va_alen X.1 X.2.1 (mTyK X.2.2.2.2.2.1 e h9 hT) hP a 0 (by rw [mWl_at (kd_lt e).1, mEnt_int e (by omega) hc]) rfl hv d (kk H locs ls ⟨ca, hP, hD, hT⟩ h2 h3)
  · exact va_alen X.1 X.2.1 (mTyK X.2.2.2.2.2.1 e h9 hT) hP a 0 (by rw [mWl_at (kd_lt e).1, mEnt_ref e (by omega)]) rfl hv d (kk H locs ls ⟨ca, hP, hD, hT⟩ h2 h3)
theorem g_aald {a ci n b : Nat} {C : String} {i : Int32} (X : mCx B c ad M P) (d : decode M.2.1 pc = .ok (.aaload, 1)) (e : kd h a = some (ci, n)) (h22 : ¬ ci < 22) (hC : mAty ci = .object C) (hin : vp_in i n) (hb : rR h a i.toNatClampNeg = some b) (kk : mG B c ad M.2.2.1 (pc + 1) L (.ref b :: st) h) : mG B c ad M.2.2.1 pc L (.int i :: .ref a :: st) h := by
  obtain ⟨p, l, e0, R, s, m, args, below, meth, cd, Q, D, A⟩ := B
  intro H locs ls h1 h2 h3
  obtain ⟨ca, hP, hD, hT⟩ := h1
  refine va_aldq (C := C) X.1 X.2.1 (mTyK X.2.2.2.2.2.1 e (by omega) hT) hP a 0 (by rw [mWl_at (kd_lt e).1, mEnt_ref e h22]) (by rw [hC]; rfl) hin d ?_
  rw [hb]
  exact kk H locs ls ⟨ca, hP, hD, hT⟩ h2 h3
theorem g_aast {a ci n b cj nb : Nat} {i : Int32} (X : mCx B c ad M P) (d : decode M.2.1 pc = .ok (.aastore, 1)) (e : kd h a = some (ci, n)) (h22 : ¬ ci < 22) (hj : cj < 9) (hC : mAty ci = .object (mCn cj)) (e2 : kd h b = some (cj, nb)) (hin : vp_in i n) (kk : mG B c ad M.2.2.1 (pc + 1) L st (wR h a i.toNatClampNeg (some b))) : mG B c ad M.2.2.1 pc L (.ref b :: .int i :: .ref a :: st) h := by
  obtain ⟨p, l, e0, R, s, m, args, below, meth, cd, Q, D, A⟩ := B
  intro H locs ls h1 h2 h3
  obtain ⟨ca, hP, hD, hT⟩ := h1
  refine va_astq (r := (mCn cj, mTt cj, mNF cj)) (ci := cj) X.1 X.2.1 (mTyK X.2.2.2.2.2.1 e (by omega) hT) hP hD h2 a 0 b (by rw [mWl_at (kd_lt e).1, mEnt_ref e h22]) (by rw [hC]; rfl) (by rw [mWl_at (kd_lt e2).1, mEnt_obj e2 hj]) (mCl_at hj) hin d (fun H1 locs1 q1 q2 q3 => ?_)
  rw [← mWl_arrR e h22] at q1 q2
  exact kk H1 locs1 ls ⟨ca, q1, q2, hT⟩ q3 h3
theorem r_getI {a ci n i k : Nat} (d : decode M.2.1 pc = .ok (.getfield i, 3)) (F : mFld M.1.cls i ci k) (hi : mIs (mTy ci k) = true) (e : kd h a = some (ci, n)) (kk : mGM M (pc + 3) L (.int (rI h a k) :: st) h P) : mGM M pc L (.ref a :: st) h P := fun B c ad X => g_getI X d F hi e (kk B c ad X)
theorem r_getR {a ci n i k b : Nat} (d : decode M.2.1 pc = .ok (.getfield i, 3)) (F : mFld M.1.cls i ci k) (hi : mIs (mTy ci k) = false) (e : kd h a = some (ci, n)) (hr : rR h a k = some b) (kk : mGM M (pc + 3) L (.ref b :: st) h P) : mGM M pc L (.ref a :: st) h P := fun B c ad X => g_getR X d F hi e hr (kk B c ad X)
theorem r_putI {a ci n i k : Nat} {v : Int32} (d : decode M.2.1 pc = .ok (.putfield i, 3)) (F : mFld M.1.cls i ci k) (hi : mIs (mTy ci k) = true) (hf : (mTt ci k).2.2.2 = false) (e : kd h a = some (ci, n)) (hv : narrow (mTy ci k) (.int v) = .int v ∧ fits (mTy ci k) (.int v) = true) (kk : mGM M (pc + 3) L st (wI h a k v) P) : mGM M pc L (.int v :: .ref a :: st) h P := fun B c ad X => g_putI X d F hi hf e hv (kk B c ad X)
theorem r_putR {a ci n i k b : Nat} (d : decode M.2.1 pc = .ok (.putfield i, 3)) (F : mFld M.1.cls i ci k) (hi : mIs (mTy ci k) = false) (hf : (mTt ci k).2.2.2 = false) (e : kd h a = some (ci, n)) (kk : mGM M (pc + 3) L st (wR h a k (some b)) P) : mGM M pc L (.ref b :: .ref a :: st) h P := fun B c ad X => g_putR X d F hi hf e (kk B c ad X)
theorem r_iald {a n : Nat} {i : Int32} (d : decode M.2.1 pc = .ok (.iaload, 1)) (e : kd h a = some (20, n)) (hin : vp_in i n) (kk : mGM M (pc + 1) L (.int (rI h a i.toNatClampNeg) :: st) h P) : mGM M pc L (.int i :: .ref a :: st) h P := fun B c ad X => g_iald X d e hin (kk B c ad X)
theorem r_bald {a n : Nat} {i : Int32} (d : decode M.2.1 pc = .ok (.baload, 1)) (e : kd h a = some (21, n)) (hin : vp_in i n) (kk : mGM M (pc + 1) L (.int (rI h a i.toNatClampNeg) :: st) h P) : mGM M pc L (.int i :: .ref a :: st) h P := fun B c ad X => g_bald X d e hin (kk B c ad X)
theorem r_iast {a n : Nat} {i x : Int32} (d : decode M.2.1 pc = .ok (.iastore, 1)) (e : kd h a = some (20, n)) (hin : vp_in i n) (kk : mGM M (pc + 1) L st (wI h a i.toNatClampNeg x) P) : mGM M pc L (.int x :: .int i :: .ref a :: st) h P := fun B c ad X => g_iast X d e hin (kk B c ad X)
theorem r_bast {a n : Nat} {i x : Int32} (d : decode M.2.1 pc = .ok (.bastore, 1)) (e : kd h a = some (21, n)) (hin : vp_in i n) (kk : mGM M (pc + 1) L st (wI h a i.toNatClampNeg (vp_nar .byte x)) P) : mGM M pc L (.int x :: .int i :: .ref a :: st) h P := fun B c ad X => g_bast X d e hin (kk B c ad X)
theorem r_alen {a ci n : Nat} {v : Int32} (d : decode M.2.1 pc = .ok (.arraylength, 1)) (e : kd h a = some (ci, n)) (h9 : 9 ≤ ci) (hv : Int32.ofNat n = v) (kk : mGM M (pc + 1) L (.int v :: st) h P) : mGM M pc L (.ref a :: st) h P := fun B c ad X => g_alen X d e h9 hv (kk B c ad X)
theorem r_aald {a ci n b : Nat} {C : String} {i : Int32} (d : decode M.2.1 pc = .ok (.aaload, 1)) (e : kd h a = some (ci, n)) (h22 : ¬ ci < 22) (hC : mAty ci = .object C) (hin : vp_in i n) (hb : rR h a i.toNatClampNeg = some b) (kk : mGM M (pc + 1) L (.ref b :: st) h P) : mGM M pc L (.int i :: .ref a :: st) h P := fun B c ad X => g_aald X d e h22 hC hin hb (kk B c ad X)
theorem r_aast {a ci n b cj nb : Nat} {i : Int32} (d : decode M.2.1 pc = .ok (.aastore, 1)) (e : kd h a = some (ci, n)) (h22 : ¬ ci < 22) (hj : cj < 9) (hC : mAty ci = .object (mCn cj)) (e2 : kd h b = some (cj, nb)) (hin : vp_in i n) (kk : mGM M (pc + 1) L st (wR h a i.toNatClampNeg (some b)) P) : mGM M pc L (.ref b :: .int i :: .ref a :: st) h P := fun B c ad X => g_aast X d e h22 hj hC e2 hin (kk B c ad X)
end MHR

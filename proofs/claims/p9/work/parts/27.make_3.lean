section MCI
variable {B : BT} {c : Nat × Nat} {ad : Nat → Nat} {M : MR} {P : MP} {pc : Nat} {L : List (Option Value)} {st : List Value} {h : HP}
theorem g_callI (N : MR) {idx a mc ms : Nat} (X : mCx B c ad M P) (d : decode M.2.1 pc = .ok (.invokespecial idx, 3)) (hl : Cond.methodLink M.1.cls idx N.1 ∈ mTb ∨ ∃ host, (M.1.cls, idx, N.1, host) ∈ mNst) (hi : Cond.instanceMethod N.1 ∈ mTb) (mo : mMo N 0) (hnm : N.1.name = "<init>") (hret : N.2.2.2.1 = none) (hR : N.2.2.2.2.1 + 1 ≤ M.2.2.2.2.1 ∧ 8 + (N.2.2.1 + 11) + N.2.2.2.2.2 ≤ M.2.2.2.2.2) (hst : (st.map fun v => v.category).sum ≤ 8) (hc : c.1 + mc ≤ B.2.2.2.1.cells ∧ c.2 + ms ≤ B.2.2.2.1.slots) (hL : ∀ b, some (.ref b) ∈ L → b < h.1 ∨ mSB ≤ b) (hS : ∀ b, Value.ref b ∈ st → b < h.1 ∨ mSB ≤ b)
    (k : mSpN N [.ref a] h mc ms (fun h' => ∀ ad', (∀ b, b < h.1 ∨ mSB ≤ b → ad' b = ad b) → mG B (c.1 + mc, c.2 + ms) ad' M.2.2.1 (pc + 3) L st h')) : mG B c ad M.2.2.1 pc L (.ref a :: st) h := by
  obtain ⟨p, l, e0, R, s, m, args, below, meth, cd, Q, D, A⟩ := B
  intro H locs ls h1 h2 h3
  obtain ⟨x1, x2, x3, x4, x5, x6, x7, ⟨x8, x9, x10, x11⟩, x12, x13, -⟩ := X
  obtain ⟨y, cc, nL, ret, fr, lo⟩ := N
  have hret : ret = none := hret
  subst hret
  have hA := h1.free h2 x7
  have hM := k l D ad H.size
  have hpre : PreS s H (va_Pc ([Value.ref a].map (mcv ad)) (mPH D ad h H.size)) (.ref (ad a) :: []) := ⟨mBlind, fun U hU hW => ⟨rfl, by rw [hU], by rw [hU]; exact (h1.weaken (fun _ _ => trivial)).moved hW.alike, va_K.moved hW.alike x6, x12.go h2 hA hU hW⟩⟩
  have fin : ∀ (h' : HP) (ad' : Nat → Nat) (H1 : Heap) (locs1 : List Loc), (∀ ad', (∀ b, b < h.1 ∨ mSB ≤ b → ad' b = ad b) → mG (p, l, e0, R, s, m, args, below, meth, cd, Q, D, A) (c.1 + mc, c.2 + ms) ad' M.2.2.1 (pc + 3) L st h') → (∀ a, a < h.1 ∨ mSB ≤ a → ad' a = ad a) → mRep D A s ad' h' H1 → va_S A s.heap H1 locs1 → W p l e0 R s m args below meth cd H1 locs1 (c.1 + mc) (c.2 + ms) Q (F0 m (pc + 3) ls (st.map (mcv ad))) := by
    intro h' ad' H1 locs1 q1 q2 q3 q4
    have := q1 ad' q2 H1 locs1 ls q3 q4 (h3.ad (fun b hb => q2 b (hL b hb)))
    rwa [mSt_ad (fun b hb => q2 b (hS b hb))] at this
  rcases hl with hl | ⟨host, hl⟩
  · have cw : CallB R s args M.1.cls idx y cc nL none (mWs (y, cc, nL, none, fr, lo)) (mRmN (y, cc, nL, none, fr, lo) mc ms) mc ms 0 ∧ y.name = "<init>" ∧ (Cond.instanceMethod y).before args s = true := ⟨callB_of 0 x5 (mGoodWs mo.2.1) rfl rfl rfl (x5 _ mo.1) (x5 _ hl) ⟨mo.2.2.1.1, mo.2.2.1.2, mo.2.2.2⟩ ⟨Nat.le_trans hR.1 x8, Nat.le_trans hR.2 x9⟩, hnm, x5 _ hi⟩
    exact mContN (rest := st.map (mcv ad)) (va_runI (As := []) (rm := mRmN (y, cc, nL, none, fr, lo) mc ms) ⟨x1, x2, x3, x4, x5⟩ hM cw hpre rfl rfl h3.1.1 rfl (lv_room (by rw [mCats]; exact hst)) d hc) h2 hA fin
  · have cw : va_CN R s args M.1.cls idx y host cc nL none (mWs (y, cc, nL, none, fr, lo)) (mRmN (y, cc, nL, none, fr, lo) mc ms) mc ms 0 ∧ y.name = "<init>" ∧ (Cond.instanceMethod y).before args s = true := ⟨va_cnB 0 x5 (mGoodWs mo.2.1) rfl rfl rfl (x12.2.1 _ hl) (x5 _ mo.1) ⟨mo.2.2.1.1, mo.2.2.1.2, mo.2.2.2⟩ ⟨Nat.le_trans hR.1 x8, Nat.le_trans hR.2 x9⟩, hnm, x5 _ hi⟩
    exact mContN (rest := st.map (mcv ad)) (va_runIN (As := []) (rm := mRmN (y, cc, nL, none, fr, lo) mc ms) ⟨x1, x2, x3, x4, x5⟩ hM cw hpre rfl rfl h3.1.1 rfl (lv_room (by rw [mCats]; exact hst)) d hc) h2 hA fin
end MCI


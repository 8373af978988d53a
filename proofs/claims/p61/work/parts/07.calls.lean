/-! calls -/
/-- what the tables say of a method that is called -/
def mMo (N : MR) (n : Nat) : Prop := Cond.initialized N.1.cls ∈ mTb ∧ Cond.code N.1 N.2.1 N.2.2.1 N.2.2.2.1 ∈ mTb ∧ (N.1.cls ≠ "java/lang/invoke/MethodHandle" ∧ N.1.cls ≠ "java/lang/invoke/VarHandle") ∧ (parseMethodDescriptor N.1.desc).map (fun d => d.parameters.length) = some n
def mRm (N : MR) : Room := { frames := N.2.2.2.2.1, cells := 0, slots := 0, locals := N.2.2.2.2.2 }
theorem mBlind {D : va_G} {ad : Nat → Nat} {h : HP} {sz : Nat} {av : List Value} : FrameBlind (va_Pc av (mPH D ad h sz)) := by
  intro a U g mk q
  obtain ⟨q0, q1, q2, q3, q4⟩ := q
  exact ⟨q0, q1, q2.moved (u := U) (U := U.calling g mk a) (Vm.Alike.refl U.vm), va_K.moved (u := U) (U := U.calling g mk a) (Vm.Alike.refl U.vm) q3, q4.same (u := U) (U := U.calling g mk a) rfl rfl⟩
theorem mGoodWs {N : MR} (hc : Cond.code N.1 N.2.1 N.2.2.1 N.2.2.2.1 ∈ mTb) : GoodIn mTb (mWs N) := mTb_good (fun w hw => by
  rcases List.mem_cons.mp hw with q | q
  · rw [q]
    exact hc
  · exact q)
section MCA
variable {p : Program} {l : Launch} {e : Env} {R : Room} {s : State} {m : MethodId} {args : Array Value} {below : List Frame} {meth : Method} {cd : Code} {H : Heap} {locs : List Loc} {cells slots : Nat} {Q : State → Prop}
theorem mCont {D : va_G} {A : Nat → Prop} {ad : Nat → Nat} {h : HP} {P' : MP} {av : Array Value} {pc : Nat} {ls : Array Slot} {st0 rest : List Value} (hr : va_Run p l e R s m args below meth cd H locs cells slots 0 0 (F0 m pc ls st0) rest (mQH D ad h H.size P' av) (mAH ad h H.size)) (hS : va_S A s.heap H locs) (hA : ∀ q, mAH ad h H.size q → A q)
    (kk : ∀ (v : Option Value) (h' : HP) (H1 : Heap) (locs1 : List Loc), P' v h' → mRep D A s ad h' H1 → va_S A s.heap H1 locs1 → W p l e R s m args below meth cd H1 locs1 cells slots Q (F0 m (pc + 3) ls ((v.map (mcv ad)).toList ++ rest))) : W p l e R s m args below meth cd H locs cells slots Q (F0 m pc ls st0) := by
  intro T hT X
  obtain ⟨v, st₀, t, T', L, h0, X', hL, e1, e2, ⟨⟨w, h', hv, hp, hb⟩, hz, hk⟩, st⟩ := hr T hT X
  cases hv
  rw [h0] at hz hk
  have hal : s.vm.Alike t.vm := by rw [← e2]; exact X'.warmed.alike
  obtain ⟨t2, a1, b1⟩ := kk w h' T'.heap (locs ++ L) hp (by rw [e1]; exact (hb.moved hal.symm).weaken hA)
    ⟨Nat.le_trans hS.1 (by rw [e1]; exact hz), fun q h1 h2 => by rw [e1, hk q (Nat.lt_of_lt_of_le h1 hS.1) (fun z => h2 (hA q z))]; exact hS.2.1 q h1 h2, fun q hq => by
      rcases List.mem_append.mp hq with h | h
      · exact hS.2.2 q h
      · exact hA _ (hL q h)⟩ T' rfl X'
  exact ⟨t2, st t2 a1, b1⟩
end MCA
theorem mStMap {ad : Nat → Nat} {v : Option Value} {st : List Value} : (v.toList ++ st).map (mcv ad) = (v.map (mcv ad)).toList ++ st.map (mcv ad) := by cases v <;> simp
theorem mCats {ad : Nat → Nat} {st : List Value} : ((st.map (mcv ad)).map fun v => v.category).sum = (st.map fun v => v.category).sum := by
  rw [List.map_map]
  congr 2
  funext v
  exact mcv_cat ad v
section MCB
variable {B : BT} {c : Nat × Nat} {ad : Nat → Nat} {M : MR} {P : MP} {pc : Nat} {L : List (Option Value)} {st : List Value} {h : HP}
theorem g_callV (N : MR) {a ci q idx : Nat} {As : List Value} (X : mCx B c ad M P) (d : decode M.2.1 pc = .ok (.invokevirtual idx, 3)) (hl : Cond.methodLink M.1.cls idx N.1 ∈ mTb) (hi : Cond.instanceMethod N.1 ∈ mTb ∧ Cond.selects N.1.cls N.1 N.1 ∈ mTb) (mo : mMo N As.length) (e : kd h a = some (ci, q)) (hci : ci < 9 ∧ mCn ci = N.1.cls) (hR : N.2.2.2.2.1 + 1 ≤ M.2.2.2.2.1 ∧ 8 + (N.2.2.1 + 11) + N.2.2.2.2.2 ≤ M.2.2.2.2.2) (hst : (st.map fun v => v.category).sum ≤ 8)
    (k : mSp N (.ref a :: As) h (fun v h' => mG B c ad M.2.2.1 (pc + 3) L (v.toList ++ st) h')) : mG B c ad M.2.2.1 pc L (As.reverse ++ .ref a :: st) h := by
  obtain ⟨p, l, e0, R, s, m, args, below, meth, cd, Q, D, A⟩ := B
  intro H locs ls h1 h2 h3
  obtain ⟨x1, x2, x3, x4, x5, x6, x7, ⟨x8, x9, x10, x11⟩, x12, x13, -⟩ := X
  have hA := h1.free h2 x7
  have hM := k l D ad H.size
  obtain ⟨ca, hP, hD, hT⟩ := id h1
  have cw : CallW R s args M.1.cls N.1.cls idx N.1 N.2.1 N.2.2.1 N.2.2.2.1 (mWs N) (mRm N) 0 0 As.length := ⟨callB_of As.length x5 (mGoodWs mo.2.1) rfl rfl rfl (x5 _ mo.1) (x5 _ hl) ⟨mo.2.2.1.1, mo.2.2.1.2, mo.2.2.2⟩ ⟨Nat.le_trans hR.1 x8, Nat.le_trans hR.2 x9⟩, x5 _ hi.1, x5 _ hi.2⟩
  have hrecv := va_recv x6 hP (mCl_at hci.1) (q0 := a) (a := ad a) (by rw [mWl_at (kd_lt e).1, mEnt_obj e hci.1])
  rw [show (mCn ci, mTt ci, mNF ci).1 = N.1.cls from hci.2] at hrecv
  refine mCont (rest := st.map (mcv ad)) (va_runV (As := As.map (mcv ad)) (rm := mRm N) ⟨x1, x2, x3, x4, x5⟩ hM cw ⟨mBlind, hrecv, fun U hU hW => ⟨rfl, by rw [hU], by rw [hU]; exact (h1.weaken (fun _ _ => trivial)).moved hW.alike, va_K.moved hW.alike x6, x12.go h2 hA hU hW⟩⟩ rfl (by simp) h3.1.1 (by show List.map _ _ = _; simp [mcv]) (lv_room (by rw [mCats]; exact hst)) d ⟨x10, x11⟩) h2 hA (fun v h' H1 locs1 q1 q2 q3 => ?_)
  have := q1 H1 locs1 ls q2 q3 h3
  rw [mStMap] at this
  exact this
theorem g_callS (N : MR) {idx : Nat} {As : List Value} (X : mCx B c ad M P) (d : decode M.2.1 pc = .ok (.invokestatic idx, 3)) (hl : Cond.methodLink M.1.cls idx N.1 ∈ mTb) (hi : Cond.static N.1 ∈ mTb) (mo : mMo N As.length) (hR : N.2.2.2.2.1 + 1 ≤ M.2.2.2.2.1 ∧ 8 + (N.2.2.1 + 11) + N.2.2.2.2.2 ≤ M.2.2.2.2.2) (hst : (st.map fun v => v.category).sum ≤ 8)
    (k : mSp N As h (fun v h' => mG B c ad M.2.2.1 (pc + 3) L (v.toList ++ st) h')) : mG B c ad M.2.2.1 pc L (As.reverse ++ st) h := by
  obtain ⟨p, l, e0, R, s, m, args, below, meth, cd, Q, D, A⟩ := B
  intro H locs ls h1 h2 h3
  obtain ⟨x1, x2, x3, x4, x5, x6, x7, ⟨x8, x9, x10, x11⟩, x12, x13, -⟩ := X
  have hA := h1.free h2 x7
  have hM := k l D ad H.size
  have cw : CallB R s args M.1.cls idx N.1 N.2.1 N.2.2.1 N.2.2.2.1 (mWs N) (mRm N) 0 0 As.length ∧ (Cond.static N.1).before args s = true := ⟨callB_of As.length x5 (mGoodWs mo.2.1) rfl rfl rfl (x5 _ mo.1) (x5 _ hl) ⟨mo.2.2.1.1, mo.2.2.1.2, mo.2.2.2⟩ ⟨Nat.le_trans hR.1 x8, Nat.le_trans hR.2 x9⟩, x5 _ hi⟩
  refine mCont (rest := st.map (mcv ad)) (va_runS (As := As.map (mcv ad)) (rm := mRm N) ⟨x1, x2, x3, x4, x5⟩ hM cw ⟨mBlind, fun U hU hW => ⟨rfl, by rw [hU], by rw [hU]; exact (h1.weaken (fun _ _ => trivial)).moved hW.alike, va_K.moved hW.alike x6, x12.go h2 hA hU hW⟩⟩ rfl (by simp) h3.1.1 (by show List.map _ _ = _; simp) (lv_room (by rw [mCats]; exact hst)) d ⟨x10, x11⟩) h2 hA (fun v h' H1 locs1 q1 q2 q3 => ?_)
  have := q1 H1 locs1 ls q2 q3 h3
  rw [mStMap] at this
  exact this
theorem g_callSN (N : MR) {idx : Nat} {host : String} {As : List Value} (X : mCx B c ad M P) (d : decode M.2.1 pc = .ok (.invokestatic idx, 3)) (hl : (M.1.cls, idx, N.1, host) ∈ mNst) (hi : Cond.static N.1 ∈ mTb) (mo : mMo N As.length) (hR : N.2.2.2.2.1 + 1 ≤ M.2.2.2.2.1 ∧ 8 + (N.2.2.1 + 11) + N.2.2.2.2.2 ≤ M.2.2.2.2.2) (hst : (st.map fun v => v.category).sum ≤ 8)
    (k : mSp N As h (fun v h' => mG B c ad M.2.2.1 (pc + 3) L (v.toList ++ st) h')) : mG B c ad M.2.2.1 pc L (As.reverse ++ st) h := by
  obtain ⟨p, l, e0, R, s, m, args, below, meth, cd, Q, D, A⟩ := B
  intro H locs ls h1 h2 h3
  obtain ⟨x1, x2, x3, x4, x5, x6, x7, ⟨x8, x9, x10, x11⟩, x12, x13, -⟩ := X
  have hA := h1.free h2 x7
  have hM := k l D ad H.size
  have cw : va_CN R s args M.1.cls idx N.1 host N.2.1 N.2.2.1 N.2.2.2.1 (mWs N) (mRm N) 0 0 As.length ∧ (Cond.static N.1).before args s = true ∧ True := ⟨va_cnB As.length x5 (mGoodWs mo.2.1) rfl rfl rfl (x12.2.1 (M.1.cls, idx, N.1, host) hl) (x5 _ mo.1) ⟨mo.2.2.1.1, mo.2.2.1.2, mo.2.2.2⟩ ⟨Nat.le_trans hR.1 x8, Nat.le_trans hR.2 x9⟩, x5 _ hi, trivial⟩
  refine mCont (rest := st.map (mcv ad)) (va_runSN (As := As.map (mcv ad)) (rm := mRm N) ⟨x1, x2, x3, x4, x5⟩ hM cw ⟨mBlind, fun U hU hW => ⟨rfl, by rw [hU], by rw [hU]; exact (h1.weaken (fun _ _ => trivial)).moved hW.alike, va_K.moved hW.alike x6, x12.go h2 hA hU hW⟩⟩ rfl (by simp) h3.1.1 (by show List.map _ _ = _; simp) (lv_room (by rw [mCats]; exact hst)) d ⟨x10, x11⟩) h2 hA (fun v h' H1 locs1 q1 q2 q3 => ?_)
  have := q1 H1 locs1 ls q2 q3 h3
  rw [mStMap] at this
  exact this
theorem g_mmax {idx : Nat} {x y : Int32} (X : mCx B c ad M P) (d : decode M.2.1 pc = .ok (.invokestatic idx, 3)) (hl : Cond.methodLink M.1.cls idx Lib.Math.max.name ∈ mTb) (hw : Cond.static Lib.Math.max.name ∈ mTb ∧ Cond.initialized "java/lang/Math" ∈ mTb ∧ Cond.code Lib.Math.max.name Lib.Math.max.code 2 (some .int) ∈ mTb) (hR : 1 ≤ M.2.2.2.2.1 ∧ 21 ≤ M.2.2.2.2.2) (hst : (st.map fun v => v.category).sum ≤ 8) (k : mG B c ad M.2.2.1 (pc + 3) L (.int (if x < y then y else x) :: st) h) : mG B c ad M.2.2.1 pc L (.int y :: .int x :: st) h := by
  obtain ⟨p, l, e0, R, s, m, args, below, meth, cd, Q, D, A⟩ := B
  intro H locs ls h1 h2 h3
  obtain ⟨x1, x2, x3, x4, x5, x6, x7, ⟨x8, x9, x10, x11⟩, x12, x13, -⟩ := X
  exact va_mmax x1 x2 (x3.trans h3.1.1.symm) x4 (x5 _ hl) (x5 _ hw.1) (x5 _ hw.2.1) (x5 _ hw.2.2) (Nat.le_trans hR.1 x8) (by rw [mCats]; omega) x10 x11 d (k H locs ls h1 h2 h3)
theorem g_mmin {idx : Nat} {x y : Int32} (X : mCx B c ad M P) (d : decode M.2.1 pc = .ok (.invokestatic idx, 3)) (hl : Cond.methodLink M.1.cls idx Lib.Math.min.name ∈ mTb) (hw : Cond.static Lib.Math.min.name ∈ mTb ∧ Cond.initialized "java/lang/Math" ∈ mTb ∧ Cond.code Lib.Math.min.name Lib.Math.min.code 2 (some .int) ∈ mTb) (hR : 1 ≤ M.2.2.2.2.1 ∧ 21 ≤ M.2.2.2.2.2) (hst : (st.map fun v => v.category).sum ≤ 8) (k : mG B c ad M.2.2.1 (pc + 3) L (.int (if y < x then y else x) :: st) h) : mG B c ad M.2.2.1 pc L (.int y :: .int x :: st) h := by
  obtain ⟨p, l, e0, R, s, m, args, below, meth, cd, Q, D, A⟩ := B
  intro H locs ls h1 h2 h3
  obtain ⟨x1, x2, x3, x4, x5, x6, x7, ⟨x8, x9, x10, x11⟩, x12, x13, -⟩ := X
  exact va_mmin x1 x2 (x3.trans h3.1.1.symm) x4 (x5 _ hl) (x5 _ hw.1) (x5 _ hw.2.1) (x5 _ hw.2.2) (Nat.le_trans hR.1 x8) (by rw [mCats]; omega) x10 x11 d (k H locs ls h1 h2 h3)
theorem r_callV (N : MR) {a ci q idx : Nat} {As : List Value} (d : decode M.2.1 pc = .ok (.invokevirtual idx, 3)) (hl : Cond.methodLink M.1.cls idx N.1 ∈ mTb) (hi : Cond.instanceMethod N.1 ∈ mTb ∧ Cond.selects N.1.cls N.1 N.1 ∈ mTb) (mo : mMo N As.length) (e : kd h a = some (ci, q)) (hci : ci < 9 ∧ mCn ci = N.1.cls) (hR : N.2.2.2.2.1 + 1 ≤ M.2.2.2.2.1 ∧ 8 + (N.2.2.1 + 11) + N.2.2.2.2.2 ≤ M.2.2.2.2.2) (hst : (st.map fun v => v.category).sum ≤ 8)
    (k : mSp N (.ref a :: As) h (fun v h' => mGM M (pc + 3) L (v.toList ++ st) h' P)) : mGM M pc L (As.reverse ++ .ref a :: st) h P := fun B c ad X => g_callV N X d hl hi mo e hci hR hst (mSp_mono k (fun v h' q => q B c ad X))
theorem r_callS (N : MR) {idx : Nat} {As : List Value} (d : decode M.2.1 pc = .ok (.invokestatic idx, 3)) (hl : Cond.methodLink M.1.cls idx N.1 ∈ mTb) (hi : Cond.static N.1 ∈ mTb) (mo : mMo N As.length) (hR : N.2.2.2.2.1 + 1 ≤ M.2.2.2.2.1 ∧ 8 + (N.2.2.1 + 11) + N.2.2.2.2.2 ≤ M.2.2.2.2.2) (hst : (st.map fun v => v.category).sum ≤ 8)
    (k : mSp N As h (fun v h' => mGM M (pc + 3) L (v.toList ++ st) h' P)) : mGM M pc L (As.reverse ++ st) h P := fun B c ad X => g_callS N X d hl hi mo hR hst (mSp_mono k (fun v h' q => q B c ad X))
theorem r_callSN (N : MR) {idx : Nat} {host : String} {As : List Value} (d : decode M.2.1 pc = .ok (.invokestatic idx, 3)) (hl : (M.1.cls, idx, N.1, host) ∈ mNst) (hi : Cond.static N.1 ∈ mTb) (mo : mMo N As.length) (hR : N.2.2.2.2.1 + 1 ≤ M.2.2.2.2.1 ∧ 8 + (N.2.2.1 + 11) + N.2.2.2.2.2 ≤ M.2.2.2.2.2) (hst : (st.map fun v => v.category).sum ≤ 8)
    (k : mSp N As h (fun v h' => mGM M (pc + 3) L (v.toList ++ st) h' P)) : mGM M pc L (As.reverse ++ st) h P := fun B c ad X => g_callSN N X d hl hi mo hR hst (mSp_mono k (fun v h' q => q B c ad X))
theorem r_mmax {idx : Nat} {x y : Int32} (d : decode M.2.1 pc = .ok (.invokestatic idx, 3)) (hl : Cond.methodLink M.1.cls idx Lib.Math.max.name ∈ mTb) (hw : Cond.static Lib.Math.max.name ∈ mTb ∧ Cond.initialized "java/lang/Math" ∈ mTb ∧ Cond.code Lib.Math.max.name Lib.Math.max.code 2 (some .int) ∈ mTb) (hR : 1 ≤ M.2.2.2.2.1 ∧ 21 ≤ M.2.2.2.2.2) (hst : (st.map fun v => v.category).sum ≤ 8) (k : mGM M (pc + 3) L (.int (if x < y then y else x) :: st) h P) : mGM M pc L (.int y :: .int x :: st) h P := fun B c ad X => g_mmax X d hl hw hR hst (k B c ad X)
theorem r_mmin {idx : Nat} {x y : Int32} (d : decode M.2.1 pc = .ok (.invokestatic idx, 3)) (hl : Cond.methodLink M.1.cls idx Lib.Math.min.name ∈ mTb) (hw : Cond.static Lib.Math.min.name ∈ mTb ∧ Cond.initialized "java/lang/Math" ∈ mTb ∧ Cond.code Lib.Math.min.name Lib.Math.min.code 2 (some .int) ∈ mTb) (hR : 1 ≤ M.2.2.2.2.1 ∧ 21 ≤ M.2.2.2.2.2) (hst : (st.map fun v => v.category).sum ≤ 8) (k : mGM M (pc + 3) L (.int (if y < x then y else x) :: st) h P) : mGM M pc L (.int y :: .int x :: st) h P := fun B c ad X => g_mmin X d hl hw hR hst (k B c ad X)
end MCB

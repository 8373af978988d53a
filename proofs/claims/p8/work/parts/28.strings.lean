/-! String constants: length() and charAt(k) -/
section MST
variable {B : BT} {c : Nat × Nat} {ad : Nat → Nat} {M : MR} {P : MP} {pc : Nat} {L : List (Option Value)} {st : List Value} {h : HP}
theorem g_getsC {i : Nat} (X : mCx B c ad M P) (d : decode M.2.1 pc = .ok (.getstatic i, 3)) (F : Cond.fieldLink M.1.cls i "java/lang/String" "COMPACT_STRINGS" "Z" ∈ mTb) (k : mG B c ad M.2.2.1 (pc + 3) L (.int 1 :: st) h) : mG B c ad M.2.2.1 pc L st h := by
  obtain ⟨p, l, e0, R, s, m, args, below, meth, cd, Q, D, A⟩ := B
  exact fun H locs ls h1 h2 h3 => va_gets X.1 X.2.1 X.2.2.2.2.2.2.2.2.1.1 h2 X.2.2.2.1 (X.2.2.2.2.1 _ F) (fun _ q => q) d (k H locs ls h1 h2 h3)
theorem g_getsF {i : Nat} (X : mCx B c ad M P) (d : decode M.2.1 pc = .ok (.getstatic i, 3)) (F : Cond.fieldLink M.1.cls i mFm.1 mFm.2.1 mFm.2.2 ∈ mTb) (k1 : mG B c ad M.2.2.1 (pc + 3) L (.null :: st) h) (k2 : mG B c ad M.2.2.1 (pc + 3) L (.ref (mSB + 900) :: st) h) : mG B c ad M.2.2.1 pc L st h := by
  obtain ⟨p, l, e0, R, s, m, args, below, meth, cd, Q, D, A⟩ := B
  intro H locs ls h1 h2 h3
  rcases X.2.2.2.2.2.2.2.2.1.2.2.2.1 with z | z
  · exact va_gets X.1 X.2.1 z h2 X.2.2.2.1 (X.2.2.2.2.1 _ F) (fun _ q => q) d (k1 H locs ls h1 h2 h3)
  · exact va_gets X.1 X.2.1 z h2 X.2.2.2.1 (X.2.2.2.2.1 _ F) (fun _ q => q) d (k2 H locs ls h1 h2 h3)
theorem g_strV {i j : Nat} {q : String × Nat × String × List Int32} (X : mCx B c ad M P) (d : decode M.2.1 pc = .ok (.getfield i, 3)) (F : Cond.fieldLink M.1.cls i "java/lang/String" "value" "[B" ∈ mTb) (hj : mS[j]? = some q) (k : mG B c ad M.2.2.1 (pc + 3) L (.ref (mSB + 100 + j) :: st) h) : mG B c ad M.2.2.1 pc L (.ref (mSB + j) :: st) h := by
  obtain ⟨p, l, e0, R, s, m, args, below, meth, cd, Q, D, A⟩ := B
  exact fun H locs ls h1 h2 h3 => vk_getf X.1 X.2.1 (X.2.2.2.2.2.2.2.2.1.2.2.1 j q hj).2.2.2.1 h2 X.2.2.2.1 (X.2.2.2.2.1 _ F) (fun _ q => q) d (k H locs ls h1 h2 h3)
theorem g_strC {i j : Nat} {q : String × Nat × String × List Int32} (X : mCx B c ad M P) (d : decode M.2.1 pc = .ok (.getfield i, 3)) (F : Cond.fieldLink M.1.cls i "java/lang/String" "coder" "B" ∈ mTb) (hj : mS[j]? = some q) (k : mG B c ad M.2.2.1 (pc + 3) L (.int 0 :: st) h) : mG B c ad M.2.2.1 pc L (.ref (mSB + j) :: st) h := by
  obtain ⟨p, l, e0, R, s, m, args, below, meth, cd, Q, D, A⟩ := B
  exact fun H locs ls h1 h2 h3 => vk_getf X.1 X.2.1 (X.2.2.2.2.2.2.2.2.1.2.2.1 j q hj).2.2.1 h2 X.2.2.2.1 (X.2.2.2.2.1 _ F) (fun _ q => q) d (k H locs ls h1 h2 h3)
theorem g_slen {j : Nat} {q : String × Nat × String × List Int32} (X : mCx B c ad M P) (d : decode M.2.1 pc = .ok (.arraylength, 1)) (hj : mS[j]? = some q) (k : mG B c ad M.2.2.1 (pc + 1) L (.int (nI q.2.2.2.length) :: st) h) : mG B c ad M.2.2.1 pc L (.ref (mSB + 100 + j) :: st) h := by
  obtain ⟨p, l, e0, R, s, m, args, below, meth, cd, Q, D, A⟩ := B
  intro H locs ls h1 h2 h3
  obtain ⟨cell, c1, c2, c3, c4, c5, c6, c7⟩ := ((X.2.2.2.2.2.2.2.2.1.2.2.1 j q hj).2.2.2.2).kept h2.2.1
  exact W.alen (n := Int32.ofNat q.2.2.2.length) X.1 X.2.1 c1 c2 c5 rfl rfl d (k H locs ls h1 h2 h3)
theorem g_sald {j n : Nat} {q : String × Nat × String × List Int32} (X : mCx B c ad M P) (d : decode M.2.1 pc = .ok (.baload, 1)) (hj : mS[j]? = some q) (hn : n < q.2.2.2.length) (hl : q.2.2.2.length < 2 ^ 31) (k : mG B c ad M.2.2.1 (pc + 1) L (.int (q.2.2.2.getD n 0) :: st) h) : mG B c ad M.2.2.1 pc L (.int (nI n) :: .ref (mSB + 100 + j) :: st) h := by
  obtain ⟨p, l, e0, R, s, m, args, below, meth, cd, Q, D, A⟩ := B
  intro H locs ls h1 h2 h3
  obtain ⟨cell, c1, c2, c3, c4, c5, c6, c7⟩ := ((X.2.2.2.2.2.2.2.2.1.2.2.1 j q hj).2.2.2.2).kept h2.2.1
  have hc : (nI n).toNatClampNeg = n := nI_clamp (by omega)
  exact W.bald (v := .int (q.2.2.2.getD n 0)) X.1 X.2.1 c1 c2 c3 (by rw [hc]; intro z; exact z.elim (nI_pos (by omega)) (fun z => by omega)) (by rw [hc]; exact c6 n hn) rfl rfl d (k H locs ls h1 h2 h3)
theorem g_callVs (N : MR) {j idx : Nat} {q : String × Nat × String × List Int32} {As : List Value} (X : mCx B c ad M P) (d : decode M.2.1 pc = .ok (.invokevirtual idx, 3)) (hl : Cond.methodLink M.1.cls idx N.1 ∈ mTb) (hi : Cond.instanceMethod N.1 ∈ mTb ∧ Cond.selects N.1.cls N.1 N.1 ∈ mTb) (mo : mMo N As.length) (hj : mS[j]? = some q) (hci : N.1.cls = "java/lang/String") (hR : N.2.2.2.2.1 + 1 ≤ M.2.2.2.2.1 ∧ 8 + (N.2.2.1 + 11) + N.2.2.2.2.2 ≤ M.2.2.2.2.2) (hst : (st.map fun v => v.category).sum ≤ 8)
    (k : mSp N (.ref (mSB + j) :: As) h (fun v h' => mG B c ad M.2.2.1 (pc + 3) L (v.toList ++ st) h')) : mG B c ad M.2.2.1 pc L (As.reverse ++ .ref (mSB + j) :: st) h := by
  obtain ⟨p, l, e0, R, s, m, args, below, meth, cd, Q, D, A⟩ := B
  intro H locs ls h1 h2 h3
  obtain ⟨x1, x2, x3, x4, x5, x6, x7, ⟨x8, x9, x10, x11⟩, x12, x13, -⟩ := X
  have hA := h1.free h2 x7
  have hM := k l D ad H.size
  have cw : CallW R s args M.1.cls N.1.cls idx N.1 N.2.1 N.2.2.1 N.2.2.2.1 (mWs N) (mRm N) 0 0 As.length := ⟨callB_of As.length x5 (mGoodWs mo.2.1) rfl rfl rfl (x5 _ mo.1) (x5 _ hl) ⟨mo.2.2.1.1, mo.2.2.1.2, mo.2.2.2⟩ ⟨Nat.le_trans hR.1 x8, Nat.le_trans hR.2 x9⟩, x5 _ hi.1, x5 _ hi.2⟩
  obtain ⟨cell, c1, c2, c3, c4⟩ := ((x12.2.2.1 j q hj).2.1).kept h2.2.1
  have hrecv : ∃ cellB : Cell, H[ad (mSB + j)]? = some cellB ∧ cellB.vm.isStatics = false ∧ s.vm.findClass N.1.cls = some cellB.cls := ⟨cell, c1, c2, by rw [hci]; exact c3⟩
  refine mCont (rest := st.map (mcv ad)) (va_runV (As := As.map (mcv ad)) (rm := mRm N) ⟨x1, x2, x3, x4, x5⟩ hM cw ⟨mBlind, hrecv, fun U hU hW => ⟨rfl, by rw [hU], by rw [hU]; exact (h1.weaken (fun _ _ => trivial)).moved hW.alike, va_K.moved hW.alike x6, x12.go h2 hA hU hW⟩⟩ rfl (by simp) h3.1.1 (by show List.map _ _ = _; simp [mcv]) (lv_room (by rw [mCats]; exact hst)) d ⟨x10, x11⟩) h2 hA (fun v h' H1 locs1 q1 q2 q3 => ?_)
  have := q1 H1 locs1 ls q2 q3 h3
  rw [mStMap] at this
  exact this
theorem r_getsC {i : Nat} (d : decode M.2.1 pc = .ok (.getstatic i, 3)) (F : Cond.fieldLink M.1.cls i "java/lang/String" "COMPACT_STRINGS" "Z" ∈ mTb) (k : mGM M (pc + 3) L (.int 1 :: st) h P) : mGM M pc L st h P := fun B c ad X => g_getsC X d F (k B c ad X)
theorem r_getsF {i : Nat} (d : decode M.2.1 pc = .ok (.getstatic i, 3)) (F : Cond.fieldLink M.1.cls i mFm.1 mFm.2.1 mFm.2.2 ∈ mTb) (k1 : mGM M (pc + 3) L (.null :: st) h P) (k2 : mGM M (pc + 3) L (.ref (mSB + 900) :: st) h P) : mGM M pc L st h P := fun B c ad X => g_getsF X d F (k1 B c ad X) (k2 B c ad X)
theorem r_strV {i j : Nat} {q : String × Nat × String × List Int32} (d : decode M.2.1 pc = .ok (.getfield i, 3)) (F : Cond.fieldLink M.1.cls i "java/lang/String" "value" "[B" ∈ mTb) (hj : mS[j]? = some q) (k : mGM M (pc + 3) L (.ref (mSB + 100 + j) :: st) h P) : mGM M pc L (.ref (mSB + j) :: st) h P := fun B c ad X => g_strV X d F hj (k B c ad X)
theorem r_strC {i j : Nat} {q : String × Nat × String × List Int32} (d : decode M.2.1 pc = .ok (.getfield i, 3)) (F : Cond.fieldLink M.1.cls i "java/lang/String" "coder" "B" ∈ mTb) (hj : mS[j]? = some q) (k : mGM M (pc + 3) L (.int 0 :: st) h P) : mGM M pc L (.ref (mSB + j) :: st) h P := fun B c ad X => g_strC X d F hj (k B c ad X)
theorem r_slen {j : Nat} {q : String × Nat × String × List Int32} (d : decode M.2.1 pc = .ok (.arraylength, 1)) (hj : mS[j]? = some q) (k : mGM M (pc + 1) L (.int (nI q.2.2.2.length) :: st) h P) : mGM M pc L (.ref (mSB + 100 + j) :: st) h P := fun B c ad X => g_slen X d hj (k B c ad X)
theorem r_sald {j n : Nat} {q : String × Nat × String × List Int32} (d : decode M.2.1 pc = .ok (.baload, 1)) (hj : mS[j]? = some q) (hn : n < q.2.2.2.length) (hl : q.2.2.2.length < 2 ^ 31) (k : mGM M (pc + 1) L (.int (q.2.2.2.getD n 0) :: st) h P) : mGM M pc L (.int (nI n) :: .ref (mSB + 100 + j) :: st) h P := fun B c ad X => g_sald X d hj hn hl (k B c ad X)
end MST
section MSU
variable {M : MR} {P : MP} {pc : Nat} {L : List (Option Value)} {st : List Value} {K : Sh} {x : Cn} {Q : Int32 → Cn → Prop} {j : Nat} {q : String × Nat × String × List Int32}
theorem s_VIs (N : MR) {idx : Nat} {As : List Value} (d : decode M.2.1 pc = .ok (.invokevirtual idx, 3)) (hl : Cond.methodLink M.1.cls idx N.1 ∈ mTb) (hi : Cond.instanceMethod N.1 ∈ mTb ∧ Cond.selects N.1.cls N.1 N.1 ∈ mTb) (mo : mMo N As.length) (hj : mS[j]? = some q) (hci : N.1.cls = "java/lang/String") (hR : N.2.2.2.2.1 + 1 ≤ M.2.2.2.2.1 ∧ 8 + (N.2.2.1 + 11) + N.2.2.2.2.2 ≤ M.2.2.2.2.2) (hst : (st.map fun v => v.category).sum ≤ 8)
    (k : mSI N (.ref (mSB + j) :: As) K x (fun r y => mGM M (pc + 3) L (.int r :: st) (hp K y) P)) : mGM M pc L (As.reverse ++ .ref (mSB + j) :: st) (hp K x) P := fun B c ad X => g_callVs N X d hl hi mo hj hci hR hst (mSp_mono k (by rintro _ _ ⟨r, y, rfl, rfl, z⟩; exact z B c ad X))
theorem sw_38 : Cond.fieldLink RJ0 38 "java/lang/String" "COMPACT_STRINGS" "Z" ∈ mTb := mTb_at 547 (by decide +kernel) rfl
theorem sw_9 : Cond.fieldLink RJ0 9 "java/lang/String" "value" "[B" ∈ mTb := mTb_at 1957 (by decide +kernel) rfl
theorem sw_15 : Cond.fieldLink RJ0 15 "java/lang/String" "coder" "B" ∈ mTb := mTb_at 1958 (by decide +kernel) rfl
theorem sw_1053 : Cond.fieldLink RJ0 1053 mFm.1 mFm.2.1 mFm.2.2 ∈ mTb := mTb_at 563 (by decide +kernel) rfl
theorem mS_ok : ∀ q ∈ mS, q.2.2.2.length < 200 ∧ ∀ b ∈ q.2.2.2, ((b &&& 255).toUInt32 % 65536).toInt32 = b ∧ 0 ≤ b ∧ b ≤ 127 := by decide +kernel
theorem sp_coder (hj : mS[j]? = some q) (k : Q 0 x) : mSI mJ0_coder_7d493 [.ref (mSB + j)] K x Q := by
  refine s_I (by decide) (by simp [Value.category]) (Nat.le_of_ble_eq_true rfl) ?_
  show mGM mJ0_coder_7d493 0 [some (.ref (mSB + j))] [] (hp K x) (PI K Q)
  refine r_getsC (pc := 0) dJ0_coder_7d493_0 sw_38 ?_
  refine r_if_eq (pc := 3) (tgt := 13) dJ0_coder_7d493_3 (by decide) (fun z => absurd z (by decide)) (fun _ => ?_)
  refine r_aload_n (pc := 6) dJ0_coder_7d493_6 rfl ?_
  refine r_strC (pc := 7) dJ0_coder_7d493_7 sw_15 hj ?_
  refine r_goto (pc := 10) (tgt := 14) dJ0_coder_7d493_10 (by decide) ?_
  exact s_nret (ty := .byte) rfl rfl dJ0_coder_7d493_14 k
theorem sp_isLatin1 (hj : mS[j]? = some q) (k : Q 1 x) : mSI mJ0_isLatin1_aae02 [.ref (mSB + j)] K x Q := by
  refine s_I (by decide) (by simp [Value.category]) (Nat.le_of_ble_eq_true rfl) ?_
  show mGM mJ0_isLatin1_aae02 0 [some (.ref (mSB + j))] [] (hp K x) (PI K Q)
  refine r_getsC (pc := 0) dJ0_isLatin1_aae02_0 sw_38 ?_
  refine r_if_eq (pc := 3) (tgt := 17) dJ0_isLatin1_aae02_3 (by decide) (fun z => absurd z (by decide)) (fun _ => ?_)
  refine r_aload_n (pc := 6) dJ0_isLatin1_aae02_6 rfl ?_
  refine r_strC (pc := 7) dJ0_isLatin1_aae02_7 sw_15 hj ?_
  refine r_if_ne (pc := 10) (tgt := 17) dJ0_isLatin1_aae02_10 (by decide) (fun z => absurd rfl z) (fun _ => ?_)
  refine r_iconst (pc := 13) (v := 1) dJ0_isLatin1_aae02_13 (by decide) ?_
  refine r_goto (pc := 14) (tgt := 18) dJ0_isLatin1_aae02_14 (by decide) ?_
  exact s_zret rfl (by decide) dJ0_isLatin1_aae02_18 k
theorem sp_len (hj : mS[j]? = some q) (k : Q (nI q.2.2.2.length) x) : mSI mJ0_length_8abf5 [.ref (mSB + j)] K x Q := by
  have hq := (mS_ok q (List.mem_of_getElem? hj)).1
  refine s_I (by decide) (by simp [Value.category]) (Nat.le_of_ble_eq_true rfl) ?_
  show mGM mJ0_length_8abf5 0 [some (.ref (mSB + j))] [] (hp K x) (PI K Q)
  refine r_aload_n (pc := 0) dJ0_length_8abf5_0 rfl ?_
  refine r_strV (pc := 1) dJ0_length_8abf5_1 sw_9 hj ?_
  refine r_slen (pc := 4) dJ0_length_8abf5_4 hj ?_
  refine r_aload_n (pc := 5) dJ0_length_8abf5_5 rfl ?_
  refine s_VIs (pc := 6) mJ0_coder_7d493 (As := []) dJ0_length_8abf5_6 lk_J0_335 in_J0_coder_7d493 mo_J0_coder_7d493 hj rfl ⟨by decide, by decide⟩ (Nat.le_of_ble_eq_true rfl) (sp_coder hj ?_)
  refine r_ishr (pc := 9) dJ0_length_8abf5_9 ?_
  rw [pk_shrN (n := q.2.2.2.length) (by omega) ((0 : Int32) &&& 31) 0 (by decide)]
  refine s_iret rfl dJ0_length_8abf5_10 ?_
  rw [Nat.pow_zero, Nat.div_one]
  exact k
theorem sp_J3_check {a b : Int32} {v : Value} (hv : v.category = 1) (h1 : ¬ a < 0) (h2 : a < b) (k : Q a x) : mSI mJ3_checkIndex_8e157 [.int a, .int b, v] K x Q := by
  refine s_I (by decide) (by simp [Value.category]; cases v <;> simp_all [Value.category]) (Nat.le_of_ble_eq_true rfl) ?_
  show mGM mJ3_checkIndex_8e157 0 [some (.int a), some (.int b), some v] [] (hp K x) (PI K Q)
  refine r_iload_n (pc := 0) dJ3_checkIndex_8e157_0 rfl ?_
  refine r_if_lt (pc := 1) (tgt := 9) dJ3_checkIndex_8e157_1 (by decide) (fun z => absurd z h1) (fun _ => ?_)
  refine r_iload_n (pc := 4) dJ3_checkIndex_8e157_4 rfl ?_
  refine r_iload_n (pc := 5) dJ3_checkIndex_8e157_5 rfl ?_
  refine r_icmp_lt (pc := 6) (tgt := 16) dJ3_checkIndex_8e157_6 (by decide) (fun _ => ?_) (fun z => absurd h2 z)
  refine r_iload_n (pc := 16) dJ3_checkIndex_8e157_16 rfl ?_
  exact s_iret rfl dJ3_checkIndex_8e157_17 k
theorem sp_J0_check {Q : Cn → Prop} {a b : Int32} (h1 : ¬ a < 0) (h2 : a < b) (k : Q x) : mSV mJ0_checkIndex_df160 [.int a, .int b] K x Q := by
  refine s_V (by decide) (by simp [Value.category]) (Nat.le_of_ble_eq_true rfl) ?_
  show mGM mJ0_checkIndex_df160 0 [some (.int a), some (.int b)] [] (hp K x) (PV K Q)
  refine r_iload_n (pc := 0) dJ0_checkIndex_df160_0 rfl ?_
  refine r_iload_n (pc := 1) dJ0_checkIndex_df160_1 rfl ?_
  have fin : ∀ v : Value, v.category = 1 → mGM mJ0_checkIndex_df160 5 [some (.int a), some (.int b)] [v, .int b, .int a] (hp K x) (PV K Q) := by
    intro v hv
    refine s_SI (pc := 5) mJ3_checkIndex_8e157 (As := [.int a, .int b, v]) dJ0_checkIndex_df160_5 lk_J0_1059 st_J3_checkIndex_8e157 mo_J3_checkIndex_8e157 ⟨by decide, by decide⟩ (Nat.le_of_ble_eq_true rfl) (sp_J3_check hv h1 h2 ?_)
    refine r_pop (pc := 8) dJ0_checkIndex_df160_8 rfl ?_
    exact s_ret rfl dJ0_checkIndex_df160_9 k
  exact r_getsF (pc := 2) dJ0_checkIndex_df160_2 sw_1053 (fin .null rfl) (fin _ rfl)
theorem s_SV (N : MR) {idx : Nat} {As : List Value} (d : decode M.2.1 pc = .ok (.invokestatic idx, 3)) (hl : Cond.methodLink M.1.cls idx N.1 ∈ mTb) (hi : Cond.static N.1 ∈ mTb) (mo : mMo N As.length) (hR : N.2.2.2.2.1 + 1 ≤ M.2.2.2.2.1 ∧ 8 + (N.2.2.1 + 11) + N.2.2.2.2.2 ≤ M.2.2.2.2.2) (hst : (st.map fun v => v.category).sum ≤ 8)
    (k : mSV N As K x (fun y => mGM M (pc + 3) L st (hp K y) P)) : mGM M pc L (As.reverse ++ st) (hp K x) P := r_callS N d hl hi mo hR hst (mSp_mono k (by rintro _ _ ⟨y, rfl, rfl, z⟩; exact z))
theorem sp_J1_charAt {n : Nat} (hj : mS[j]? = some q) (hn : n < q.2.2.2.length) (k : Q (q.2.2.2.getD n 0) x) : mSI mJ1_charAt_3b067 [.ref (mSB + 100 + j), .int (nI n)] K x Q := by
  have hq := (mS_ok q (List.mem_of_getElem? hj)).1
  have hb := (mS_ok q (List.mem_of_getElem? hj)).2 (q.2.2.2.getD n 0) (by rw [List.getD_eq_getElem?_getD, List.getElem?_eq_getElem hn]; exact List.getElem_mem hn)
  refine s_I (by decide) (by simp [Value.category]) (Nat.le_of_ble_eq_true rfl) ?_
  show mGM mJ1_charAt_3b067 0 [some (.ref (mSB + 100 + j)), some (.int (nI n))] [] (hp K x) (PI K Q)
  refine r_iload_n (pc := 0) dJ1_charAt_3b067_0 rfl ?_
  refine r_aload_n (pc := 1) dJ1_charAt_3b067_1 rfl ?_
  refine r_slen (pc := 2) dJ1_charAt_3b067_2 hj ?_
  refine s_SV (pc := 3) mJ0_checkIndex_df160 (As := [.int (nI n), .int (nI q.2.2.2.length)]) dJ1_charAt_3b067_3 lk_J1_9 st_J0_checkIndex_df160 mo_J0_checkIndex_df160 ⟨by decide, by decide⟩ (Nat.le_of_ble_eq_true rfl) (sp_J0_check (nI_pos (by omega)) (nI_lt hn (by omega)) ?_)
  refine r_aload_n (pc := 6) dJ1_charAt_3b067_6 rfl ?_
  refine r_iload_n (pc := 7) dJ1_charAt_3b067_7 rfl ?_
  refine r_sald (pc := 8) dJ1_charAt_3b067_8 hj hn (by omega) ?_
  refine r_sipush (pc := 9) (v := 255) dJ1_charAt_3b067_9 (by decide) ?_
  refine r_iand (pc := 12) dJ1_charAt_3b067_12 ?_
  refine r_i2c (pc := 13) dJ1_charAt_3b067_13 ?_
  refine s_nret (ty := .char) rfl (pk_nc _) dJ1_charAt_3b067_14 ?_
  rw [hb.1]
  exact k
theorem sp_ch {n : Nat} (hj : mS[j]? = some q) (hn : n < q.2.2.2.length) (k : Q (q.2.2.2.getD n 0) x) : mSI mJ0_charAt_5068e [.ref (mSB + j), .int (nI n)] K x Q := by
  have hb := (mS_ok q (List.mem_of_getElem? hj)).2 (q.2.2.2.getD n 0) (by rw [List.getD_eq_getElem?_getD, List.getElem?_eq_getElem hn]; exact List.getElem_mem hn)
  refine s_I (by decide) (by simp [Value.category]) (Nat.le_of_ble_eq_true rfl) ?_
  show mGM mJ0_charAt_5068e 0 [some (.ref (mSB + j)), some (.int (nI n))] [] (hp K x) (PI K Q)
  refine r_aload_n (pc := 0) dJ0_charAt_5068e_0 rfl ?_
  refine s_VIs (pc := 1) mJ0_isLatin1_aae02 (As := []) dJ0_charAt_5068e_1 lk_J0_492 in_J0_isLatin1_aae02 mo_J0_isLatin1_aae02 hj rfl ⟨by decide, by decide⟩ (Nat.le_of_ble_eq_true rfl) (sp_isLatin1 hj ?_)
  refine r_if_eq (pc := 4) (tgt := 16) dJ0_charAt_5068e_4 (by decide) (fun z => absurd z (by decide)) (fun _ => ?_)
  refine r_aload_n (pc := 7) dJ0_charAt_5068e_7 rfl ?_
  refine r_strV (pc := 8) dJ0_charAt_5068e_8 sw_9 hj ?_
  refine r_iload_n (pc := 11) dJ0_charAt_5068e_11 rfl ?_
  refine s_SI (pc := 12) mJ1_charAt_3b067 (As := [.ref (mSB + 100 + j), .int (nI n)]) dJ0_charAt_5068e_12 lk_J0_495 st_J1_charAt_3b067 mo_J1_charAt_3b067 ⟨by decide, by decide⟩ (Nat.le_of_ble_eq_true rfl) (sp_J1_charAt hj hn ?_)
  refine s_nret (ty := .char) rfl ?_ dJ0_charAt_5068e_15 k
  have := pk_nc (q.2.2.2.getD n 0 &&& 255)
  rwa [hb.1] at this
end MSU

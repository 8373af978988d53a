/-! 16.statics.lean.txt -/
section
set_option maxHeartbeats 2000000 in
theorem v_X7_isWithin_0 {K : Sh} {x : Cn} {Q : Int32 → Cn → Prop} {l0 : Int32} {l1 : Int32} {l2 : Int32}   (K0 : (l0 < l1 → (Q 0 x)) ∧ (¬ l0 < l1 → ((l2 < l0 → (Q 0 x)) ∧ (¬ l2 < l0 → (Q 1 x))))) : mSI mX7_isWithin [.int l0, .int l1, .int l2] K x Q := by
  refine s_I (by decide) (by simp [Value.category]) (Nat.le_of_ble_eq_true rfl) ?_
  show mGM mX7_isWithin 0 [some (.int l0), some (.int l1), some (.int l2)] [] (hp K x) (PI K Q)
  refine r_iload_n (pc := 0) dX7_isWithin_0 rfl ?_
  refine r_iload_n (pc := 1) dX7_isWithin_1 rfl ?_
  refine r_icmp_lt (pc := 2) (tgt := 14) dX7_isWithin_2 (by decide) (fun q => ?_) (fun q => ?_)
  · have K0 := K0.1 q
    refine r_iconst (pc := 14) (v := 0) dX7_isWithin_14 (by decide) ?_
    exact s_zret rfl (by decide) dX7_isWithin_15 K0
  · have K0 := K0.2 q
    refine r_iload_n (pc := 5) dX7_isWithin_5 rfl ?_
    refine r_iload_n (pc := 6) dX7_isWithin_6 rfl ?_
    refine r_icmp_gt (pc := 7) (tgt := 14) dX7_isWithin_7 (by decide) (fun q => ?_) (fun q => ?_)
    · have K0 := K0.1 q
      refine r_iconst (pc := 14) (v := 0) dX7_isWithin_14 (by decide) ?_
      exact s_zret rfl (by decide) dX7_isWithin_15 K0
    · have K0 := K0.2 q
      refine r_iconst (pc := 10) (v := 1) dX7_isWithin_10 (by decide) ?_
      refine r_goto (pc := 11) (tgt := 15) dX7_isWithin_11 (by decide) ?_
      exact s_zret rfl (by decide) dX7_isWithin_15 K0
set_option maxHeartbeats 2000000 in
theorem v_X7_isWay_0 {K : Sh} {x : Cn} {Q : Int32 → Cn → Prop} {l0 : Int32}   (K0 : (l0 = 0 → (Q 1 x)) ∧ (¬ l0 = 0 → ((¬ l0 = 1 → (Q 0 x)) ∧ (l0 = 1 → (Q 1 x))))) : mSI mX7_isWay [.int l0] K x Q := by
  refine s_I (by decide) (by simp [Value.category]) (Nat.le_of_ble_eq_true rfl) ?_
  show mGM mX7_isWay 0 [some (.int l0)] [] (hp K x) (PI K Q)
  refine r_iload_n (pc := 0) dX7_isWay_0 rfl ?_
  refine r_if_eq (pc := 1) (tgt := 9) dX7_isWay_1 (by decide) (fun q => ?_) (fun q => ?_)
  · have K0 := K0.1 q
    refine r_iconst (pc := 9) (v := 1) dX7_isWay_9 (by decide) ?_
    refine r_goto (pc := 10) (tgt := 14) dX7_isWay_10 (by decide) ?_
    exact s_zret rfl (by decide) dX7_isWay_14 K0
  · have K0 := K0.2 q
    refine r_iload_n (pc := 4) dX7_isWay_4 rfl ?_
    refine r_iconst (pc := 5) (v := 1) dX7_isWay_5 (by decide) ?_
    refine r_icmp_ne (pc := 6) (tgt := 13) dX7_isWay_6 (by decide) (fun q => ?_) (fun q => ?_)
    · have K0 := K0.1 q
      refine r_iconst (pc := 13) (v := 0) dX7_isWay_13 (by decide) ?_
      exact s_zret rfl (by decide) dX7_isWay_14 K0
    · have K0 := K0.2 q
      refine r_iconst (pc := 9) (v := 1) dX7_isWay_9 (by decide) ?_
      refine r_goto (pc := 10) (tgt := 14) dX7_isWay_10 (by decide) ?_
      exact s_zret rfl (by decide) dX7_isWay_14 K0
set_option maxHeartbeats 2000000 in
theorem v_X7_isState_0 {K : Sh} {x : Cn} {Q : Int32 → Cn → Prop} {l0 : Int32}   (K0 : (l0 < 0 → (Q 0 x)) ∧ (¬ l0 < 0 → ((4 < l0 → (Q 0 x)) ∧ (¬ 4 < l0 → (Q 1 x))))) : mSI mX7_isState [.int l0] K x Q := by
  refine s_I (by decide) (by simp [Value.category]) (Nat.le_of_ble_eq_true rfl) ?_
  show mGM mX7_isState 0 [some (.int l0)] [] (hp K x) (PI K Q)
  refine r_iload_n (pc := 0) dX7_isState_0 rfl ?_
  refine r_if_lt (pc := 1) (tgt := 13) dX7_isState_1 (by decide) (fun q => ?_) (fun q => ?_)
  · have K0 := K0.1 q
    refine r_iconst (pc := 13) (v := 0) dX7_isState_13 (by decide) ?_
    exact s_zret rfl (by decide) dX7_isState_14 K0
  · have K0 := K0.2 q
    refine r_iload_n (pc := 4) dX7_isState_4 rfl ?_
    refine r_iconst (pc := 5) (v := 4) dX7_isState_5 (by decide) ?_
    refine r_icmp_gt (pc := 6) (tgt := 13) dX7_isState_6 (by decide) (fun q => ?_) (fun q => ?_)
    · have K0 := K0.1 q
      refine r_iconst (pc := 13) (v := 0) dX7_isState_13 (by decide) ?_
      exact s_zret rfl (by decide) dX7_isState_14 K0
    · have K0 := K0.2 q
      refine r_iconst (pc := 9) (v := 1) dX7_isState_9 (by decide) ?_
      refine r_goto (pc := 10) (tgt := 14) dX7_isState_10 (by decide) ?_
      exact s_zret rfl (by decide) dX7_isState_14 K0
set_option maxHeartbeats 2000000 in
theorem v_X7_isLetter_0 {K : Sh} {x : Cn} {Q : Int32 → Cn → Prop} {l0 : Int32}   (K0 : (l0 < 97 → (Q 0 x)) ∧ (¬ l0 < 97 → ((122 < l0 → (Q 0 x)) ∧ (¬ 122 < l0 → (Q 1 x))))) : mSI mX7_isLetter [.int l0] K x Q := by
  refine s_I (by decide) (by simp [Value.category]) (Nat.le_of_ble_eq_true rfl) ?_
  show mGM mX7_isLetter 0 [some (.int l0)] [] (hp K x) (PI K Q)
  refine r_iload_n (pc := 0) dX7_isLetter_0 rfl ?_
  refine r_bipush (pc := 1) (v := 97) dX7_isLetter_1 (by decide) ?_
  refine r_icmp_lt (pc := 3) (tgt := 16) dX7_isLetter_3 (by decide) (fun q => ?_) (fun q => ?_)
  · have K0 := K0.1 q
    refine r_iconst (pc := 16) (v := 0) dX7_isLetter_16 (by decide) ?_
    exact s_zret rfl (by decide) dX7_isLetter_17 K0
  · have K0 := K0.2 q
    refine r_iload_n (pc := 6) dX7_isLetter_6 rfl ?_
    refine r_bipush (pc := 7) (v := 122) dX7_isLetter_7 (by decide) ?_
    refine r_icmp_gt (pc := 9) (tgt := 16) dX7_isLetter_9 (by decide) (fun q => ?_) (fun q => ?_)
    · have K0 := K0.1 q
      refine r_iconst (pc := 16) (v := 0) dX7_isLetter_16 (by decide) ?_
      exact s_zret rfl (by decide) dX7_isLetter_17 K0
    · have K0 := K0.2 q
      refine r_iconst (pc := 12) (v := 1) dX7_isLetter_12 (by decide) ?_
      refine r_goto (pc := 13) (tgt := 17) dX7_isLetter_13 (by decide) ?_
      exact s_zret rfl (by decide) dX7_isLetter_17 K0
set_option maxHeartbeats 2000000 in
theorem v_X7_isDigit_0 {K : Sh} {x : Cn} {Q : Int32 → Cn → Prop} {l0 : Int32}   (K0 : (l0 < 48 → (Q 0 x)) ∧ (¬ l0 < 48 → ((57 < l0 → (Q 0 x)) ∧ (¬ 57 < l0 → (Q 1 x))))) : mSI mX7_isDigit [.int l0] K x Q := by
  refine s_I (by decide) (by simp [Value.category]) (Nat.le_of_ble_eq_true rfl) ?_
  show mGM mX7_isDigit 0 [some (.int l0)] [] (hp K x) (PI K Q)
  refine r_iload_n (pc := 0) dX7_isDigit_0 rfl ?_
  refine r_bipush (pc := 1) (v := 48) dX7_isDigit_1 (by decide) ?_
  refine r_icmp_lt (pc := 3) (tgt := 16) dX7_isDigit_3 (by decide) (fun q => ?_) (fun q => ?_)
  · have K0 := K0.1 q
    refine r_iconst (pc := 16) (v := 0) dX7_isDigit_16 (by decide) ?_
    exact s_zret rfl (by decide) dX7_isDigit_17 K0
  · have K0 := K0.2 q
    refine r_iload_n (pc := 6) dX7_isDigit_6 rfl ?_
    refine r_bipush (pc := 7) (v := 57) dX7_isDigit_7 (by decide) ?_
    refine r_icmp_gt (pc := 9) (tgt := 16) dX7_isDigit_9 (by decide) (fun q => ?_) (fun q => ?_)
    · have K0 := K0.1 q
      refine r_iconst (pc := 16) (v := 0) dX7_isDigit_16 (by decide) ?_
      exact s_zret rfl (by decide) dX7_isDigit_17 K0
    · have K0 := K0.2 q
      refine r_iconst (pc := 12) (v := 1) dX7_isDigit_12 (by decide) ?_
      refine r_goto (pc := 13) (tgt := 17) dX7_isDigit_13 (by decide) ?_
      exact s_zret rfl (by decide) dX7_isDigit_17 K0
set_option maxHeartbeats 2000000 in
theorem v_X7_hasBit_0 {K : Sh} {x : Cn} {Q : Int32 → Cn → Prop} {l0 : Int32} {l1 : Int32}   (K0 : ((((l0 : Int32).toUInt32 >>> ((l1 : Int32).toUInt32 &&& Int32.toUInt32 31)).toInt32 &&& 1) = 0 → (Q 0 x)) ∧ (¬ (((l0 : Int32).toUInt32 >>> ((l1 : Int32).toUInt32 &&& Int32.toUInt32 31)).toInt32 &&& 1) = 0 → (Q 1 x))) : mSI mX7_hasBit [.int l0, .int l1] K x Q := by
  refine s_I (by decide) (by simp [Value.category]) (Nat.le_of_ble_eq_true rfl) ?_
  show mGM mX7_hasBit 0 [some (.int l0), some (.int l1)] [] (hp K x) (PI K Q)
  refine r_iload_n (pc := 0) dX7_hasBit_0 rfl ?_
  refine r_iload_n (pc := 1) dX7_hasBit_1 rfl ?_
  refine r_iushr (pc := 2) dX7_hasBit_2 ?_
  refine r_iconst (pc := 3) (v := 1) dX7_hasBit_3 (by decide) ?_
  refine r_iand (pc := 4) dX7_hasBit_4 ?_
  refine r_if_eq (pc := 5) (tgt := 12) dX7_hasBit_5 (by decide) (fun q => ?_) (fun q => ?_)
  · have K0 := K0.1 q
    refine r_iconst (pc := 12) (v := 0) dX7_hasBit_12 (by decide) ?_
    exact s_zret rfl (by decide) dX7_hasBit_13 K0
  · have K0 := K0.2 q
    refine r_iconst (pc := 8) (v := 1) dX7_hasBit_8 (by decide) ?_
    refine r_goto (pc := 9) (tgt := 13) dX7_hasBit_9 (by decide) ?_
    exact s_zret rfl (by decide) dX7_hasBit_13 K0
set_option maxHeartbeats 2000000 in
theorem v_X7_spanBits_0 {K : Sh} {x : Cn} {Q : Int32 → Cn → Prop} {l0 : Int32} {l1 : Int32}   (K0 : Q (((1 <<< (((l1 - l0) + 1) &&& 31)) - 1) <<< (l0 &&& 31)) x) : mSI mX7_spanBits [.int l0, .int l1] K x Q := by
  refine s_I (by decide) (by simp [Value.category]) (Nat.le_of_ble_eq_true rfl) ?_
  show mGM mX7_spanBits 0 [some (.int l0), some (.int l1)] [] (hp K x) (PI K Q)
  refine r_iconst (pc := 0) (v := 1) dX7_spanBits_0 (by decide) ?_
  refine r_iload_n (pc := 1) dX7_spanBits_1 rfl ?_
  refine r_iload_n (pc := 2) dX7_spanBits_2 rfl ?_
  refine r_isub (pc := 3) dX7_spanBits_3 ?_
  refine r_iconst (pc := 4) (v := 1) dX7_spanBits_4 (by decide) ?_
  refine r_iadd (pc := 5) dX7_spanBits_5 ?_
  refine r_ishl (pc := 6) dX7_spanBits_6 ?_
  refine r_iconst (pc := 7) (v := 1) dX7_spanBits_7 (by decide) ?_
  refine r_isub (pc := 8) dX7_spanBits_8 ?_
  refine r_iload_n (pc := 9) dX7_spanBits_9 rfl ?_
  refine r_ishl (pc := 10) dX7_spanBits_10 ?_
  exact s_iret rfl dX7_spanBits_11 K0
set_option maxHeartbeats 2000000 in
theorem v_X7_bitsFrom_0 {K : Sh} {x : Cn} {Q : Int32 → Cn → Prop} {l0 : Int32}   (K0 : (l0 ≤ 30 → (Q ((-1) <<< (l0 &&& 31)) x)) ∧ (¬ l0 ≤ 30 → (Q 0 x))) : mSI mX7_bitsFrom [.int l0] K x Q := by
  refine s_I (by decide) (by simp [Value.category]) (Nat.le_of_ble_eq_true rfl) ?_
  show mGM mX7_bitsFrom 0 [some (.int l0)] [] (hp K x) (PI K Q)
  refine r_iload_n (pc := 0) dX7_bitsFrom_0 rfl ?_
  refine r_bipush (pc := 1) (v := 30) dX7_bitsFrom_1 (by decide) ?_
  refine r_icmp_le (pc := 3) (tgt := 10) dX7_bitsFrom_3 (by decide) (fun q => ?_) (fun q => ?_)
  · have K0 := K0.1 q
    refine r_iconst (pc := 10) (v := (-1)) dX7_bitsFrom_10 (by decide) ?_
    refine r_iload_n (pc := 11) dX7_bitsFrom_11 rfl ?_
    refine r_ishl (pc := 12) dX7_bitsFrom_12 ?_
    exact s_iret rfl dX7_bitsFrom_13 K0
  · have K0 := K0.2 q
    refine r_iconst (pc := 6) (v := 0) dX7_bitsFrom_6 (by decide) ?_
    refine r_goto (pc := 7) (tgt := 13) dX7_bitsFrom_7 (by decide) ?_
    exact s_iret rfl dX7_bitsFrom_13 K0
set_option maxHeartbeats 2000000 in
theorem v_J6_bitCount_0f7a4_0 {K : Sh} {x : Cn} {Q : Int32 → Cn → Prop} {l0 : Int32}   (K0 : ∀ r_1 : Int32, r_1 = (l0 - (((l0 : Int32).toUInt32 >>> ((1 : Int32).toUInt32 &&& Int32.toUInt32 31)).toInt32 &&& 1431655765)) → (∀ r_3 : Int32, r_3 = ((r_1 &&& 858993459) + (((r_1 : Int32).toUInt32 >>> ((2 : Int32).toUInt32 &&& Int32.toUInt32 31)).toInt32 &&& 858993459)) → (∀ r_5 : Int32, r_5 = ((r_3 + ((r_3 : Int32).toUInt32 >>> ((4 : Int32).toUInt32 &&& Int32.toUInt32 31)).toInt32) &&& 252645135) → (∀ r_7 : Int32, r_7 = (r_5 + ((r_5 : Int32).toUInt32 >>> ((8 : Int32).toUInt32 &&& Int32.toUInt32 31)).toInt32) → (∀ r_9 : Int32, r_9 = (r_7 + ((r_7 : Int32).toUInt32 >>> ((16 : Int32).toUInt32 &&& Int32.toUInt32 31)).toInt32) → (Q (r_9 &&& 63) x)))))) : mSI mJ6_bitCount_0f7a4 [.int l0] K x Q := by
  refine s_I (by decide) (by simp [Value.category]) (Nat.le_of_ble_eq_true rfl) ?_
  show mGM mJ6_bitCount_0f7a4 0 [some (.int l0)] [] (hp K x) (PI K Q)
  refine r_iload_n (pc := 0) dJ6_bitCount_0f7a4_0 rfl ?_
  refine r_iload_n (pc := 1) dJ6_bitCount_0f7a4_1 rfl ?_
  refine r_iconst (pc := 2) (v := 1) dJ6_bitCount_0f7a4_2 (by decide) ?_
  refine r_iushr (pc := 3) dJ6_bitCount_0f7a4_3 ?_
  refine r_ldcw (pc := 4) (v := 1431655765) dJ6_bitCount_0f7a4_4 cn_J6_265 ?_
  refine r_iand (pc := 7) dJ6_bitCount_0f7a4_7 ?_
  refine r_isub (pc := 8) dJ6_bitCount_0f7a4_8 ?_
  obtain ⟨r_1, w_2⟩ : ∃ z : Int32, z = (l0 - (((l0 : Int32).toUInt32 >>> ((1 : Int32).toUInt32 &&& Int32.toUInt32 31)).toInt32 &&& 1431655765)) := ⟨_, rfl⟩
  rw [← w_2]
  have K0 := K0 r_1 w_2
  refine r_istore_n (pc := 9) dJ6_bitCount_0f7a4_9 (by decide) ?_
  refine r_iload_n (pc := 10) (L := [some (.int r_1)]) dJ6_bitCount_0f7a4_10 rfl ?_
  refine r_ldcw (pc := 11) (v := 858993459) dJ6_bitCount_0f7a4_11 cn_J6_266 ?_
  refine r_iand (pc := 14) dJ6_bitCount_0f7a4_14 ?_
  refine r_iload_n (pc := 15) dJ6_bitCount_0f7a4_15 rfl ?_
  refine r_iconst (pc := 16) (v := 2) dJ6_bitCount_0f7a4_16 (by decide) ?_
  refine r_iushr (pc := 17) dJ6_bitCount_0f7a4_17 ?_
  refine r_ldcw (pc := 18) (v := 858993459) dJ6_bitCount_0f7a4_18 cn_J6_266 ?_
  refine r_iand (pc := 21) dJ6_bitCount_0f7a4_21 ?_
  refine r_iadd (pc := 22) dJ6_bitCount_0f7a4_22 ?_
  obtain ⟨r_3, w_4⟩ : ∃ z : Int32, z = ((r_1 &&& 858993459) + (((r_1 : Int32).toUInt32 >>> ((2 : Int32).toUInt32 &&& Int32.toUInt32 31)).toInt32 &&& 858993459)) := ⟨_, rfl⟩
  rw [← w_4]
  have K0 := K0 r_3 w_4
  refine r_istore_n (pc := 23) dJ6_bitCount_0f7a4_23 (by decide) ?_
  refine r_iload_n (pc := 24) (L := [some (.int r_3)]) dJ6_bitCount_0f7a4_24 rfl ?_
  refine r_iload_n (pc := 25) dJ6_bitCount_0f7a4_25 rfl ?_
  refine r_iconst (pc := 26) (v := 4) dJ6_bitCount_0f7a4_26 (by decide) ?_
  refine r_iushr (pc := 27) dJ6_bitCount_0f7a4_27 ?_
  refine r_iadd (pc := 28) dJ6_bitCount_0f7a4_28 ?_
  refine r_ldcw (pc := 29) (v := 252645135) dJ6_bitCount_0f7a4_29 cn_J6_267 ?_
  refine r_iand (pc := 32) dJ6_bitCount_0f7a4_32 ?_
  obtain ⟨r_5, w_6⟩ : ∃ z : Int32, z = ((r_3 + ((r_3 : Int32).toUInt32 >>> ((4 : Int32).toUInt32 &&& Int32.toUInt32 31)).toInt32) &&& 252645135) := ⟨_, rfl⟩
  rw [← w_6]
  have K0 := K0 r_5 w_6
  refine r_istore_n (pc := 33) dJ6_bitCount_0f7a4_33 (by decide) ?_
  refine r_iload_n (pc := 34) (L := [some (.int r_5)]) dJ6_bitCount_0f7a4_34 rfl ?_
  refine r_iload_n (pc := 35) dJ6_bitCount_0f7a4_35 rfl ?_
  refine r_bipush (pc := 36) (v := 8) dJ6_bitCount_0f7a4_36 (by decide) ?_
  refine r_iushr (pc := 38) dJ6_bitCount_0f7a4_38 ?_
  refine r_iadd (pc := 39) dJ6_bitCount_0f7a4_39 ?_
  obtain ⟨r_7, w_8⟩ : ∃ z : Int32, z = (r_5 + ((r_5 : Int32).toUInt32 >>> ((8 : Int32).toUInt32 &&& Int32.toUInt32 31)).toInt32) := ⟨_, rfl⟩
  rw [← w_8]
  have K0 := K0 r_7 w_8
  refine r_istore_n (pc := 40) dJ6_bitCount_0f7a4_40 (by decide) ?_
  refine r_iload_n (pc := 41) (L := [some (.int r_7)]) dJ6_bitCount_0f7a4_41 rfl ?_
  refine r_iload_n (pc := 42) dJ6_bitCount_0f7a4_42 rfl ?_
  refine r_bipush (pc := 43) (v := 16) dJ6_bitCount_0f7a4_43 (by decide) ?_
  refine r_iushr (pc := 45) dJ6_bitCount_0f7a4_45 ?_
  refine r_iadd (pc := 46) dJ6_bitCount_0f7a4_46 ?_
  obtain ⟨r_9, w_10⟩ : ∃ z : Int32, z = (r_7 + ((r_7 : Int32).toUInt32 >>> ((16 : Int32).toUInt32 &&& Int32.toUInt32 31)).toInt32) := ⟨_, rfl⟩
  rw [← w_10]
  have K0 := K0 r_9 w_10
  refine r_istore_n (pc := 47) dJ6_bitCount_0f7a4_47 (by decide) ?_
  refine r_iload_n (pc := 48) (L := [some (.int r_9)]) dJ6_bitCount_0f7a4_48 rfl ?_
  refine r_bipush (pc := 49) (v := 63) dJ6_bitCount_0f7a4_49 (by decide) ?_
  refine r_iand (pc := 51) dJ6_bitCount_0f7a4_51 ?_
  exact s_iret rfl dJ6_bitCount_0f7a4_52 K0
set_option maxHeartbeats 2000000 in
theorem v_X8_has_0 {K : Sh} {x : Cn} {Q : Int32 → Cn → Prop} {l0 : Int32} {l1 : Int32}   (K0 : (¬ ((l0 >>> (l1 &&& 31)) &&& 1) = 1 → (Q 0 x)) ∧ (((l0 >>> (l1 &&& 31)) &&& 1) = 1 → (Q 1 x))) : mSI mX8_has [.int l0, .int l1] K x Q := by
  refine s_I (by decide) (by simp [Value.category]) (Nat.le_of_ble_eq_true rfl) ?_
  show mGM mX8_has 0 [some (.int l0), some (.int l1)] [] (hp K x) (PI K Q)
  refine r_iload_n (pc := 0) dX8_has_0 rfl ?_
  refine r_iload_n (pc := 1) dX8_has_1 rfl ?_
  refine r_ishr (pc := 2) dX8_has_2 ?_
  refine r_iconst (pc := 3) (v := 1) dX8_has_3 (by decide) ?_
  refine r_iand (pc := 4) dX8_has_4 ?_
  refine r_iconst (pc := 5) (v := 1) dX8_has_5 (by decide) ?_
  refine r_icmp_ne (pc := 6) (tgt := 13) dX8_has_6 (by decide) (fun q => ?_) (fun q => ?_)
  · have K0 := K0.1 q
    refine r_iconst (pc := 13) (v := 0) dX8_has_13 (by decide) ?_
    exact s_zret rfl (by decide) dX8_has_14 K0
  · have K0 := K0.2 q
    refine r_iconst (pc := 9) (v := 1) dX8_has_9 (by decide) ?_
    refine r_goto (pc := 10) (tgt := 14) dX8_has_10 (by decide) ?_
    exact s_zret rfl (by decide) dX8_has_14 K0
set_option maxHeartbeats 2000000 in
theorem v_X8_span_0 {K : Sh} {x : Cn} {Q : Int32 → Cn → Prop} {l0 : Int32} {l1 : Int32}   (K0 : (l0 ≤ l1 → (Q (((((1 : Int64) <<< (((l1 + 1) : Int32).toInt64 &&& 63)) - ((1 : Int64) <<< ((l0 : Int32).toInt64 &&& 63))) : Int64).toInt32) x)) ∧ (¬ l0 ≤ l1 → (Q 0 x))) : mSI mX8_span [.int l0, .int l1] K x Q := by
  refine s_I (by decide) (by simp [Value.category]) (Nat.le_of_ble_eq_true rfl) ?_
  show mGM mX8_span 0 [some (.int l0), some (.int l1)] [] (hp K x) (PI K Q)
  refine r_iload_n (pc := 0) dX8_span_0 rfl ?_
  refine r_iload_n (pc := 1) dX8_span_1 rfl ?_
  refine r_icmp_le (pc := 2) (tgt := 9) dX8_span_2 (by decide) (fun q => ?_) (fun q => ?_)
  · have K0 := K0.1 q
    refine r_lconst (pc := 9) (v := 1) dX8_span_9 (by decide) ?_
    refine r_iload_n (pc := 10) dX8_span_10 rfl ?_
    refine r_iconst (pc := 11) (v := 1) dX8_span_11 (by decide) ?_
    refine r_iadd (pc := 12) dX8_span_12 ?_
    refine r_lshl (pc := 13) dX8_span_13 ?_
    refine r_lconst (pc := 14) (v := 1) dX8_span_14 (by decide) ?_
    refine r_iload_n (pc := 15) dX8_span_15 rfl ?_
    refine r_lshl (pc := 16) dX8_span_16 ?_
    refine r_lsub (pc := 17) dX8_span_17 ?_
    refine r_l2i (pc := 18) dX8_span_18 ?_
    exact s_iret rfl dX8_span_19 K0
  · have K0 := K0.2 q
    refine r_iconst (pc := 5) (v := 0) dX8_span_5 (by decide) ?_
    refine r_goto (pc := 6) (tgt := 19) dX8_span_6 (by decide) ?_
    exact s_iret rfl dX8_span_19 K0
set_option maxHeartbeats 2000000 in
theorem v_X8_bits_0 {K : Sh} {x : Cn} {Q : Int32 → Cn → Prop} {l0 : Int32}   (K0 : GI mX8_bits 4 [some (.int l0), some (.int 0), some (.int l0)] [] K x Q) : mSI mX8_bits [.int l0] K x Q := by
  refine s_I (by decide) (by simp [Value.category]) (Nat.le_of_ble_eq_true rfl) ?_
  show mGM mX8_bits 0 [some (.int l0), none, none] [] (hp K x) (PI K Q)
  refine r_iconst (pc := 0) (v := 0) dX8_bits_0 (by decide) ?_
  refine r_istore_n (pc := 1) dX8_bits_1 (by decide) ?_
  refine r_iload_n (pc := 2) (L := [some (.int l0), some (.int 0), none]) dX8_bits_2 rfl ?_
  refine r_istore_n (pc := 3) dX8_bits_3 (by decide) ?_
  exact r_le (L' := [some (.int l0), some (.int 0), some (.int l0)]) ⟨rfl, ⟨rfl, ⟨rfl, trivial⟩⟩⟩ K0
set_option maxHeartbeats 2000000 in
theorem v_X8_bits_4 {K : Sh} {x : Cn} {Q : Int32 → Cn → Prop} {l0 : Int32} {l1 : Int32} {l2 : Int32}   (K0 : (l2 = 0 → (Q l1 x)) ∧ (¬ l2 = 0 → (GI mX8_bits 4 [some (.int l0), some (.int (l1 + 1)), some (.int (l2 &&& (l2 - 1)))] [] K x Q))) : GI mX8_bits 4 [some (.int l0), some (.int l1), some (.int l2)] [] K x Q := by
  show mGM mX8_bits 4 [some (.int l0), some (.int l1), some (.int l2)] [] (hp K x) (PI K Q)
  refine r_iload_n (pc := 4) dX8_bits_4 rfl ?_
  refine r_if_eq (pc := 5) (tgt := 20) dX8_bits_5 (by decide) (fun q => ?_) (fun q => ?_)
  · have K0 := K0.1 q
    refine r_iload_n (pc := 20) dX8_bits_20 rfl ?_
    exact s_iret rfl dX8_bits_21 K0
  · have K0 := K0.2 q
    refine r_iinc (pc := 8) (v := l1 + 1) dX8_bits_8 rfl rfl (by decide) ?_
    refine r_iload_n (pc := 11) (L := [some (.int l0), some (.int (l1 + 1)), some (.int l2)]) dX8_bits_11 rfl ?_
    refine r_iload_n (pc := 12) dX8_bits_12 rfl ?_
    refine r_iconst (pc := 13) (v := 1) dX8_bits_13 (by decide) ?_
    refine r_isub (pc := 14) dX8_bits_14 ?_
    refine r_iand (pc := 15) dX8_bits_15 ?_
    refine r_istore_n (pc := 16) dX8_bits_16 (by decide) ?_
    refine r_goto (pc := 17) (L := [some (.int l0), some (.int (l1 + 1)), some (.int (l2 &&& (l2 - 1)))]) (tgt := 4) dX8_bits_17 (by decide) ?_
    exact r_le (L' := [some (.int l0), some (.int (l1 + 1)), some (.int (l2 &&& (l2 - 1)))]) ⟨rfl, ⟨rfl, ⟨rfl, trivial⟩⟩⟩ K0
end
/-! 17.sp1.lean.txt -/
section
/-! small methods of numbers alone: their answers as terms -/
theorem b2i_nz {c : Prop} [Decidable c] (h : ¬ b2i c = 0) : c := by
  by_cases q : c
  · exact q
  · exact absurd (b2i_f q) h
abbrev f_bit (v i : Int32) : Prop := ¬ (((v : Int32).toUInt32 >>> ((i : Int32).toUInt32 &&& Int32.toUInt32 31)).toInt32 &&& 1) = 0
def f_sb (a b : Int32) : Int32 := (((1 <<< (((b - a) + 1) &&& 31)) - 1) <<< (a &&& 31))
def f_bf (w : Int32) : Int32 := if w ≤ 30 then ((-1) <<< (w &&& 31)) else 0
def f_sh (v i : Int32) : Int32 := ((v : Int32).toUInt32 >>> ((i : Int32).toUInt32 &&& Int32.toUInt32 31)).toInt32
def f_b1 (v : Int32) : Int32 := (v - (f_sh v 1 &&& 1431655765))
def f_b2 (v : Int32) : Int32 := ((v &&& 858993459) + (f_sh v 2 &&& 858993459))
def f_b3 (v : Int32) : Int32 := ((v + f_sh v 4) &&& 252645135)
def f_b4 (v : Int32) : Int32 := (v + f_sh v 8)
def f_b5 (v : Int32) : Int32 := (v + f_sh v 16)
def f_bc (v : Int32) : Int32 := f_b5 (f_b4 (f_b3 (f_b2 (f_b1 v)))) &&& 63
abbrev f_has (v i : Int32) : Prop := ((v >>> (i &&& 31)) &&& 1) = 1
def f_span (a b : Int32) : Int32 := if a ≤ b then (((((1 : Int64) <<< (((b + 1) : Int32).toInt64 &&& 63)) - ((1 : Int64) <<< ((a : Int32).toInt64 &&& 63))) : Int64).toInt32) else 0
section SP1
variable {K : Sh} {x : Cn} {Q : Int32 → Cn → Prop}
theorem sp_X7_isWithin {a b c : Int32} (k : Q (b2i (b ≤ a ∧ a ≤ c)) x) : mSI mX7_isWithin [.int a, .int b, .int c] K x Q := by
  refine v_X7_isWithin_0 ⟨fun h => ?_, fun h => ⟨fun h' => ?_, fun h' => ?_⟩⟩
  · rwa [b2i_f (fun z => Int32.not_le.mpr h z.1)] at k
  · rwa [b2i_f (fun z => Int32.not_le.mpr h' z.2)] at k
  · rwa [b2i_t ⟨Int32.not_lt.mp h, Int32.not_lt.mp h'⟩] at k
theorem sp_X7_isState {a : Int32} (k : Q (b2i (0 ≤ a ∧ a ≤ 4)) x) : mSI mX7_isState [.int a] K x Q := by
  refine v_X7_isState_0 ⟨fun h => ?_, fun h => ⟨fun h' => ?_, fun h' => ?_⟩⟩
  · rwa [b2i_f (fun z => Int32.not_le.mpr h z.1)] at k
  · rwa [b2i_f (fun z => Int32.not_le.mpr h' z.2)] at k
  · rwa [b2i_t ⟨Int32.not_lt.mp h, Int32.not_lt.mp h'⟩] at k
theorem sp_X7_isLetter {a : Int32} (k : Q (b2i (97 ≤ a ∧ a ≤ 122)) x) : mSI mX7_isLetter [.int a] K x Q := by
  refine v_X7_isLetter_0 ⟨fun h => ?_, fun h => ⟨fun h' => ?_, fun h' => ?_⟩⟩
  · rwa [b2i_f (fun z => Int32.not_le.mpr h z.1)] at k
  · rwa [b2i_f (fun z => Int32.not_le.mpr h' z.2)] at k
  · rwa [b2i_t ⟨Int32.not_lt.mp h, Int32.not_lt.mp h'⟩] at k
theorem sp_X7_isDigit {a : Int32} (k : Q (b2i (48 ≤ a ∧ a ≤ 57)) x) : mSI mX7_isDigit [.int a] K x Q := by
  refine v_X7_isDigit_0 ⟨fun h => ?_, fun h => ⟨fun h' => ?_, fun h' => ?_⟩⟩
  · rwa [b2i_f (fun z => Int32.not_le.mpr h z.1)] at k
  · rwa [b2i_f (fun z => Int32.not_le.mpr h' z.2)] at k
  · rwa [b2i_t ⟨Int32.not_lt.mp h, Int32.not_lt.mp h'⟩] at k
theorem sp_X7_isWay {a : Int32} (k : Q (b2i (a = 0 ∨ a = 1)) x) : mSI mX7_isWay [.int a] K x Q := by
  refine v_X7_isWay_0 ⟨fun h => ?_, fun h => ⟨fun h' => ?_, fun h' => ?_⟩⟩
  · rwa [b2i_t (Or.inl h)] at k
  · rwa [b2i_f (fun z => z.elim h h')] at k
  · rwa [b2i_t (Or.inr h')] at k
theorem sp_X7_hasBit {a b : Int32} (k : Q (b2i (f_bit a b)) x) : mSI mX7_hasBit [.int a, .int b] K x Q := by
  refine v_X7_hasBit_0 ⟨fun h => ?_, fun h => ?_⟩
  · rwa [b2i_f (fun z => z h)] at k
  · rwa [b2i_t h] at k
theorem sp_X7_spanBits {a b : Int32} (k : Q (f_sb a b) x) : mSI mX7_spanBits [.int a, .int b] K x Q := v_X7_spanBits_0 k
theorem sp_X7_bitsFrom {a : Int32} (k : Q (f_bf a) x) : mSI mX7_bitsFrom [.int a] K x Q := by
  refine v_X7_bitsFrom_0 ⟨fun h => ?_, fun h => ?_⟩
  · unfold f_bf at k
    rwa [if_pos h] at k
  · unfold f_bf at k
    rwa [if_neg h] at k
theorem sp_J6_bitCount_0f7a4 {a : Int32} (k : Q (f_bc a) x) : mSI mJ6_bitCount_0f7a4 [.int a] K x Q := by
  refine v_J6_bitCount_0f7a4_0 (fun r1 h1 r2 h2 r3 h3 r4 h4 r5 h5 => ?_)
  have e : r5 = f_b5 (f_b4 (f_b3 (f_b2 (f_b1 a)))) := by
    rw [h5, h4, h3, h2, h1]
    rfl
  rw [e]
  exact k
theorem sp_X8_has {a b : Int32} (k : Q (b2i (f_has a b)) x) : mSI mX8_has [.int a, .int b] K x Q := by
  refine v_X8_has_0 ⟨fun h => ?_, fun h => ?_⟩
  · rwa [b2i_f h] at k
  · rwa [b2i_t h] at k
theorem sp_X8_span {a b : Int32} (k : Q (f_span a b) x) : mSI mX8_span [.int a, .int b] K x Q := by
  refine v_X8_span_0 ⟨fun h => ?_, fun h => ?_⟩
  · unfold f_span at k
    rwa [if_pos h] at k
  · unfold f_span at k
    rwa [if_neg h] at k
theorem le64 {a b : Int32} : a.toInt64 ≤ b.toInt64 ↔ a ≤ b := by
  rw [Int64.le_iff_toInt_le, Int32.le_iff_toInt_le, Int32.toInt_toInt64, Int32.toInt_toInt64]
theorem lt64 {a b : Int32} : a.toInt64 < b.toInt64 ↔ a < b := by
  rw [Int64.lt_iff_toInt_lt, Int32.lt_iff_toInt_lt, Int32.toInt_toInt64, Int32.toInt_toInt64]
theorem sp_X8_in {v lo hi : Int32} (k : Q (b2i (lo ≤ v ∧ v ≤ hi)) x) : mSI mX8_in [.long v.toInt64, .long lo.toInt64, .long hi.toInt64] K x Q := by
  intro l D ad sz
  refine Met.ofW (cc := cX8_in) (maxL := 6) (ret := some .boolean) (by decide) rfl ?_
  intro p e s m args below meth c s₁ B hml hv
  obtain ⟨rfl, hsz, hR, hK, hS⟩ := hv
  have hlocks := B.notSynchronized
  subst hsz
  have hx := B.exec
  have hb := B.bytes
  have hr := B.returns
  rw [lg_entry_eq]
  have hl := lv_entry ([.long v.toInt64, .long lo.toInt64, .long hi.toInt64]) (n := 6) (Nat.le_of_ble_eq_true rfl)
  change W _ _ _ _ _ _ _ _ _ _ _ _ _ _ _ (F0 m 0 ((lg_sl ([.long v.toInt64, .long lo.toInt64, .long hi.toInt64]) ++ List.replicate (6 - (lg_sl ([.long v.toInt64, .long lo.toInt64, .long hi.toInt64])).length) Slot.unset).toArray) [])
  generalize (lg_sl ([.long v.toInt64, .long lo.toInt64, .long hi.toInt64]) ++ List.replicate (6 - (lg_sl ([.long v.toInt64, .long lo.toInt64, .long hi.toInt64])).length) Slot.unset).toArray = ls at hl ⊢
  have hl : lv_has ls 6 [(0, .long v.toInt64), (2, .long lo.toInt64), (4, .long hi.toInt64)] := hl
  have hend : ∀ r : Int32, (r = 0 ∨ r = 1) → Q r x → W p l e (headSpec (mWs mX8_in) { frames := mX8_in.2.2.2.2.1, cells := 0, slots := 0, locals := mX8_in.2.2.2.2.2 }).room s m (List.map (mcv ad) [.long v.toInt64, .long lo.toInt64, .long hi.toInt64]).toArray below meth c s.heap [] 0 0 (MQ below (mQH D ad (hp K x) s.heap.size (PI K Q)) (List.map (mcv ad) [.long v.toInt64, .long lo.toInt64, .long hi.toInt64]).toArray s 0 0 (mAH ad (hp K x) s.heap.size)) (F0 m 18 ls [.int r]) := by
    intro r hr01 hq
    exact W.zret hx hb hr (by rcases hr01 with rfl | rfl <;> rfl) (fun t ht hW => ⟨⟨some (.int r), hp K x, rfl, ⟨r, x, rfl, rfl, hq⟩, by rw [ht]; exact (hR.self _).moved hW.alike⟩, (va_S.rf (A := mAH ad (hp K x) s.heap.size)).F ht⟩) (fun _ h => by cases h) dX8_in_18
  refine lv_lload_n hx hb dX8_in_0 rfl (lv_at hl 0 rfl) ?_
  refine lv_lload_n hx hb dX8_in_1 rfl (lv_at hl 1 rfl) ?_
  refine W.lcmp hx hb dX8_in_2 ?_
  refine lv_if_lt (tgt := 17) hx hb dX8_in_3 (by decide) (fun q => ?_) (fun q => ?_)
  · have q1 := lt64.mp ((lg_cmp_lt _ _).mp q)
    refine lv_iconst (v := 0) hx hb dX8_in_17 (by decide) ?_
    exact hend 0 (Or.inl rfl) (by rwa [b2i_f (fun z => Int32.not_le.mpr q1 z.1)] at k)
  · have q1 := fun z => q ((lg_cmp_lt _ _).mpr (lt64.mpr z))
    refine lv_lload_n hx hb dX8_in_6 rfl (lv_at hl 0 rfl) ?_
    refine lv_lload hx hb dX8_in_7 (lv_at hl 2 rfl) ?_
    refine W.lcmp hx hb dX8_in_9 ?_
    refine lv_if_gt (tgt := 17) hx hb dX8_in_10 (by decide) (fun q2 => ?_) (fun q2 => ?_)
    · have q3 := lt64.mp ((lg_cmp_gt _ _).mp q2)
      refine lv_iconst (v := 0) hx hb dX8_in_17 (by decide) ?_
      exact hend 0 (Or.inl rfl) (by rwa [b2i_f (fun z => Int32.not_le.mpr q3 z.2)] at k)
    · have q3 := fun z => q2 ((lg_cmp_gt _ _).mpr (lt64.mpr z))
      refine lv_iconst (v := 1) hx hb dX8_in_13 (by decide) ?_
      refine lv_goto (tgt := 18) hx hb dX8_in_14 (by decide) ?_
      exact hend 1 (Or.inr rfl) (by rwa [b2i_t ⟨Int32.not_lt.mp q1, Int32.not_lt.mp q3⟩] at k)
theorem sq_X8_in {v lo hi : Int32} {v1 v2 v3 : Int64} (e1 : v1 = v.toInt64) (e2 : v2 = lo.toInt64) (e3 : v3 = hi.toInt64) (k : Q (b2i (lo ≤ v ∧ v ≤ hi)) x) : mSI mX8_in [.long v1, .long v2, .long v3] K x Q := by
  rw [e1, e2, e3]
  exact sp_X8_in k
end SP1
end
/-! 18.small.lean.txt -/
section
set_option maxHeartbeats 2000000 in
theorem v_X8_isThere_0 {K : Sh} {x : Cn} {Q : Int32 → Cn → Prop} {b0 : Nat} {b0_1 : Nat} {n_b0_1 : Nat} (k_b0 : kk K b0 = some (8, 0)) (g_b0_1 : gr x b0 1 = some b0_1) (k_b0_1 : kk K b0_1 = some (20, n_b0_1)) (K0 : vp_in 0 n_b0_1 ∧ (((gi x b0_1 0) ≤ 0 → (Q 0 x)) ∧ (¬ (gi x b0_1 0) ≤ 0 → (Q 1 x)))) : mSI mX8_isThere [.ref b0] K x Q := by
  refine s_I (by decide) (by simp [Value.category]) (Nat.le_of_ble_eq_true rfl) ?_
  show mGM mX8_isThere 0 [some (.ref b0)] [] (hp K x) (PI K Q)
  refine r_aload_n (pc := 0) dX8_isThere_0 rfl ?_
  refine s_getR (pc := 1) dX8_isThere_1 fl_X8_9 rfl k_b0 g_b0_1 ?_
  refine r_iconst (pc := 4) (v := 0) dX8_isThere_4 (by decide) ?_
  obtain ⟨i_1, K0⟩ := K0
  refine s_iald (pc := 5) dX8_isThere_5 k_b0_1 i_1 ?_
  refine r_if_le (pc := 6) (tgt := 13) dX8_isThere_6 (by decide) (fun q => ?_) (fun q => ?_)
  · have K0 := K0.1 q
    refine r_iconst (pc := 13) (v := 0) dX8_isThere_13 (by decide) ?_
    exact s_zret rfl (by decide) dX8_isThere_14 K0
  · have K0 := K0.2 q
    refine r_iconst (pc := 9) (v := 1) dX8_isThere_9 (by decide) ?_
    refine r_goto (pc := 10) (tgt := 14) dX8_isThere_10 (by decide) ?_
    exact s_zret rfl (by decide) dX8_isThere_14 K0
set_option maxHeartbeats 2000000 in
theorem v_X8_one_0 {K : Sh} {x : Cn} {Q : Int32 → Cn → Prop} {b0 : Nat} {l1 : Int32} {l2 : Int32} {b0_3 : Nat} {n_b0_3 : Nat} (k_b0 : kk K b0 = some (8, 0)) (g_b0_3 : gr x b0 3 = some b0_3) (k_b0_3 : kk K b0_3 = some (20, n_b0_3)) (K0 : vp_in ((62 + (12 * l1)) + l2) n_b0_3 ∧ (Q (gi x b0_3 (((62 + (12 * l1)) + l2) : Int32).toNatClampNeg) x)) : mSI mX8_one [.ref b0, .int l1, .int l2] K x Q := by
  refine s_I (by decide) (by simp [Value.category]) (Nat.le_of_ble_eq_true rfl) ?_
  show mGM mX8_one 0 [some (.ref b0), some (.int l1), some (.int l2)] [] (hp K x) (PI K Q)
  refine r_aload_n (pc := 0) dX8_one_0 rfl ?_
  refine s_getR (pc := 1) dX8_one_1 fl_X8_16 rfl k_b0 g_b0_3 ?_
  refine r_bipush (pc := 4) (v := 62) dX8_one_4 (by decide) ?_
  refine r_bipush (pc := 6) (v := 12) dX8_one_6 (by decide) ?_
  refine r_iload_n (pc := 8) dX8_one_8 rfl ?_
  refine r_imul (pc := 9) dX8_one_9 ?_
  refine r_iadd (pc := 10) dX8_one_10 ?_
  refine r_iload_n (pc := 11) dX8_one_11 rfl ?_
  refine r_iadd (pc := 12) dX8_one_12 ?_
  obtain ⟨i_1, K0⟩ := K0
  refine s_iald (pc := 13) dX8_one_13 k_b0_3 i_1 ?_
  exact s_iret rfl dX8_one_14 K0
set_option maxHeartbeats 2000000 in
theorem v_X8_ask0_0 {K : Sh} {x : Cn} {Q : Int32 → Cn → Prop} {b0 : Nat} {l1 : Int32} {l2 : Int32} {b0_3 : Nat} {n_b0_3 : Nat} (k_b0 : kk K b0 = some (8, 0)) (g_b0_3 : gr x b0 3 = some b0_3) (k_b0_3 : kk K b0_3 = some (20, n_b0_3)) (K0 : vp_in ((350 + (7 * l1)) + l2) n_b0_3 ∧ (Q (gi x b0_3 (((350 + (7 * l1)) + l2) : Int32).toNatClampNeg) x)) : mSI mX8_ask0 [.ref b0, .int l1, .int l2] K x Q := by
  refine s_I (by decide) (by simp [Value.category]) (Nat.le_of_ble_eq_true rfl) ?_
  show mGM mX8_ask0 0 [some (.ref b0), some (.int l1), some (.int l2)] [] (hp K x) (PI K Q)
  refine r_aload_n (pc := 0) dX8_ask0_0 rfl ?_
  refine s_getR (pc := 1) dX8_ask0_1 fl_X8_16 rfl k_b0 g_b0_3 ?_
  refine r_sipush (pc := 4) (v := 350) dX8_ask0_4 (by decide) ?_
  refine r_bipush (pc := 7) (v := 7) dX8_ask0_7 (by decide) ?_
  refine r_iload_n (pc := 9) dX8_ask0_9 rfl ?_
  refine r_imul (pc := 10) dX8_ask0_10 ?_
  refine r_iadd (pc := 11) dX8_ask0_11 ?_
  refine r_iload_n (pc := 12) dX8_ask0_12 rfl ?_
  refine r_iadd (pc := 13) dX8_ask0_13 ?_
  obtain ⟨i_1, K0⟩ := K0
  refine s_iald (pc := 14) dX8_ask0_14 k_b0_3 i_1 ?_
  exact s_iret rfl dX8_ask0_15 K0
set_option maxHeartbeats 2000000 in
theorem v_X8_isSeries_0 {K : Sh} {x : Cn} {Q : Int32 → Cn → Prop} {b0 : Nat} {l1 : Int32} {b0_1 : Nat} {n_b0_1 : Nat} (k_b0 : kk K b0 = some (8, 0)) (g_b0_1 : gr x b0 1 = some b0_1) (k_b0_1 : kk K b0_1 = some (20, n_b0_1)) (K0 : vp_in 2 n_b0_1 ∧ (Q (b2i (0 ≤ l1 ∧ l1 ≤ ((gi x b0_1 2) - 1))) x)) : mSI mX8_isSeries [.ref b0, .int l1] K x Q := by
  refine s_I (by decide) (by simp [Value.category]) (Nat.le_of_ble_eq_true rfl) ?_
  show mGM mX8_isSeries 0 [some (.ref b0), some (.int l1)] [] (hp K x) (PI K Q)
  refine r_iload_n (pc := 0) dX8_isSeries_0 rfl ?_
  refine r_i2l (pc := 1) dX8_isSeries_1 ?_
  refine r_lconst (pc := 2) (v := 0) dX8_isSeries_2 (by decide) ?_
  refine r_aload_n (pc := 3) dX8_isSeries_3 rfl ?_
  refine s_getR (pc := 4) dX8_isSeries_4 fl_X8_9 rfl k_b0 g_b0_1 ?_
  refine r_iconst (pc := 7) (v := 2) dX8_isSeries_7 (by decide) ?_
  obtain ⟨i_1, K0⟩ := K0
  refine s_iald (pc := 8) dX8_isSeries_8 k_b0_1 i_1 ?_
  refine r_iconst (pc := 9) (v := 1) dX8_isSeries_9 (by decide) ?_
  refine r_isub (pc := 10) dX8_isSeries_10 ?_
  refine r_i2l (pc := 11) dX8_isSeries_11 ?_
  refine s_SI (pc := 12) mX8_in (As := [.long ((l1 : Int32).toInt64), .long 0, .long ((((gi x b0_1 2) - 1) : Int32).toInt64)]) dX8_isSeries_12 lk_X8_45 st_X8_in mo_X8_in ⟨by decide, by decide⟩ (Nat.le_of_ble_eq_true rfl) (sq_X8_in (v := l1) (lo := 0) (hi := ((gi x b0_1 2) - 1)) rfl (by decide) rfl ?_)
  exact s_zret rfl (b2i_01 _) dX8_isSeries_15 K0
set_option maxHeartbeats 2000000 in
theorem v_X8_isAsk_0 {K : Sh} {x : Cn} {Q : Int32 → Cn → Prop} {b0 : Nat} {l1 : Int32} {b0_1 : Nat} {n_b0_1 : Nat} (k_b0 : kk K b0 = some (8, 0)) (g_b0_1 : gr x b0 1 = some b0_1) (k_b0_1 : kk K b0_1 = some (20, n_b0_1)) (K0 : vp_in 3 n_b0_1 ∧ (Q (b2i (0 ≤ l1 ∧ l1 ≤ ((gi x b0_1 3) - 1))) x)) : mSI mX8_isAsk [.ref b0, .int l1] K x Q := by
  refine s_I (by decide) (by simp [Value.category]) (Nat.le_of_ble_eq_true rfl) ?_
  show mGM mX8_isAsk 0 [some (.ref b0), some (.int l1)] [] (hp K x) (PI K Q)
  refine r_iload_n (pc := 0) dX8_isAsk_0 rfl ?_
  refine r_i2l (pc := 1) dX8_isAsk_1 ?_
  refine r_lconst (pc := 2) (v := 0) dX8_isAsk_2 (by decide) ?_
  refine r_aload_n (pc := 3) dX8_isAsk_3 rfl ?_
  refine s_getR (pc := 4) dX8_isAsk_4 fl_X8_9 rfl k_b0 g_b0_1 ?_
  refine r_iconst (pc := 7) (v := 3) dX8_isAsk_7 (by decide) ?_
  obtain ⟨i_1, K0⟩ := K0
  refine s_iald (pc := 8) dX8_isAsk_8 k_b0_1 i_1 ?_
  refine r_iconst (pc := 9) (v := 1) dX8_isAsk_9 (by decide) ?_
  refine r_isub (pc := 10) dX8_isAsk_10 ?_
  refine r_i2l (pc := 11) dX8_isAsk_11 ?_
  refine s_SI (pc := 12) mX8_in (As := [.long ((l1 : Int32).toInt64), .long 0, .long ((((gi x b0_1 3) - 1) : Int32).toInt64)]) dX8_isAsk_12 lk_X8_45 st_X8_in mo_X8_in ⟨by decide, by decide⟩ (Nat.le_of_ble_eq_true rfl) (sq_X8_in (v := l1) (lo := 0) (hi := ((gi x b0_1 3) - 1)) rfl (by decide) rfl ?_)
  exact s_zret rfl (b2i_01 _) dX8_isAsk_15 K0
set_option maxHeartbeats 2000000 in
theorem v_X8_isCarrier_0 {K : Sh} {x : Cn} {Q : Int32 → Cn → Prop} {b0 : Nat} {l1 : Int32} {b0_1 : Nat} {n_b0_1 : Nat} (k_b0 : kk K b0 = some (8, 0)) (g_b0_1 : gr x b0 1 = some b0_1) (k_b0_1 : kk K b0_1 = some (20, n_b0_1)) (K0 : vp_in 1 n_b0_1 ∧ (Q (b2i (0 ≤ l1 ∧ l1 ≤ ((gi x b0_1 1) - 1))) x)) : mSI mX8_isCarrier [.ref b0, .int l1] K x Q := by
  refine s_I (by decide) (by simp [Value.category]) (Nat.le_of_ble_eq_true rfl) ?_
  show mGM mX8_isCarrier 0 [some (.ref b0), some (.int l1)] [] (hp K x) (PI K Q)
  refine r_iload_n (pc := 0) dX8_isCarrier_0 rfl ?_
  refine r_i2l (pc := 1) dX8_isCarrier_1 ?_
  refine r_lconst (pc := 2) (v := 0) dX8_isCarrier_2 (by decide) ?_
  refine r_aload_n (pc := 3) dX8_isCarrier_3 rfl ?_
  refine s_getR (pc := 4) dX8_isCarrier_4 fl_X8_9 rfl k_b0 g_b0_1 ?_
  refine r_iconst (pc := 7) (v := 1) dX8_isCarrier_7 (by decide) ?_
  obtain ⟨i_1, K0⟩ := K0
  refine s_iald (pc := 8) dX8_isCarrier_8 k_b0_1 i_1 ?_
  refine r_iconst (pc := 9) (v := 1) dX8_isCarrier_9 (by decide) ?_
  refine r_isub (pc := 10) dX8_isCarrier_10 ?_
  refine r_i2l (pc := 11) dX8_isCarrier_11 ?_
  refine s_SI (pc := 12) mX8_in (As := [.long ((l1 : Int32).toInt64), .long 0, .long ((((gi x b0_1 1) - 1) : Int32).toInt64)]) dX8_isCarrier_12 lk_X8_45 st_X8_in mo_X8_in ⟨by decide, by decide⟩ (Nat.le_of_ble_eq_true rfl) (sq_X8_in (v := l1) (lo := 0) (hi := ((gi x b0_1 1) - 1)) rfl (by decide) rfl ?_)
  exact s_zret rfl (b2i_01 _) dX8_isCarrier_15 K0
set_option maxHeartbeats 2000000 in
theorem v_X8_isWeek_0 {K : Sh} {x : Cn} {Q : Int32 → Cn → Prop} {b0 : Nat} {l1 : Int32} {b0_1 : Nat} {n_b0_1 : Nat} (k_b0 : kk K b0 = some (8, 0)) (g_b0_1 : gr x b0 1 = some b0_1) (k_b0_1 : kk K b0_1 = some (20, n_b0_1)) (K0 : vp_in 0 n_b0_1 ∧ (Q (b2i (0 ≤ l1 ∧ l1 ≤ ((gi x b0_1 0) - 1))) x)) : mSI mX8_isWeek [.ref b0, .int l1] K x Q := by
  refine s_I (by decide) (by simp [Value.category]) (Nat.le_of_ble_eq_true rfl) ?_
  show mGM mX8_isWeek 0 [some (.ref b0), some (.int l1)] [] (hp K x) (PI K Q)
  refine r_iload_n (pc := 0) dX8_isWeek_0 rfl ?_
  refine r_i2l (pc := 1) dX8_isWeek_1 ?_
  refine r_lconst (pc := 2) (v := 0) dX8_isWeek_2 (by decide) ?_
  refine r_aload_n (pc := 3) dX8_isWeek_3 rfl ?_
  refine s_getR (pc := 4) dX8_isWeek_4 fl_X8_9 rfl k_b0 g_b0_1 ?_
  refine r_iconst (pc := 7) (v := 0) dX8_isWeek_7 (by decide) ?_
  obtain ⟨i_1, K0⟩ := K0
  refine s_iald (pc := 8) dX8_isWeek_8 k_b0_1 i_1 ?_
  refine r_iconst (pc := 9) (v := 1) dX8_isWeek_9 (by decide) ?_
  refine r_isub (pc := 10) dX8_isWeek_10 ?_
  refine r_i2l (pc := 11) dX8_isWeek_11 ?_
  refine s_SI (pc := 12) mX8_in (As := [.long ((l1 : Int32).toInt64), .long 0, .long ((((gi x b0_1 0) - 1) : Int32).toInt64)]) dX8_isWeek_12 lk_X8_45 st_X8_in mo_X8_in ⟨by decide, by decide⟩ (Nat.le_of_ble_eq_true rfl) (sq_X8_in (v := l1) (lo := 0) (hi := ((gi x b0_1 0) - 1)) rfl (by decide) rfl ?_)
  exact s_zret rfl (b2i_01 _) dX8_isWeek_15 K0
set_option maxHeartbeats 2000000 in
theorem v_X8_good_0 {K : Sh} {x : Cn} {Q : Int32 → Cn → Prop} {b0 : Nat}  (k_b0 : kk K b0 = some (8, 0)) (K0 : (¬ (gi x b0 11) = 0 → (Q 0 x)) ∧ ((gi x b0 11) = 0 → (Q 1 x))) : mSI mX8_good [.ref b0] K x Q := by
  refine s_I (by decide) (by simp [Value.category]) (Nat.le_of_ble_eq_true rfl) ?_
  show mGM mX8_good 0 [some (.ref b0)] [] (hp K x) (PI K Q)
  refine r_aload_n (pc := 0) dX8_good_0 rfl ?_
  refine s_getI (pc := 1) dX8_good_1 fl_X8_101 rfl k_b0 ?_
  refine r_if_ne (pc := 4) (tgt := 11) dX8_good_4 (by decide) (fun q => ?_) (fun q => ?_)
  · have K0 := K0.1 q
    refine r_iconst (pc := 11) (v := 0) dX8_good_11 (by decide) ?_
    exact s_zret rfl (by decide) dX8_good_12 K0
  · have K0 := K0.2 q
    refine r_iconst (pc := 7) (v := 1) dX8_good_7 (by decide) ?_
    refine r_goto (pc := 8) (tgt := 12) dX8_good_8 (by decide) ?_
    exact s_zret rfl (by decide) dX8_good_12 K0
set_option maxHeartbeats 2000000 in
theorem v_X8_isComing_0 {K : Sh} {x : Cn} {Q : Int32 → Cn → Prop} {b0 : Nat} {l1 : Int32} {b0_1 : Nat} {n_b0_1 : Nat} (k_b0 : kk K b0 = some (8, 0)) (g_b0_1 : gr x b0 1 = some b0_1) (k_b0_1 : kk K b0_1 = some (20, n_b0_1)) (K0 : vp_in 4 n_b0_1 ∧ ((l1 < (gi x b0_1 4) → (Q 0 x)) ∧ (¬ l1 < (gi x b0_1 4) → (Q 1 x)))) : mSI mX8_isComing [.ref b0, .int l1] K x Q := by
  refine s_I (by decide) (by simp [Value.category]) (Nat.le_of_ble_eq_true rfl) ?_
  show mGM mX8_isComing 0 [some (.ref b0), some (.int l1)] [] (hp K x) (PI K Q)
  refine r_iload_n (pc := 0) dX8_isComing_0 rfl ?_
  refine r_aload_n (pc := 1) dX8_isComing_1 rfl ?_
  refine s_getR (pc := 2) dX8_isComing_2 fl_X8_9 rfl k_b0 g_b0_1 ?_
  refine r_iconst (pc := 5) (v := 4) dX8_isComing_5 (by decide) ?_
  obtain ⟨i_1, K0⟩ := K0
  refine s_iald (pc := 6) dX8_isComing_6 k_b0_1 i_1 ?_
  refine r_icmp_lt (pc := 7) (tgt := 14) dX8_isComing_7 (by decide) (fun q => ?_) (fun q => ?_)
  · have K0 := K0.1 q
    refine r_iconst (pc := 14) (v := 0) dX8_isComing_14 (by decide) ?_
    exact s_zret rfl (by decide) dX8_isComing_15 K0
  · have K0 := K0.2 q
    refine r_iconst (pc := 10) (v := 1) dX8_isComing_10 (by decide) ?_
    refine r_goto (pc := 11) (tgt := 15) dX8_isComing_11 (by decide) ?_
    exact s_zret rfl (by decide) dX8_isComing_15 K0
set_option maxHeartbeats 2000000 in
theorem v_X5_openBits_0 {K : Sh} {x : Cn} {Q : Int32 → Cn → Prop} {b0 : Nat}  (k_b0 : kk K b0 = some (5, 0)) (K0 : Q ((gi x b0 7) &&& (((((gi x b0 8) ||| (gi x b0 9)) ||| (gi x b0 10)) ||| (gi x b0 11)) ^^^ (-1))) x) : mSI mX5_openBits [.ref b0] K x Q := by
  refine s_I (by decide) (by simp [Value.category]) (Nat.le_of_ble_eq_true rfl) ?_
  show mGM mX5_openBits 0 [some (.ref b0)] [] (hp K x) (PI K Q)
  refine r_aload_n (pc := 0) dX5_openBits_0 rfl ?_
  refine s_getI (pc := 1) dX5_openBits_1 fl_X5_34 rfl k_b0 ?_
  refine r_aload_n (pc := 4) dX5_openBits_4 rfl ?_
  refine s_getI (pc := 5) dX5_openBits_5 fl_X5_37 rfl k_b0 ?_
  refine r_aload_n (pc := 8) dX5_openBits_8 rfl ?_
  refine s_getI (pc := 9) dX5_openBits_9 fl_X5_40 rfl k_b0 ?_
  refine r_ior (pc := 12) dX5_openBits_12 ?_
  refine r_aload_n (pc := 13) dX5_openBits_13 rfl ?_
  refine s_getI (pc := 14) dX5_openBits_14 fl_X5_43 rfl k_b0 ?_
  refine r_ior (pc := 17) dX5_openBits_17 ?_
  refine r_aload_n (pc := 18) dX5_openBits_18 rfl ?_
  refine s_getI (pc := 19) dX5_openBits_19 fl_X5_46 rfl k_b0 ?_
  refine r_ior (pc := 22) dX5_openBits_22 ?_
  refine r_iconst (pc := 23) (v := (-1)) dX5_openBits_23 (by decide) ?_
  refine r_ixor (pc := 24) dX5_openBits_24 ?_
  refine r_iand (pc := 25) dX5_openBits_25 ?_
  exact s_iret rfl dX5_openBits_26 K0
set_option maxHeartbeats 2000000 in
theorem v_X5_heldBits_0 {K : Sh} {x : Cn} {Q : Int32 → Cn → Prop} {b0 : Nat}  (k_b0 : kk K b0 = some (5, 0)) (K0 : Q ((gi x b0 7) &&& ((gi x b0 11) ^^^ (-1))) x) : mSI mX5_heldBits [.ref b0] K x Q := by
  refine s_I (by decide) (by simp [Value.category]) (Nat.le_of_ble_eq_true rfl) ?_
  show mGM mX5_heldBits 0 [some (.ref b0)] [] (hp K x) (PI K Q)
  refine r_aload_n (pc := 0) dX5_heldBits_0 rfl ?_
  refine s_getI (pc := 1) dX5_heldBits_1 fl_X5_34 rfl k_b0 ?_
  refine r_aload_n (pc := 4) dX5_heldBits_4 rfl ?_
  refine s_getI (pc := 5) dX5_heldBits_5 fl_X5_46 rfl k_b0 ?_
  refine r_iconst (pc := 8) (v := (-1)) dX5_heldBits_8 (by decide) ?_
  refine r_ixor (pc := 9) dX5_heldBits_9 ?_
  refine r_iand (pc := 10) dX5_heldBits_10 ?_
  exact s_iret rfl dX5_heldBits_11 K0
set_option maxHeartbeats 2000000 in
theorem v_X5_isOf_0 {K : Sh} {x : Cn} {Q : Int32 → Cn → Prop} {b0 : Nat} {l1 : Int32} {l2 : Int32}  (k_b0 : kk K b0 = some (5, 0)) (K0 : (¬ (gi x b0 0) = l1 → (Q 0 x)) ∧ ((gi x b0 0) = l1 → ((l2 = (-1) → (Q 1 x)) ∧ (¬ l2 = (-1) → ((¬ (gi x b0 1) = l2 → (Q 0 x)) ∧ ((gi x b0 1) = l2 → (Q 1 x))))))) : mSI mX5_isOf [.ref b0, .int l1, .int l2] K x Q := by
  refine s_I (by decide) (by simp [Value.category]) (Nat.le_of_ble_eq_true rfl) ?_
  show mGM mX5_isOf 0 [some (.ref b0), some (.int l1), some (.int l2)] [] (hp K x) (PI K Q)
  refine r_aload_n (pc := 0) dX5_isOf_0 rfl ?_
  refine s_getI (pc := 1) dX5_isOf_1 fl_X5_9 rfl k_b0 ?_
  refine r_iload_n (pc := 4) dX5_isOf_4 rfl ?_
  refine r_icmp_ne (pc := 5) (tgt := 25) dX5_isOf_5 (by decide) (fun q => ?_) (fun q => ?_)
  · have K0 := K0.1 q
    refine r_iconst (pc := 25) (v := 0) dX5_isOf_25 (by decide) ?_
    exact s_zret rfl (by decide) dX5_isOf_26 K0
  · have K0 := K0.2 q
    refine r_iload_n (pc := 8) dX5_isOf_8 rfl ?_
    refine r_iconst (pc := 9) (v := (-1)) dX5_isOf_9 (by decide) ?_
    refine r_icmp_eq (pc := 10) (tgt := 21) dX5_isOf_10 (by decide) (fun q => ?_) (fun q => ?_)
    · have K0 := K0.1 q
      refine r_iconst (pc := 21) (v := 1) dX5_isOf_21 (by decide) ?_
      refine r_goto (pc := 22) (tgt := 26) dX5_isOf_22 (by decide) ?_
      exact s_zret rfl (by decide) dX5_isOf_26 K0
    · have K0 := K0.2 q
      refine r_aload_n (pc := 13) dX5_isOf_13 rfl ?_
      refine s_getI (pc := 14) dX5_isOf_14 fl_X5_15 rfl k_b0 ?_
      refine r_iload_n (pc := 17) dX5_isOf_17 rfl ?_
      refine r_icmp_ne (pc := 18) (tgt := 25) dX5_isOf_18 (by decide) (fun q => ?_) (fun q => ?_)
      · have K0 := K0.1 q
        refine r_iconst (pc := 25) (v := 0) dX5_isOf_25 (by decide) ?_
        exact s_zret rfl (by decide) dX5_isOf_26 K0
      · have K0 := K0.2 q
        refine r_iconst (pc := 21) (v := 1) dX5_isOf_21 (by decide) ?_
        refine r_goto (pc := 22) (tgt := 26) dX5_isOf_22 (by decide) ?_
        exact s_zret rfl (by decide) dX5_isOf_26 K0
set_option maxHeartbeats 2000000 in
theorem v_X0_wantedBits_0 {K : Sh} {x : Cn} {Q : Int32 → Cn → Prop} {b0 : Nat}  (k_b0 : kk K b0 = some (0, 0)) (K0 : Q (f_sb (gi x b0 4) (gi x b0 5)) x) : mSI mX0_wantedBits [.ref b0] K x Q := by
  refine s_I (by decide) (by simp [Value.category]) (Nat.le_of_ble_eq_true rfl) ?_
  show mGM mX0_wantedBits 0 [some (.ref b0)] [] (hp K x) (PI K Q)
  refine r_aload_n (pc := 0) dX0_wantedBits_0 rfl ?_
  refine s_getI (pc := 1) dX0_wantedBits_1 fl_X0_22 rfl k_b0 ?_
  refine r_aload_n (pc := 4) dX0_wantedBits_4 rfl ?_
  refine s_getI (pc := 5) dX0_wantedBits_5 fl_X0_25 rfl k_b0 ?_
  refine s_SNI (pc := 8) mX7_spanBits (As := [.int (gi x b0 4), .int (gi x b0 5)]) dX0_wantedBits_8 nl_X0_39 st_X7_spanBits mo_X7_spanBits ⟨by decide, by decide⟩ (Nat.le_of_ble_eq_true rfl) (sp_X7_spanBits  ?_)
  exact s_iret rfl dX0_wantedBits_11 K0
set_option maxHeartbeats 2000000 in
theorem v_X4_isOver_0 {K : Sh} {x : Cn} {Q : Int32 → Cn → Prop} {b0 : Nat}  (k_b0 : kk K b0 = some (4, 0)) (K0 : ((gi x b0 1) < (gi x b0 0) → (Q 0 x)) ∧ (¬ (gi x b0 1) < (gi x b0 0) → (Q 1 x))) : mSI mX4_isOver [.ref b0] K x Q := by
  refine s_I (by decide) (by simp [Value.category]) (Nat.le_of_ble_eq_true rfl) ?_
  show mGM mX4_isOver 0 [some (.ref b0)] [] (hp K x) (PI K Q)
  refine r_aload_n (pc := 0) dX4_isOver_0 rfl ?_
  refine s_getI (pc := 1) dX4_isOver_1 fl_X4_15 rfl k_b0 ?_
  refine r_aload_n (pc := 4) dX4_isOver_4 rfl ?_
  refine s_getI (pc := 5) dX4_isOver_5 fl_X4_9 rfl k_b0 ?_
  refine r_icmp_lt (pc := 8) (tgt := 15) dX4_isOver_8 (by decide) (fun q => ?_) (fun q => ?_)
  · have K0 := K0.1 q
    refine r_iconst (pc := 15) (v := 0) dX4_isOver_15 (by decide) ?_
    exact s_zret rfl (by decide) dX4_isOver_16 K0
  · have K0 := K0.2 q
    refine r_iconst (pc := 11) (v := 1) dX4_isOver_11 (by decide) ?_
    refine r_goto (pc := 12) (tgt := 16) dX4_isOver_12 (by decide) ?_
    exact s_zret rfl (by decide) dX4_isOver_16 K0
set_option maxHeartbeats 2000000 in
theorem v_X7_hasText_0 {K : Sh} {x : Cn} {Q : Int32 → Cn → Prop} {b0 : Nat} {b0_2 : Nat} (k_b0 : kk K b0 = some (7, 0)) (g_b0_2 : gr x b0 2 = some b0_2) (k_b0_2 : kk K b0_2 = some (4, 0)) (K0 : ((gi x b0_2 0) ≤ 0 → (Q 0 x)) ∧ (¬ (gi x b0_2 0) ≤ 0 → (Q 1 x))) : mSI mX7_hasText [.ref b0] K x Q := by
  refine s_I (by decide) (by simp [Value.category]) (Nat.le_of_ble_eq_true rfl) ?_
  show mGM mX7_hasText 0 [some (.ref b0)] [] (hp K x) (PI K Q)
  refine r_aload_n (pc := 0) dX7_hasText_0 rfl ?_
  refine s_getR (pc := 1) dX7_hasText_1 fl_X7_20 rfl k_b0 g_b0_2 ?_
  refine s_getI (pc := 4) dX7_hasText_4 fl_X7_91 rfl k_b0_2 ?_
  refine r_if_le (pc := 7) (tgt := 14) dX7_hasText_7 (by decide) (fun q => ?_) (fun q => ?_)
  · have K0 := K0.1 q
    refine r_iconst (pc := 14) (v := 0) dX7_hasText_14 (by decide) ?_
    exact s_zret rfl (by decide) dX7_hasText_15 K0
  · have K0 := K0.2 q
    refine r_iconst (pc := 10) (v := 1) dX7_hasText_10 (by decide) ?_
    refine r_goto (pc := 11) (tgt := 15) dX7_hasText_11 (by decide) ?_
    exact s_zret rfl (by decide) dX7_hasText_15 K0
set_option maxHeartbeats 2000000 in
theorem v_X7_isSeries_0 {K : Sh} {x : Cn} {Q : Int32 → Cn → Prop} {b0 : Nat} {l1 : Int32} {b0_2 : Nat} (k_b0 : kk K b0 = some (7, 0)) (g_b0_2 : gr x b0 2 = some b0_2) (k_b0_2 : kk K b0_2 = some (4, 0)) (K0 : (l1 < 0 → (Q 0 x)) ∧ (¬ l1 < 0 → (((gi x b0_2 3) ≤ l1 → (Q 0 x)) ∧ (¬ (gi x b0_2 3) ≤ l1 → (Q 1 x))))) : mSI mX7_isSeries [.ref b0, .int l1] K x Q := by
  refine s_I (by decide) (by simp [Value.category]) (Nat.le_of_ble_eq_true rfl) ?_
  show mGM mX7_isSeries 0 [some (.ref b0), some (.int l1)] [] (hp K x) (PI K Q)
  refine r_iload_n (pc := 0) dX7_isSeries_0 rfl ?_
  refine r_if_lt (pc := 1) (tgt := 19) dX7_isSeries_1 (by decide) (fun q => ?_) (fun q => ?_)
  · have K0 := K0.1 q
    refine r_iconst (pc := 19) (v := 0) dX7_isSeries_19 (by decide) ?_
    exact s_zret rfl (by decide) dX7_isSeries_20 K0
  · have K0 := K0.2 q
    refine r_iload_n (pc := 4) dX7_isSeries_4 rfl ?_
    refine r_aload_n (pc := 5) dX7_isSeries_5 rfl ?_
    refine s_getR (pc := 6) dX7_isSeries_6 fl_X7_20 rfl k_b0 g_b0_2 ?_
    refine s_getI (pc := 9) dX7_isSeries_9 fl_X7_97 rfl k_b0_2 ?_
    refine r_icmp_ge (pc := 12) (tgt := 19) dX7_isSeries_12 (by decide) (fun q => ?_) (fun q => ?_)
    · have K0 := K0.1 q
      refine r_iconst (pc := 19) (v := 0) dX7_isSeries_19 (by decide) ?_
      exact s_zret rfl (by decide) dX7_isSeries_20 K0
    · have K0 := K0.2 q
      refine r_iconst (pc := 15) (v := 1) dX7_isSeries_15 (by decide) ?_
      refine r_goto (pc := 16) (tgt := 20) dX7_isSeries_16 (by decide) ?_
      exact s_zret rfl (by decide) dX7_isSeries_20 K0
set_option maxHeartbeats 2000000 in
theorem v_X7_isAsk_0 {K : Sh} {x : Cn} {Q : Int32 → Cn → Prop} {b0 : Nat} {l1 : Int32} {b0_2 : Nat} (k_b0 : kk K b0 = some (7, 0)) (g_b0_2 : gr x b0 2 = some b0_2) (k_b0_2 : kk K b0_2 = some (4, 0)) (K0 : (l1 < 0 → (Q 0 x)) ∧ (¬ l1 < 0 → (((gi x b0_2 4) ≤ l1 → (Q 0 x)) ∧ (¬ (gi x b0_2 4) ≤ l1 → (Q 1 x))))) : mSI mX7_isAsk [.ref b0, .int l1] K x Q := by
  refine s_I (by decide) (by simp [Value.category]) (Nat.le_of_ble_eq_true rfl) ?_
  show mGM mX7_isAsk 0 [some (.ref b0), some (.int l1)] [] (hp K x) (PI K Q)
  refine r_iload_n (pc := 0) dX7_isAsk_0 rfl ?_
  refine r_if_lt (pc := 1) (tgt := 19) dX7_isAsk_1 (by decide) (fun q => ?_) (fun q => ?_)
  · have K0 := K0.1 q
    refine r_iconst (pc := 19) (v := 0) dX7_isAsk_19 (by decide) ?_
    exact s_zret rfl (by decide) dX7_isAsk_20 K0
  · have K0 := K0.2 q
    refine r_iload_n (pc := 4) dX7_isAsk_4 rfl ?_
    refine r_aload_n (pc := 5) dX7_isAsk_5 rfl ?_
    refine s_getR (pc := 6) dX7_isAsk_6 fl_X7_20 rfl k_b0 g_b0_2 ?_
    refine s_getI (pc := 9) dX7_isAsk_9 fl_X7_100 rfl k_b0_2 ?_
    refine r_icmp_ge (pc := 12) (tgt := 19) dX7_isAsk_12 (by decide) (fun q => ?_) (fun q => ?_)
    · have K0 := K0.1 q
      refine r_iconst (pc := 19) (v := 0) dX7_isAsk_19 (by decide) ?_
      exact s_zret rfl (by decide) dX7_isAsk_20 K0
    · have K0 := K0.2 q
      refine r_iconst (pc := 15) (v := 1) dX7_isAsk_15 (by decide) ?_
      refine r_goto (pc := 16) (tgt := 20) dX7_isAsk_16 (by decide) ?_
      exact s_zret rfl (by decide) dX7_isAsk_20 K0
set_option maxHeartbeats 2000000 in
theorem v_X7_isCarrier_0 {K : Sh} {x : Cn} {Q : Int32 → Cn → Prop} {b0 : Nat} {l1 : Int32} {b0_3 : Nat} (k_b0 : kk K b0 = some (7, 0)) (g_b0_3 : gr x b0 3 = some b0_3) (k_b0_3 : kk K b0_3 = some (1, 0)) (K0 : (l1 < 0 → (Q 0 x)) ∧ (¬ l1 < 0 → (((gi x b0_3 0) ≤ l1 → (Q 0 x)) ∧ (¬ (gi x b0_3 0) ≤ l1 → (Q 1 x))))) : mSI mX7_isCarrier [.ref b0, .int l1] K x Q := by
  refine s_I (by decide) (by simp [Value.category]) (Nat.le_of_ble_eq_true rfl) ?_
  show mGM mX7_isCarrier 0 [some (.ref b0), some (.int l1)] [] (hp K x) (PI K Q)
  refine r_iload_n (pc := 0) dX7_isCarrier_0 rfl ?_
  refine r_if_lt (pc := 1) (tgt := 19) dX7_isCarrier_1 (by decide) (fun q => ?_) (fun q => ?_)
  · have K0 := K0.1 q
    refine r_iconst (pc := 19) (v := 0) dX7_isCarrier_19 (by decide) ?_
    exact s_zret rfl (by decide) dX7_isCarrier_20 K0
  · have K0 := K0.2 q
    refine r_iload_n (pc := 4) dX7_isCarrier_4 rfl ?_
    refine r_aload_n (pc := 5) dX7_isCarrier_5 rfl ?_
    refine s_getR (pc := 6) dX7_isCarrier_6 fl_X7_27 rfl k_b0 g_b0_3 ?_
    refine s_getI (pc := 9) dX7_isCarrier_9 fl_X7_94 rfl k_b0_3 ?_
    refine r_icmp_ge (pc := 12) (tgt := 19) dX7_isCarrier_12 (by decide) (fun q => ?_) (fun q => ?_)
    · have K0 := K0.1 q
      refine r_iconst (pc := 19) (v := 0) dX7_isCarrier_19 (by decide) ?_
      exact s_zret rfl (by decide) dX7_isCarrier_20 K0
    · have K0 := K0.2 q
      refine r_iconst (pc := 15) (v := 1) dX7_isCarrier_15 (by decide) ?_
      refine r_goto (pc := 16) (tgt := 20) dX7_isCarrier_16 (by decide) ?_
      exact s_zret rfl (by decide) dX7_isCarrier_20 K0
set_option maxHeartbeats 2000000 in
theorem v_X7_isWeek_0 {K : Sh} {x : Cn} {Q : Int32 → Cn → Prop} {b0 : Nat} {l1 : Int32} {b0_2 : Nat} (k_b0 : kk K b0 = some (7, 0)) (g_b0_2 : gr x b0 2 = some b0_2) (k_b0_2 : kk K b0_2 = some (4, 0)) (K0 : (l1 < 0 → (Q 0 x)) ∧ (¬ l1 < 0 → (((gi x b0_2 0) ≤ l1 → (Q 0 x)) ∧ (¬ (gi x b0_2 0) ≤ l1 → (Q 1 x))))) : mSI mX7_isWeek [.ref b0, .int l1] K x Q := by
  refine s_I (by decide) (by simp [Value.category]) (Nat.le_of_ble_eq_true rfl) ?_
  show mGM mX7_isWeek 0 [some (.ref b0), some (.int l1)] [] (hp K x) (PI K Q)
  refine r_iload_n (pc := 0) dX7_isWeek_0 rfl ?_
  refine r_if_lt (pc := 1) (tgt := 19) dX7_isWeek_1 (by decide) (fun q => ?_) (fun q => ?_)
  · have K0 := K0.1 q
    refine r_iconst (pc := 19) (v := 0) dX7_isWeek_19 (by decide) ?_
    exact s_zret rfl (by decide) dX7_isWeek_20 K0
  · have K0 := K0.2 q
    refine r_iload_n (pc := 4) dX7_isWeek_4 rfl ?_
    refine r_aload_n (pc := 5) dX7_isWeek_5 rfl ?_
    refine s_getR (pc := 6) dX7_isWeek_6 fl_X7_20 rfl k_b0 g_b0_2 ?_
    refine s_getI (pc := 9) dX7_isWeek_9 fl_X7_91 rfl k_b0_2 ?_
    refine r_icmp_ge (pc := 12) (tgt := 19) dX7_isWeek_12 (by decide) (fun q => ?_) (fun q => ?_)
    · have K0 := K0.1 q
      refine r_iconst (pc := 19) (v := 0) dX7_isWeek_19 (by decide) ?_
      exact s_zret rfl (by decide) dX7_isWeek_20 K0
    · have K0 := K0.2 q
      refine r_iconst (pc := 15) (v := 1) dX7_isWeek_15 (by decide) ?_
      refine r_goto (pc := 16) (tgt := 20) dX7_isWeek_16 (by decide) ?_
      exact s_zret rfl (by decide) dX7_isWeek_20 K0
end
/-! 19.sp2.lean.txt -/
section
/-! small methods that read -/
def f_open (x : Cn) (b : Nat) : Int32 := (gi x b 7) &&& (((((gi x b 8) ||| (gi x b 9)) ||| (gi x b 10)) ||| (gi x b 11)) ^^^ (-1))
def f_held (x : Cn) (b : Nat) : Int32 := (gi x b 7) &&& ((gi x b 11) ^^^ (-1))
section SP2
variable {K : Sh} {x : Cn} {Q : Int32 → Cn → Prop} {b t n : Nat}
theorem b2i_k {c : Prop} [Decidable c] (k : Q (b2i c) x) : (c → Q 1 x) ∧ (¬ c → Q 0 x) := ⟨fun h => by rwa [b2i_t h] at k, fun h => by rwa [b2i_f h] at k⟩
theorem sp_X8_isThere (h1 : kk K b = some (8, 0)) (h2 : gr x b 1 = some t) (h3 : kk K t = some (20, n)) (h4 : vp_in 0 n) (k : Q (b2i (0 < gi x t 0)) x) : mSI mX8_isThere [.ref b] K x Q :=
  v_X8_isThere_0 h1 h2 h3 ⟨h4, fun h => (b2i_k k).2 (Int32.not_lt.mpr h), fun h => (b2i_k k).1 (Int32.not_le.mp h)⟩
theorem sp_X8_one {l1 l2 : Int32} (h1 : kk K b = some (8, 0)) (h2 : gr x b 3 = some t) (h3 : kk K t = some (20, n)) (h4 : vp_in ((62 + (12 * l1)) + l2) n) (k : Q (gi x t ((62 + (12 * l1)) + l2 : Int32).toNatClampNeg) x) : mSI mX8_one [.ref b, .int l1, .int l2] K x Q := v_X8_one_0 h1 h2 h3 ⟨h4, k⟩
theorem sp_X8_ask0 {l1 l2 : Int32} (h1 : kk K b = some (8, 0)) (h2 : gr x b 3 = some t) (h3 : kk K t = some (20, n)) (h4 : vp_in ((350 + (7 * l1)) + l2) n) (k : Q (gi x t ((350 + (7 * l1)) + l2 : Int32).toNatClampNeg) x) : mSI mX8_ask0 [.ref b, .int l1, .int l2] K x Q := v_X8_ask0_0 h1 h2 h3 ⟨h4, k⟩
theorem sp_X8_isSeries {l1 : Int32} (h1 : kk K b = some (8, 0)) (h2 : gr x b 1 = some t) (h3 : kk K t = some (20, n)) (h4 : vp_in 2 n) (k : Q (b2i (0 ≤ l1 ∧ l1 ≤ gi x t 2 - 1)) x) : mSI mX8_isSeries [.ref b, .int l1] K x Q := v_X8_isSeries_0 h1 h2 h3 ⟨h4, k⟩
theorem sp_X8_isAsk {l1 : Int32} (h1 : kk K b = some (8, 0)) (h2 : gr x b 1 = some t) (h3 : kk K t = some (20, n)) (h4 : vp_in 3 n) (k : Q (b2i (0 ≤ l1 ∧ l1 ≤ gi x t 3 - 1)) x) : mSI mX8_isAsk [.ref b, .int l1] K x Q := v_X8_isAsk_0 h1 h2 h3 ⟨h4, k⟩
theorem sp_X8_isCarrier {l1 : Int32} (h1 : kk K b = some (8, 0)) (h2 : gr x b 1 = some t) (h3 : kk K t = some (20, n)) (h4 : vp_in 1 n) (k : Q (b2i (0 ≤ l1 ∧ l1 ≤ gi x t 1 - 1)) x) : mSI mX8_isCarrier [.ref b, .int l1] K x Q := v_X8_isCarrier_0 h1 h2 h3 ⟨h4, k⟩
theorem sp_X8_isWeek {l1 : Int32} (h1 : kk K b = some (8, 0)) (h2 : gr x b 1 = some t) (h3 : kk K t = some (20, n)) (h4 : vp_in 0 n) (k : Q (b2i (0 ≤ l1 ∧ l1 ≤ gi x t 0 - 1)) x) : mSI mX8_isWeek [.ref b, .int l1] K x Q := v_X8_isWeek_0 h1 h2 h3 ⟨h4, k⟩
theorem sp_X8_good (h1 : kk K b = some (8, 0)) (k : Q (b2i (gi x b 11 = 0)) x) : mSI mX8_good [.ref b] K x Q := v_X8_good_0 h1 ⟨(b2i_k k).2, (b2i_k k).1⟩
theorem sp_X8_isComing {l1 : Int32} (h1 : kk K b = some (8, 0)) (h2 : gr x b 1 = some t) (h3 : kk K t = some (20, n)) (h4 : vp_in 4 n) (k : Q (b2i (gi x t 4 ≤ l1)) x) : mSI mX8_isComing [.ref b, .int l1] K x Q := v_X8_isComing_0 h1 h2 h3 ⟨h4, fun h => (b2i_k k).2 (Int32.not_le.mpr h), fun h => (b2i_k k).1 (Int32.not_lt.mp h)⟩
theorem sp_X5_openBits (h1 : kk K b = some (5, 0)) (k : Q (f_open x b) x) : mSI mX5_openBits [.ref b] K x Q := v_X5_openBits_0 h1 k
theorem sp_X5_heldBits (h1 : kk K b = some (5, 0)) (k : Q (f_held x b) x) : mSI mX5_heldBits [.ref b] K x Q := v_X5_heldBits_0 h1 k
theorem sp_X5_isOf {l1 l2 : Int32} (h1 : kk K b = some (5, 0)) (k : Q (b2i (gi x b 0 = l1 ∧ (l2 = -1 ∨ gi x b 1 = l2))) x) : mSI mX5_isOf [.ref b, .int l1, .int l2] K x Q :=
  v_X5_isOf_0 h1 ⟨fun h => (b2i_k k).2 (fun z => h z.1), fun h => ⟨fun h' => (b2i_k k).1 ⟨h, Or.inl h'⟩, fun h' => ⟨fun g => (b2i_k k).2 (fun z => z.2.elim h' g), fun g => (b2i_k k).1 ⟨h, Or.inr g⟩⟩⟩⟩
theorem sp_X0_wantedBits (h1 : kk K b = some (0, 0)) (k : Q (f_sb (gi x b 4) (gi x b 5)) x) : mSI mX0_wantedBits [.ref b] K x Q := v_X0_wantedBits_0 h1 k
theorem sp_X4_isOver (h1 : kk K b = some (4, 0)) (k : Q (b2i (gi x b 0 ≤ gi x b 1)) x) : mSI mX4_isOver [.ref b] K x Q := v_X4_isOver_0 h1 ⟨fun h => (b2i_k k).2 (Int32.not_le.mpr h), fun h => (b2i_k k).1 (Int32.not_lt.mp h)⟩
theorem sp_X7_hasText (h1 : kk K b = some (7, 0)) (h2 : gr x b 2 = some t) (h3 : kk K t = some (4, 0)) (k : Q (b2i (0 < gi x t 0)) x) : mSI mX7_hasText [.ref b] K x Q := v_X7_hasText_0 h1 h2 h3 ⟨fun h => (b2i_k k).2 (Int32.not_lt.mpr h), fun h => (b2i_k k).1 (Int32.not_le.mp h)⟩
theorem sp_X7_isSeries {l1 : Int32} (h1 : kk K b = some (7, 0)) (h2 : gr x b 2 = some t) (h3 : kk K t = some (4, 0)) (k : Q (b2i (0 ≤ l1 ∧ l1 < gi x t 3)) x) : mSI mX7_isSeries [.ref b, .int l1] K x Q := v_X7_isSeries_0 h1 h2 h3 ⟨fun h => (b2i_k k).2 (fun z => Int32.not_le.mpr h z.1), fun h => ⟨fun h' => (b2i_k k).2 (fun z => Int32.not_lt.mpr h' z.2), fun h' => (b2i_k k).1 ⟨Int32.not_lt.mp h, Int32.not_le.mp h'⟩⟩⟩
theorem sp_X7_isAsk {l1 : Int32} (h1 : kk K b = some (7, 0)) (h2 : gr x b 2 = some t) (h3 : kk K t = some (4, 0)) (k : Q (b2i (0 ≤ l1 ∧ l1 < gi x t 4)) x) : mSI mX7_isAsk [.ref b, .int l1] K x Q := v_X7_isAsk_0 h1 h2 h3 ⟨fun h => (b2i_k k).2 (fun z => Int32.not_le.mpr h z.1), fun h => ⟨fun h' => (b2i_k k).2 (fun z => Int32.not_lt.mpr h' z.2), fun h' => (b2i_k k).1 ⟨Int32.not_lt.mp h, Int32.not_le.mp h'⟩⟩⟩
theorem sp_X7_isCarrier {l1 : Int32} (h1 : kk K b = some (7, 0)) (h2 : gr x b 3 = some t) (h3 : kk K t = some (1, 0)) (k : Q (b2i (0 ≤ l1 ∧ l1 < gi x t 0)) x) : mSI mX7_isCarrier [.ref b, .int l1] K x Q := v_X7_isCarrier_0 h1 h2 h3 ⟨fun h => (b2i_k k).2 (fun z => Int32.not_le.mpr h z.1), fun h => ⟨fun h' => (b2i_k k).2 (fun z => Int32.not_lt.mpr h' z.2), fun h' => (b2i_k k).1 ⟨Int32.not_lt.mp h, Int32.not_le.mp h'⟩⟩⟩
theorem sp_X7_isWeek {l1 : Int32} (h1 : kk K b = some (7, 0)) (h2 : gr x b 2 = some t) (h3 : kk K t = some (4, 0)) (k : Q (b2i (0 ≤ l1 ∧ l1 < gi x t 0)) x) : mSI mX7_isWeek [.ref b, .int l1] K x Q := v_X7_isWeek_0 h1 h2 h3 ⟨fun h => (b2i_k k).2 (fun z => Int32.not_le.mpr h z.1), fun h => ⟨fun h' => (b2i_k k).2 (fun z => Int32.not_lt.mpr h' z.2), fun h' => (b2i_k k).1 ⟨Int32.not_lt.mp h, Int32.not_le.mp h'⟩⟩⟩
end SP2
end
/-! 20.bits.lean.txt -/
section
/-! bits of ints -/
def tb (v : Int32) (i : Nat) : Bool := v.toBitVec.getLsbD i
theorem tb_ext {a b : Int32} (h : ∀ i, i < 32 → tb a i = tb b i) : a = b := Int32.toBitVec.inj (BitVec.eq_of_getLsbD_eq (fun i hi => h i hi))
theorem tb_and (a b : Int32) (i : Nat) : tb (a &&& b) i = (tb a i && tb b i) := by simp [tb]
theorem tb_or (a b : Int32) (i : Nat) : tb (a ||| b) i = (tb a i || tb b i) := by simp [tb]
theorem tb_xor (a b : Int32) (i : Nat) : tb (a ^^^ b) i = (tb a i ^^ tb b i) := by simp [tb]
theorem tb_m1 {i : Nat} (h : i < 32) : tb (-1) i = true := by
  have : ∀ i, i < 32 → tb (-1) i = true := by decide +kernel
  exact this i h
theorem tb_not (a : Int32) {i : Nat} (h : i < 32) : tb (a ^^^ (-1)) i = !tb a i := by rw [tb_xor, tb_m1 h]; simp
theorem tb_0 (i : Nat) : tb 0 i = false := by simp [tb]
theorem tb_ge (v : Int32) {i : Nat} (h : 32 ≤ i) : tb v i = false := BitVec.getLsbD_of_ge _ _ h
theorem tn_nI (v : Int32) : nI v.toBitVec.toNat = v := Int32.toBitVec.inj (by
  apply BitVec.eq_of_toNat_eq
  exact Nat.mod_eq_of_lt v.toBitVec.isLt)
theorem tn_lt (v : Int32) : v.toBitVec.toNat < 2 ^ 32 := v.toBitVec.isLt
theorem tb_tn (v : Int32) (i : Nat) : tb v i = v.toBitVec.toNat.testBit i := rfl
theorem tb_nI {n : Nat} (h : n < 2 ^ 32) (i : Nat) : tb (nI n) i = n.testBit i := by rw [tb_tn, pk_tn h]
theorem tn_inj {a b : Int32} (h : a.toBitVec.toNat = b.toBitVec.toNat) : a = b := Int32.toBitVec.inj (BitVec.eq_of_toNat_eq h)
theorem and_one (v : Int32) : v &&& 1 = nI (v.toBitVec.toNat % 2) := pk_and v 1 (by decide)
theorem sh_amt : ∀ i, i < 32 → (((nI i).toUInt32 &&& Int32.toUInt32 31).toBitVec % 32).toNat = i := by decide +kernel
theorem sh_amt2 : ∀ i, i < 32 → ((nI i &&& 31).toBitVec.smod 32).toNat = i := by decide +kernel
theorem f_bit_tb (v : Int32) {i : Nat} (h : i < 32) : f_bit v (nI i) ↔ tb v i = true := by
  have h1 := pk_ushr v (nI i) i (sh_amt i h)
  show ¬ _ = 0 ↔ _
  rw [and_one, h1, tb_tn, Nat.testBit_eq_decide_div_mod_eq, decide_eq_true_iff]
  have h2 : v.toBitVec.toNat / 2 ^ i % 2 < 2 := Nat.mod_lt _ (by decide)
  rcases Nat.lt_or_ge 0 (v.toBitVec.toNat / 2 ^ i % 2) with q | q
  · have e : v.toBitVec.toNat / 2 ^ i % 2 = 1 := by omega
    rw [e]
    exact ⟨fun _ => rfl, fun _ => by decide⟩
  · have e : v.toBitVec.toNat / 2 ^ i % 2 = 0 := by omega
    rw [e]
    exact ⟨fun z => absurd (by decide) z, fun z => by omega⟩
theorem f_has_tb (v : Int32) {i : Nat} (h : i < 32) : f_has v (nI i) ↔ tb v i = true := by
  show _ = 1 ↔ _
  rw [and_one]
  have e : (v >>> (nI i &&& 31)).toBitVec.toNat % 2 = if tb v i then 1 else 0 := by
    have h1 : tb (v >>> (nI i &&& 31)) 0 = tb v i := by
      unfold tb
      rw [Int32.toBitVec_shiftRight]
      show BitVec.getLsbD (v.toBitVec.sshiftRight (((nI i &&& 31).toBitVec.smod 32).toNat)) 0 = _
      rw [sh_amt2 i h, BitVec.getLsbD_sshiftRight]
      simp [h]
    rw [tb_tn, Nat.testBit_eq_decide_div_mod_eq] at h1
    simp only [Nat.pow_zero, Nat.div_one] at h1
    by_cases q : tb v i = true
    · rw [if_pos q]
      rw [q] at h1
      exact of_decide_eq_true h1
    · rw [if_neg q]
      have q' : tb v i = false := by simpa using q
      rw [q'] at h1
      have := of_decide_eq_false h1
      omega
  rw [e]
  by_cases q : tb v i = true
  · rw [if_pos q]
    exact ⟨fun _ => q, fun _ => by decide⟩
  · rw [if_neg q]
    exact ⟨fun z => absurd z (by decide), fun z => absurd z q⟩
theorem tb_one : ∀ s, s < 32 → ∀ i, i < 32 → tb ((1 : Int32) <<< (nI s &&& 31)) i = decide (i = s) := by decide +kernel
theorem msk_tb {a b i : Nat} : (2 ^ a * (2 ^ (b + 1 - a) - 1)).testBit i = decide (a ≤ i ∧ i ≤ b) := by
  rw [Nat.testBit_two_pow_mul, Nat.testBit_two_pow_sub_one, ← Bool.decide_and, decide_eq_decide]
  omega
theorem msk_lt : ∀ a, a < 31 → ∀ b, b < 30 → 2 ^ a * (2 ^ (b + 1 - a) - 1) < 2 ^ 32 := by decide +kernel
theorem sb_val : ∀ a, a < 30 → ∀ b, b < 30 → a ≤ b → f_sb (nI a) (nI b) = nI (2 ^ a * (2 ^ (b + 1 - a) - 1)) := by decide +kernel
theorem span_val : ∀ a, a < 31 → ∀ b, b < 30 → f_span (nI a) (nI b) = nI (2 ^ a * (2 ^ (b + 1 - a) - 1)) := by decide +kernel
theorem tb_sb0 : ∀ a, a < 30 → ∀ b, b < 30 → a ≤ b → ∀ i, i < 32 → tb (f_sb (nI a) (nI b)) i = decide (a ≤ i ∧ i ≤ b) := fun a ha b hb h i _ => by rw [sb_val a ha b hb h, tb_nI (msk_lt a (Nat.lt_succ_of_lt ha) b hb), msk_tb]
theorem tb_span0 : ∀ a, a < 31 → ∀ b, b < 30 → ∀ i, i < 32 → tb (f_span (nI a) (nI b)) i = decide (a ≤ i ∧ i ≤ b) := fun a ha b hb i _ => by rw [span_val a ha b hb, tb_nI (msk_lt a ha b hb), msk_tb]
theorem tb_bf0 : ∀ a, a < 31 → ∀ i, i < 32 → tb (f_bf (nI a)) i = decide (a ≤ i) := by decide +kernel
/-! counts of bits -/
def npc : Nat → Nat → Nat
  | 0, _ => 0
  | k + 1, n => n % 2 + npc k (n / 2)
def cpt (v : Int32) : Nat := npc 32 v.toBitVec.toNat
theorem npc_le : ∀ k n, npc k n ≤ k := by
  intro k
  induction k with
  | zero => intro n; exact Nat.le_refl 0
  | succ k ih =>
    intro n
    have := ih (n / 2)
    have := Nat.mod_lt n (y := 2) (by decide)
    simp only [npc]
    omega
theorem npc_split : ∀ j k n, npc (j + k) n = npc j (n % 2 ^ j) + npc k (n / 2 ^ j) := by
  intro j
  induction j with
  | zero => intro k n; simp [npc]
  | succ j ih =>
    intro k n
    rw [show j + 1 + k = (j + k) + 1 by omega]
    simp only [npc]
    rw [ih]
    have e1 : n % 2 ^ (j + 1) % 2 = n % 2 := Nat.mod_mod_of_dvd n ⟨2 ^ j, by rw [Nat.pow_succ, Nat.mul_comm]⟩
    have e2 : n % 2 ^ (j + 1) / 2 = n / 2 % 2 ^ j := by
      rw [Nat.pow_succ, Nat.mul_comm, Nat.mod_mul_right_div_self]
    have e3 : n / 2 ^ (j + 1) = n / 2 / 2 ^ j := by rw [Nat.pow_succ, Nat.mul_comm, Nat.div_div_eq_div_mul]
    rw [e1, e2, e3]
    omega
theorem land_split (i : Nat) {a b c d : Nat} (hb : b < 2 ^ i) (hd : d < 2 ^ i) : (2 ^ i * a + b) &&& (2 ^ i * c + d) = 2 ^ i * (a &&& c) + (b &&& d) := by
  have hbd : (b &&& d) < 2 ^ i := Nat.lt_of_le_of_lt Nat.and_le_left hb
  apply Nat.eq_of_testBit_eq
  intro j
  rw [Nat.testBit_and, Nat.testBit_two_pow_mul_add a hb, Nat.testBit_two_pow_mul_add c hd, Nat.testBit_two_pow_mul_add _ hbd]
  by_cases h : j < i
  · simp [h]
  · simp [h]
theorem nI_and {a b : Nat} (ha : a < 2 ^ 32) (hb : b < 2 ^ 32) : nI a &&& nI b = nI (a &&& b) := by
  apply tb_ext
  intro i _
  rw [tb_and, tb_nI ha, tb_nI hb, tb_nI (Nat.lt_of_le_of_lt Nat.and_le_left ha), Nat.testBit_and]
theorem npc_clear : ∀ k n, 0 < n → n < 2 ^ k → npc k (n &&& (n - 1)) + 1 = npc k n := by
  intro k
  induction k with
  | zero => intro n h1 h2; simp at h2; omega
  | succ k ih =>
    intro n h1 h2
    rcases Nat.mod_two_eq_zero_or_one n with e | e
    · have hm : 0 < n / 2 := by omega
      have e1 : n &&& (n - 1) = 2 * (n / 2 &&& (n / 2 - 1)) := by
        have := land_split 1 (a := n / 2) (b := 0) (c := n / 2 - 1) (d := 1) (by decide) (by decide)
        rw [show (2 : Nat) ^ 1 * (n / 2) + 0 = n by omega, show (2 : Nat) ^ 1 * (n / 2 - 1) + 1 = n - 1 by omega] at this
        rw [this]
        simp
      simp only [npc]
      rw [e1, Nat.mul_mod_right, Nat.mul_div_cancel_left _ (by decide), e]
      have := ih (n / 2) hm (by rw [Nat.pow_succ] at h2; omega)
      omega
    · have e1 : n &&& (n - 1) = 2 * (n / 2) := by
        have := land_split 1 (a := n / 2) (b := 1) (c := n / 2) (d := 0) (by decide) (by decide)
        rw [show (2 : Nat) ^ 1 * (n / 2) + 1 = n by omega, show (2 : Nat) ^ 1 * (n / 2) + 0 = n - 1 by omega] at this
        rw [this]
        simp
      simp only [npc]
      rw [e1, Nat.mul_mod_right, Nat.mul_div_cancel_left _ (by decide), e]
      omega
theorem cpt_clear (v : Int32) (h : ¬ v = 0) : cpt (v &&& (v - 1)) + 1 = cpt v := by
  have h0 : 0 < v.toBitVec.toNat := by
    rcases Nat.eq_zero_or_pos v.toBitVec.toNat with q | q
    · exact absurd (tn_inj (b := 0) (by rw [q]; rfl)) h
    · exact q
  have e : v &&& (v - 1) = nI (v.toBitVec.toNat &&& (v.toBitVec.toNat - 1)) := by
    have e1 : v - 1 = nI (v.toBitVec.toNat - 1) := by
      have := nI_pred (v.toBitVec.toNat - 1)
      rw [show v.toBitVec.toNat - 1 + 1 = v.toBitVec.toNat by omega, tn_nI] at this
      exact this
    have hl := tn_lt v
    rw [← nI_and hl (by omega), ← e1, tn_nI]
  unfold cpt
  rw [e, pk_tn (Nat.lt_of_le_of_lt Nat.and_le_left (tn_lt v))]
  exact npc_clear 32 _ h0 (tn_lt v)
theorem cpt_0 : cpt 0 = 0 := by decide +kernel
theorem npc_0 : ∀ k, npc k 0 = 0 := by
  intro k
  induction k with
  | zero => rfl
  | succ k ih => simp only [npc]; rw [Nat.zero_div, ih]
theorem npc_pos : ∀ k n, 0 < n → n < 2 ^ k → 0 < npc k n := by
  intro k
  induction k with
  | zero => intro n h1 h2; simp at h2; omega
  | succ k ih =>
    intro n h1 h2
    simp only [npc]
    rcases Nat.mod_two_eq_zero_or_one n with e | e
    · have := ih (n / 2) (by omega) (by rw [Nat.pow_succ] at h2; omega)
      omega
    · omega
theorem cpt_le (v : Int32) : cpt v ≤ 32 := npc_le 32 _
end
/-! 21.counts.lean.txt -/
section
/-! the two counts of bits are one -/
def st1 (n : Nat) : Nat := n - (n / 2 &&& 21845)
def st2 (n : Nat) : Nat := (n &&& 13107) + (n / 4 &&& 13107)
def st3 (n : Nat) : Nat := (n + n / 16) &&& 3855
def stA (n : Nat) : Nat := st3 (st2 (st1 n))
def by1 (n : Nat) : Nat := n - (n / 2 &&& 85)
def by2 (n : Nat) : Nat := (n &&& 51) + (n / 4 &&& 51)
def by3 (n : Nat) : Nat := (n + n / 16) &&& 15
theorem by_ok : ∀ b, b < 256 → (b / 2 &&& 85) ≤ b ∧ by1 b ≤ 170 ∧ by2 (by1 b) ≤ 68 ∧ by2 (by1 b) % 16 ≤ 4 ∧ by2 (by1 b) / 16 ≤ 4 ∧ by3 (by2 (by1 b)) = npc 8 b := by decide +kernel
theorem hi_and {b l : Nat} (hl : l < 32768) (m : Nat) (hm : m < 32768) : (32768 * b + l) &&& m = l &&& m := by
  have := land_split 15 (a := b) (b := l) (c := 0) (d := m) (by omega) (by omega)
  rw [show (2 : Nat) ^ 15 = 32768 by decide] at this
  simpa using this
theorem hi_and4 {b l : Nat} (hl : l < 16384) (m : Nat) (hm : m < 16384) : (16384 * b + l) &&& m = l &&& m := by
  have := land_split 14 (a := b) (b := l) (c := 0) (d := m) (by omega) (by omega)
  rw [show (2 : Nat) ^ 14 = 16384 by decide] at this
  simpa using this
theorem hi_and12 {b l : Nat} (hl : l < 4096) (m : Nat) (hm : m < 4096) : (4096 * b + l) &&& m = l &&& m := by
  have := land_split 12 (a := b) (b := l) (c := 0) (d := m) (by omega) (by omega)
  rw [show (2 : Nat) ^ 12 = 4096 by decide] at this
  simpa using this
theorem hi_and7 {b l : Nat} (hl : l < 128) (m : Nat) (hm : m < 128) : (128 * b + l) &&& m = l &&& m := by
  have := land_split 7 (a := b) (b := l) (c := 0) (d := m) (by omega) (by omega)
  rw [show (2 : Nat) ^ 7 = 128 by decide] at this
  simpa using this
theorem hi_and6 {b l : Nat} (hl : l < 64) (m : Nat) (hm : m < 64) : (64 * b + l) &&& m = l &&& m := by
  have := land_split 6 (a := b) (b := l) (c := 0) (d := m) (by omega) (by omega)
  rw [show (2 : Nat) ^ 6 = 64 by decide] at this
  simpa using this
theorem and15 (n : Nat) : n &&& 15 = n % 16 := Nat.and_two_pow_sub_one_eq_mod n 4
theorem one_and {H L P Q : Nat} (hL : L < 256) (hQ : Q < 256) : (256 * H + L) &&& (256 * P + Q) = 256 * (H &&& P) + (L &&& Q) := by
  have := land_split 8 (a := H) (b := L) (c := P) (d := Q) (by omega) (by omega)
  rwa [show (2 : Nat) ^ 8 = 256 by decide] at this
theorem s16 {a b : Nat} (ha : a < 256) (hb : b < 256) : ((256 * a + b) / 2 &&& 21845) ≤ 256 * a + b ∧ st1 (256 * a + b) = 256 * by1 a + by1 b ∧ st2 (256 * by1 a + by1 b) = 256 * by2 (by1 a) + by2 (by1 b) ∧ st3 (256 * by2 (by1 a) + by2 (by1 b)) = 256 * npc 8 a + npc 8 b := by
  obtain ⟨a1, a2, a3, a4, a5, a6⟩ := by_ok a ha
  obtain ⟨b1, b2, b3, b4, b5, b6⟩ := by_ok b hb
  have e1 : (256 * a + b) / 2 &&& 21845 = 256 * (a / 2 &&& 85) + (b / 2 &&& 85) := by
    have e : (256 * a + b) / 2 = 256 * (a / 2) + (128 * (a % 2) + b / 2) := by omega
    rw [e, show (21845 : Nat) = 256 * 85 + 85 by decide, one_and (by omega) (by decide), hi_and7 (by omega) _ (by decide)]
  refine ⟨by rw [e1]; omega, ?_, ?_, ?_⟩
  · unfold st1
    rw [e1]
    unfold by1
    omega
  · have h1 : by1 a < 256 := by omega
    have h2 : by1 b < 256 := by omega
    have e : (256 * by1 a + by1 b) / 4 = 256 * (by1 a / 4) + (64 * (by1 a % 4) + by1 b / 4) := by omega
    unfold st2
    rw [e, show (13107 : Nat) = 256 * 51 + 51 by decide, one_and h2 (by decide), one_and (by omega) (by decide), hi_and6 (by omega) _ (by decide)]
    unfold by2
    omega
  · have e : (256 * by2 (by1 a) + by2 (by1 b)) + (256 * by2 (by1 a) + by2 (by1 b)) / 16 = 256 * (by2 (by1 a) + by2 (by1 a) / 16) + (16 * (by2 (by1 a) % 16) + (by2 (by1 b) + by2 (by1 b) / 16)) := by omega
    unfold st3
    rw [e, show (3855 : Nat) = 256 * 15 + 15 by decide, one_and (by omega) (by decide)]
    have e2 : (16 * (by2 (by1 a) % 16) + (by2 (by1 b) + by2 (by1 b) / 16)) &&& 15 = (by2 (by1 b) + by2 (by1 b) / 16) &&& 15 := by
      rw [and15, and15]
      omega
    rw [e2, ← a6, ← b6]
    rfl
theorem stA_ok {n : Nat} (h : n < 65536) : (n / 2 &&& 21845) ≤ n ∧ st1 n ≤ 43690 ∧ st2 (st1 n) ≤ 17476 ∧ st2 (st1 n) % 16 ≤ 4 ∧ ∃ p q, stA n = 256 * p + q ∧ p ≤ 8 ∧ q ≤ 8 ∧ npc 16 n = p + q := by
  obtain ⟨h1, h2, h3, h4⟩ := s16 (a := n / 256) (b := n % 256) (by omega) (by omega)
  obtain ⟨a1, a2, a3, a4, a5, a6⟩ := by_ok (n / 256) (by omega)
  obtain ⟨b1, b2, b3, b4, b5, b6⟩ := by_ok (n % 256) (by omega)
  rw [show 256 * (n / 256) + n % 256 = n by omega] at h1 h2
  refine ⟨h1, by rw [h2]; omega, by rw [h2, h3]; omega, by rw [h2, h3]; omega, npc 8 (n / 256), npc 8 (n % 256), ?_, npc_le _ _, npc_le _ _, ?_⟩
  · unfold stA
    rw [h2, h3, h4]
  · have := npc_split 8 8 n
    rw [show (2 : Nat) ^ 8 = 256 by decide] at this
    rw [show (16 : Nat) = 8 + 8 by decide, this]
    omega
theorem two_and {H L P Q : Nat} (hL : L < 65536) (hQ : Q < 65536) : (65536 * H + L) &&& (65536 * P + Q) = 65536 * (H &&& P) + (L &&& Q) := by
  have := land_split 16 (a := H) (b := L) (c := P) (d := Q) (by omega) (by omega)
  rwa [show (2 : Nat) ^ 16 = 65536 by decide] at this
theorem w_1 {H L : Nat} (hH : H < 65536) (hL : L < 65536) : (65536 * H + L) / 2 &&& 1431655765 = 65536 * (H / 2 &&& 21845) + (L / 2 &&& 21845) := by
  have e : (65536 * H + L) / 2 = 65536 * (H / 2) + (32768 * (H % 2) + L / 2) := by omega
  rw [e, show (1431655765 : Nat) = 65536 * 21845 + 21845 by decide, two_and (by omega) (by decide), hi_and (by omega) _ (by decide)]
theorem w_2 {H L : Nat} (hH : H < 65536) (hL : L < 65536) : ((65536 * H + L) &&& 858993459) + ((65536 * H + L) / 4 &&& 858993459) = 65536 * st2 H + st2 L := by
  have e : (65536 * H + L) / 4 = 65536 * (H / 4) + (16384 * (H % 4) + L / 4) := by omega
  rw [e, show (858993459 : Nat) = 65536 * 13107 + 13107 by decide, two_and hL (by decide), two_and (by omega) (by decide), hi_and4 (by omega) _ (by decide)]
  unfold st2
  omega
theorem w_3 {H L : Nat} (hH : H ≤ 17476) (hL : L ≤ 17476) (h4 : H % 16 ≤ 4) : ((65536 * H + L) + (65536 * H + L) / 16) &&& 252645135 = 65536 * st3 H + st3 L := by
  have e : (65536 * H + L) + (65536 * H + L) / 16 = 65536 * (H + H / 16) + (4096 * (H % 16) + (L + L / 16)) := by omega
  have e2 : (4096 * (H % 16) + (L + L / 16)) < 65536 := by omega
  rw [e, show (252645135 : Nat) = 65536 * 3855 + 3855 by decide, two_and e2 (by decide)]
  have e3 : 4096 * (H % 16) + (L + L / 16) = 4096 * (H % 16 + (L + L / 16) / 4096) + (L + L / 16) % 4096 := by omega
  have e4 : (4096 * (H % 16) + (L + L / 16)) &&& 3855 = (L + L / 16) &&& 3855 := by
    rw [e3, hi_and12 (by omega) _ (by decide)]
    have e5 : L + L / 16 = 4096 * ((L + L / 16) / 4096) + (L + L / 16) % 4096 := by omega
    have e6 : (L + L / 16) &&& 3855 = (L + L / 16) % 4096 &&& 3855 := by
      have := hi_and12 (b := (L + L / 16) / 4096) (l := (L + L / 16) % 4096) (by omega) 3855 (by decide)
      rwa [← e5] at this
    rw [e6]
  rw [e4]
  rfl
theorem f_sh_n {n k : Nat} (hn : n < 2 ^ 32) (hk : k < 32) : f_sh (nI n) (nI k) = nI (n / 2 ^ k) := by
  apply tn_inj
  unfold f_sh
  rw [pk_ushr (nI n) (nI k) k (sh_amt k hk), pk_tn hn, pk_tn (Nat.lt_of_le_of_lt (Nat.div_le_self _ _) hn)]
theorem bc1 {H L : Nat} (hH : H < 65536) (hL : L < 65536) (h1 : (H / 2 &&& 21845) ≤ H) (l1 : (L / 2 &&& 21845) ≤ L) : f_b1 (nI (65536 * H + L)) = nI (65536 * st1 H + st1 L) := by
  have hN : 65536 * H + L < 2 ^ 32 := by omega
  have hD : (65536 * H + L) / 2 < 2 ^ 32 := Nat.lt_of_le_of_lt (Nat.div_le_self _ _) hN
  unfold f_b1
  rw [show (1 : Int32) = nI 1 by decide, f_sh_n hN (by decide), show (1431655765 : Int32) = nI 1431655765 by decide, show (2 : Nat) ^ 1 = 2 by decide, nI_and hD (by decide), w_1 hH hL]
  unfold st1
  rw [pk_sub (by omega)]
  congr 1
  omega
theorem bc2 {H L : Nat} (hH : H ≤ 43690) (hL : L ≤ 43690) : f_b2 (nI (65536 * H + L)) = nI (65536 * st2 H + st2 L) := by
  have hN : 65536 * H + L < 2 ^ 32 := by omega
  have hD : (65536 * H + L) / 4 < 2 ^ 32 := Nat.lt_of_le_of_lt (Nat.div_le_self _ _) hN
  unfold f_b2
  rw [show (2 : Int32) = nI 2 by decide, f_sh_n hN (by decide), show (858993459 : Int32) = nI 858993459 by decide, show (2 : Nat) ^ 2 = 4 by decide, nI_and hN (by decide), nI_and hD (by decide), nI_add, w_2 (by omega) (by omega)]
theorem bc3 {H L : Nat} (hH : H ≤ 17476) (hL : L ≤ 17476) (h4 : H % 16 ≤ 4) : f_b3 (nI (65536 * H + L)) = nI (65536 * st3 H + st3 L) := by
  have hN : 65536 * H + L < 2 ^ 32 := by omega
  have hD : 65536 * H + L + (65536 * H + L) / 16 < 2 ^ 32 := by omega
  unfold f_b3
  rw [show (4 : Int32) = nI 4 by decide, f_sh_n hN (by decide), show (252645135 : Int32) = nI 252645135 by decide, nI_add, show (2 : Nat) ^ 4 = 16 by decide, nI_and hD (by decide), w_3 hH hL h4]
theorem bc4 {A : Nat} (h : A < 2 ^ 32) : f_b4 (nI A) = nI (A + A / 256) := by
  unfold f_b4
  rw [show (8 : Int32) = nI 8 by decide, f_sh_n h (by decide), nI_add]
theorem bc5 {A : Nat} (h : A < 2 ^ 32) : f_b5 (nI A) = nI (A + A / 65536) := by
  unfold f_b5
  rw [show (16 : Int32) = nI 16 by decide, f_sh_n h (by decide), nI_add]
theorem bc_fin {p q u w A : Nat} (hA : A = 65536 * (256 * p + q) + (256 * u + w)) (hp : p ≤ 8) (hq : q ≤ 8) (hu : u ≤ 8) (hw : w ≤ 8) : A < 2 ^ 32 ∧ A + A / 256 < 2 ^ 32 ∧ A + A / 256 + (A + A / 256) / 65536 < 2 ^ 32 ∧ (A + A / 256 + (A + A / 256) / 65536) % 64 = u + w + (p + q) := by
  have x1 : A / 256 = 65536 * p + 256 * q + u := by omega
  rw [x1]
  have x2 : (A + (65536 * p + 256 * q + u)) / 65536 = 256 * p + q + p := by omega
  rw [x2]
  clear x1 x2
  refine ⟨?_, ?_, ?_, ?_⟩ <;> omega
theorem hl_mod {H L : Nat} (hL : L < 65536) : (65536 * H + L) % 65536 = L := by omega
theorem hl_div {H L : Nat} (hL : L < 65536) : (65536 * H + L) / 65536 = H := by omega
theorem f_bc_cpt (v : Int32) : f_bc v = nI (cpt v) := by
  obtain ⟨N, hN, rfl⟩ : ∃ N, N < 2 ^ 32 ∧ v = nI N := ⟨_, tn_lt v, (tn_nI v).symm⟩
  obtain ⟨H, L, hH, hL, rfl⟩ : ∃ H L, H < 65536 ∧ L < 65536 ∧ N = 65536 * H + L := ⟨N / 65536, N % 65536, by omega, by omega, by omega⟩
  obtain ⟨h1, h2, h3, h4, p, q, h5, h6, h7, h8⟩ := stA_ok hH
  obtain ⟨l1, l2, l3, l4, u, w, l5, l6, l7, l8⟩ := stA_ok hL
  obtain ⟨f1, f2, f3, f4⟩ := bc_fin (A := 65536 * stA H + stA L) (by rw [h5, l5]) h6 h7 l6 l7
  have c3 : f_b3 (nI (65536 * st2 (st1 H) + st2 (st1 L))) = nI (65536 * stA H + stA L) := bc3 h3 l3 h4
  unfold f_bc
  rw [bc1 hH hL h1 l1, bc2 h2 l2, c3, bc4 f1, bc5 f2, show (63 : Int32) = nI 63 by decide, pk_andN f3 6 (by decide)]
  unfold cpt
  rw [pk_tn hN, show (32 : Nat) = 16 + 16 by decide, npc_split, show (2 : Nat) ^ 16 = 65536 by decide, hl_mod hL, hl_div hL, h8, l8, show (2 : Nat) ^ 6 = 64 by decide, f4]
section SP3
variable {K : Sh} {x : Cn} {Q : Int32 → Cn → Prop}
theorem lp_X8_bits {l0 : Int32} : ∀ (n : Nat) (l1 l2 : Int32), cpt l2 = n → Q (l1 + nI n) x → GI mX8_bits 4 [some (.int l0), some (.int l1), some (.int l2)] [] K x Q := by
  intro n
  induction n with
  | zero =>
    intro l1 l2 h k
    refine v_X8_bits_4 ⟨fun q => ?_, fun q => ?_⟩
    · rw [nI_0, Int32.add_zero] at k
      exact k
    · have := cpt_clear l2 q
      omega
  | succ n ih =>
    intro l1 l2 h k
    refine v_X8_bits_4 ⟨fun q => ?_, fun q => ?_⟩
    · rw [q, cpt_0] at h
      omega
    · have := cpt_clear l2 q
      refine ih _ _ (by omega) ?_
      rw [show l1 + 1 + nI n = l1 + nI (n + 1) by rw [nI_succ, Int32.add_assoc, Int32.add_comm 1]]
      exact k
theorem sp_X8_bits {a : Int32} (k : Q (nI (cpt a)) x) : mSI mX8_bits [.int a] K x Q := v_X8_bits_0 (lp_X8_bits (cpt a) _ _ rfl (by rw [Int32.zero_add]; exact k))
end SP3
end
/-! 21.z3.lean.txt -/
section
abbrev f_kw (b g : Int32) : Prop := 0 < b ∧ 4 * b ≤ 5 * g
abbrev f_safe (x : Cn) (b : Nat) : Prop := f_kw (nI (cpt (f_held x b))) (nI (cpt (gi x b 8 ||| gi x b 10)))
abbrev f_lost (x : Cn) (b : Nat) : Prop := ¬ f_kw (nI (cpt (f_held x b))) (nI (cpt (gi x b 8 ||| gi x b 10)) + nI (cpt (f_open x b)))
def f_wtc (a b : Int32) : Int32 := if b ≤ a then 0 else f_sb a (b - 1)
section SP3
variable {K : Sh} {x : Cn} {Q : Int32 → Cn → Prop} {b t n : Nat}
theorem sp_bc {a : Int32} (k : Q (nI (cpt a)) x) : mSI mJ6_bitCount_0f7a4 [.int a] K x Q := sp_J6_bitCount_0f7a4 (by rw [f_bc_cpt]; exact k)
end SP3
end
/-! 22.small2.lean.txt -/
section
set_option maxHeartbeats 2000000 in
theorem v_X8_isDay_0 {K : Sh} {x : Cn} {Q : Int32 → Cn → Prop} {b0 : Nat} {l1 : Int32} {b0_1 : Nat} {n_b0_1 : Nat} (k_b0 : kk K b0 = some (8, 0)) (g_b0_1 : gr x b0 1 = some b0_1) (k_b0_1 : kk K b0_1 = some (20, n_b0_1)) (K0 : vp_in 0 n_b0_1 ∧ ((¬ (0 < gi x b0_1 0) → (Q 0 x)) ∧ ((0 < gi x b0_1 0) → ((¬ (0 ≤ l1 ∧ l1 ≤ 6) → (Q 0 x)) ∧ ((0 ≤ l1 ∧ l1 ≤ 6) → (Q 1 x)))))) : mSI mX8_isDay [.ref b0, .int l1] K x Q := by
  refine s_I (by decide) (by simp [Value.category]) (Nat.le_of_ble_eq_true rfl) ?_
  show mGM mX8_isDay 0 [some (.ref b0), some (.int l1)] [] (hp K x) (PI K Q)
  refine r_aload_n (pc := 0) dX8_isDay_0 rfl ?_
  obtain ⟨i_1, K0⟩ := K0
  refine s_VI (pc := 1) mX8_isThere (ci := 8) (a := b0) (As := []) dX8_isDay_1 lk_X8_49 in_X8_isThere mo_X8_isThere ⟨by decide, rfl⟩ ⟨by decide, by decide⟩ (Nat.le_of_ble_eq_true rfl) k_b0 (sp_X8_isThere k_b0 g_b0_1 k_b0_1 i_1 ?_)
  refine r_if_eq (pc := 4) (tgt := 23) dX8_isDay_4 (by decide) (fun q => ?_) (fun q => ?_)
  · have q := (b2i_z _).mp q
    have K0 := K0.1 q
    refine r_iconst (pc := 23) (v := 0) dX8_isDay_23 (by decide) ?_
    exact s_zret rfl (by decide) dX8_isDay_24 K0
  · have q := b2i_nz q
    have K0 := K0.2 q
    refine r_iload_n (pc := 7) dX8_isDay_7 rfl ?_
    refine r_i2l (pc := 8) dX8_isDay_8 ?_
    refine r_lconst (pc := 9) (v := 0) dX8_isDay_9 (by decide) ?_
    refine r_ldc2 (pc := 10) (v := 6) dX8_isDay_10 cn_X8_53 ?_
    refine s_SI (pc := 13) mX8_in (As := [.long ((l1 : Int32).toInt64), .long 0, .long 6]) dX8_isDay_13 lk_X8_45 st_X8_in mo_X8_in ⟨by decide, by decide⟩ (Nat.le_of_ble_eq_true rfl) (sq_X8_in (v := l1) (lo := 0) (hi := 6) rfl (by decide) (by decide) ?_)
    refine r_if_eq (pc := 16) (tgt := 23) dX8_isDay_16 (by decide) (fun q => ?_) (fun q => ?_)
    · have q := (b2i_z _).mp q
      have K0 := K0.1 q
      refine r_iconst (pc := 23) (v := 0) dX8_isDay_23 (by decide) ?_
      exact s_zret rfl (by decide) dX8_isDay_24 K0
    · have q := b2i_nz q
      have K0 := K0.2 q
      refine r_iconst (pc := 19) (v := 1) dX8_isDay_19 (by decide) ?_
      refine r_goto (pc := 20) (tgt := 24) dX8_isDay_20 (by decide) ?_
      exact s_zret rfl (by decide) dX8_isDay_24 K0
section
variable {K : Sh} {x : Cn} {Q : Int32 → Cn → Prop} {b t n : Nat}
theorem sp_X8_isDay {l1 : Int32} (h1 : kk K b = some (8, 0)) (h2 : gr x b 1 = some t) (h3 : kk K t = some (20, n)) (h4 : vp_in 0 n) (k : Q (b2i (0 < gi x t 0 ∧ 0 ≤ l1 ∧ l1 ≤ 6)) x) : mSI mX8_isDay [.ref b, .int l1] K x Q :=
  v_X8_isDay_0 h1 h2 h3 ⟨h4, fun h => (b2i_k k).2 (fun z => h z.1), fun h => ⟨fun g => (b2i_k k).2 (fun z => g z.2), fun g => (b2i_k k).1 ⟨h, g⟩⟩⟩
end
set_option maxHeartbeats 2000000 in
theorem v_X8_isHour_0 {K : Sh} {x : Cn} {Q : Int32 → Cn → Prop} {b0 : Nat} {l1 : Int32} {b0_1 : Nat} {n_b0_1 : Nat} (k_b0 : kk K b0 = some (8, 0)) (g_b0_1 : gr x b0 1 = some b0_1) (k_b0_1 : kk K b0_1 = some (20, n_b0_1)) (K0 : vp_in 0 n_b0_1 ∧ ((¬ (0 < gi x b0_1 0) → (Q 0 x)) ∧ ((0 < gi x b0_1 0) → ((¬ (0 ≤ l1 ∧ l1 ≤ 23) → (Q 0 x)) ∧ ((0 ≤ l1 ∧ l1 ≤ 23) → (Q 1 x)))))) : mSI mX8_isHour [.ref b0, .int l1] K x Q := by
  refine s_I (by decide) (by simp [Value.category]) (Nat.le_of_ble_eq_true rfl) ?_
  show mGM mX8_isHour 0 [some (.ref b0), some (.int l1)] [] (hp K x) (PI K Q)
  refine r_aload_n (pc := 0) dX8_isHour_0 rfl ?_
  obtain ⟨i_1, K0⟩ := K0
  refine s_VI (pc := 1) mX8_isThere (ci := 8) (a := b0) (As := []) dX8_isHour_1 lk_X8_49 in_X8_isThere mo_X8_isThere ⟨by decide, rfl⟩ ⟨by decide, by decide⟩ (Nat.le_of_ble_eq_true rfl) k_b0 (sp_X8_isThere k_b0 g_b0_1 k_b0_1 i_1 ?_)
  refine r_if_eq (pc := 4) (tgt := 23) dX8_isHour_4 (by decide) (fun q => ?_) (fun q => ?_)
  · have q := (b2i_z _).mp q
    have K0 := K0.1 q
    refine r_iconst (pc := 23) (v := 0) dX8_isHour_23 (by decide) ?_
    exact s_zret rfl (by decide) dX8_isHour_24 K0
  · have q := b2i_nz q
    have K0 := K0.2 q
    refine r_iload_n (pc := 7) dX8_isHour_7 rfl ?_
    refine r_i2l (pc := 8) dX8_isHour_8 ?_
    refine r_lconst (pc := 9) (v := 0) dX8_isHour_9 (by decide) ?_
    refine r_ldc2 (pc := 10) (v := 23) dX8_isHour_10 cn_X8_55 ?_
    refine s_SI (pc := 13) mX8_in (As := [.long ((l1 : Int32).toInt64), .long 0, .long 23]) dX8_isHour_13 lk_X8_45 st_X8_in mo_X8_in ⟨by decide, by decide⟩ (Nat.le_of_ble_eq_true rfl) (sq_X8_in (v := l1) (lo := 0) (hi := 23) rfl (by decide) (by decide) ?_)
    refine r_if_eq (pc := 16) (tgt := 23) dX8_isHour_16 (by decide) (fun q => ?_) (fun q => ?_)
    · have q := (b2i_z _).mp q
      have K0 := K0.1 q
      refine r_iconst (pc := 23) (v := 0) dX8_isHour_23 (by decide) ?_
      exact s_zret rfl (by decide) dX8_isHour_24 K0
    · have q := b2i_nz q
      have K0 := K0.2 q
      refine r_iconst (pc := 19) (v := 1) dX8_isHour_19 (by decide) ?_
      refine r_goto (pc := 20) (tgt := 24) dX8_isHour_20 (by decide) ?_
      exact s_zret rfl (by decide) dX8_isHour_24 K0
section
variable {K : Sh} {x : Cn} {Q : Int32 → Cn → Prop} {b t n : Nat}
theorem sp_X8_isHour {l1 : Int32} (h1 : kk K b = some (8, 0)) (h2 : gr x b 1 = some t) (h3 : kk K t = some (20, n)) (h4 : vp_in 0 n) (k : Q (b2i (0 < gi x t 0 ∧ 0 ≤ l1 ∧ l1 ≤ 23)) x) : mSI mX8_isHour [.ref b, .int l1] K x Q :=
  v_X8_isHour_0 h1 h2 h3 ⟨h4, fun h => (b2i_k k).2 (fun z => h z.1), fun h => ⟨fun g => (b2i_k k).2 (fun z => g z.2), fun g => (b2i_k k).1 ⟨h, g⟩⟩⟩
end
set_option maxHeartbeats 2000000 in
theorem v_X8_isPlace_0 {K : Sh} {x : Cn} {Q : Int32 → Cn → Prop} {b0 : Nat} {l1 : Int32} {l2 : Int32} {l3 : Int32} {b0_1 : Nat} {n_b0_1 : Nat} (k_b0 : kk K b0 = some (8, 0)) (g_b0_1 : gr x b0 1 = some b0_1) (k_b0_1 : kk K b0_1 = some (20, n_b0_1)) (K0 : vp_in 0 n_b0_1 ∧ ((¬ (0 ≤ l1 ∧ l1 ≤ gi x b0_1 0 - 1) → (Q 0 x)) ∧ ((0 ≤ l1 ∧ l1 ≤ gi x b0_1 0 - 1) → ((¬ (0 < gi x b0_1 0 ∧ 0 ≤ l2 ∧ l2 ≤ 6) → (Q 0 x)) ∧ ((0 < gi x b0_1 0 ∧ 0 ≤ l2 ∧ l2 ≤ 6) → ((¬ (0 < gi x b0_1 0 ∧ 0 ≤ l3 ∧ l3 ≤ 23) → (Q 0 x)) ∧ ((0 < gi x b0_1 0 ∧ 0 ≤ l3 ∧ l3 ≤ 23) → (Q 1 x)))))))) : mSI mX8_isPlace [.ref b0, .int l1, .int l2, .int l3] K x Q := by
  refine s_I (by decide) (by simp [Value.category]) (Nat.le_of_ble_eq_true rfl) ?_
  show mGM mX8_isPlace 0 [some (.ref b0), some (.int l1), some (.int l2), some (.int l3)] [] (hp K x) (PI K Q)
  refine r_aload_n (pc := 0) dX8_isPlace_0 rfl ?_
  refine r_iload_n (pc := 1) dX8_isPlace_1 rfl ?_
  obtain ⟨i_1, K0⟩ := K0
  refine s_VI (pc := 2) mX8_isWeek (ci := 8) (a := b0) (As := [.int l1]) dX8_isPlace_2 lk_X8_57 in_X8_isWeek mo_X8_isWeek ⟨by decide, rfl⟩ ⟨by decide, by decide⟩ (Nat.le_of_ble_eq_true rfl) k_b0 (sp_X8_isWeek k_b0 g_b0_1 k_b0_1 i_1 ?_)
  refine r_if_eq (pc := 5) (tgt := 28) dX8_isPlace_5 (by decide) (fun q => ?_) (fun q => ?_)
  · have q := (b2i_z _).mp q
    have K0 := K0.1 q
    refine r_iconst (pc := 28) (v := 0) dX8_isPlace_28 (by decide) ?_
    exact s_zret rfl (by decide) dX8_isPlace_29 K0
  · have q := b2i_nz q
    have K0 := K0.2 q
    refine r_aload_n (pc := 8) dX8_isPlace_8 rfl ?_
    refine r_iload_n (pc := 9) dX8_isPlace_9 rfl ?_
    refine s_VI (pc := 10) mX8_isDay (ci := 8) (a := b0) (As := [.int l2]) dX8_isPlace_10 lk_X8_61 in_X8_isDay mo_X8_isDay ⟨by decide, rfl⟩ ⟨by decide, by decide⟩ (Nat.le_of_ble_eq_true rfl) k_b0 (sp_X8_isDay k_b0 g_b0_1 k_b0_1 i_1 ?_)
    refine r_if_eq (pc := 13) (tgt := 28) dX8_isPlace_13 (by decide) (fun q => ?_) (fun q => ?_)
    · have q := (b2i_z _).mp q
      have K0 := K0.1 q
      refine r_iconst (pc := 28) (v := 0) dX8_isPlace_28 (by decide) ?_
      exact s_zret rfl (by decide) dX8_isPlace_29 K0
    · have q := b2i_nz q
      have K0 := K0.2 q
      refine r_aload_n (pc := 16) dX8_isPlace_16 rfl ?_
      refine r_iload_n (pc := 17) dX8_isPlace_17 rfl ?_
      refine s_VI (pc := 18) mX8_isHour (ci := 8) (a := b0) (As := [.int l3]) dX8_isPlace_18 lk_X8_64 in_X8_isHour mo_X8_isHour ⟨by decide, rfl⟩ ⟨by decide, by decide⟩ (Nat.le_of_ble_eq_true rfl) k_b0 (sp_X8_isHour k_b0 g_b0_1 k_b0_1 i_1 ?_)
      refine r_if_eq (pc := 21) (tgt := 28) dX8_isPlace_21 (by decide) (fun q => ?_) (fun q => ?_)
      · have q := (b2i_z _).mp q
        have K0 := K0.1 q
        refine r_iconst (pc := 28) (v := 0) dX8_isPlace_28 (by decide) ?_
        exact s_zret rfl (by decide) dX8_isPlace_29 K0
      · have q := b2i_nz q
        have K0 := K0.2 q
        refine r_iconst (pc := 24) (v := 1) dX8_isPlace_24 (by decide) ?_
        refine r_goto (pc := 25) (tgt := 29) dX8_isPlace_25 (by decide) ?_
        exact s_zret rfl (by decide) dX8_isPlace_29 K0
section
variable {K : Sh} {x : Cn} {Q : Int32 → Cn → Prop} {b t n : Nat}
theorem sp_X8_isPlace {l1 l2 l3 : Int32} (h1 : kk K b = some (8, 0)) (h2 : gr x b 1 = some t) (h3 : kk K t = some (20, n)) (h4 : vp_in 0 n) (k : Q (b2i (0 ≤ l1 ∧ l1 ≤ gi x t 0 - 1 ∧ 0 < gi x t 0 ∧ 0 ≤ l2 ∧ l2 ≤ 6 ∧ 0 ≤ l3 ∧ l3 ≤ 23)) x) : mSI mX8_isPlace [.ref b, .int l1, .int l2, .int l3] K x Q :=
  v_X8_isPlace_0 h1 h2 h3 ⟨h4, fun h => (b2i_k k).2 (fun z => h ⟨z.1, z.2.1⟩), fun h => ⟨fun g => (b2i_k k).2 (fun z => g ⟨z.2.2.1, z.2.2.2.1, z.2.2.2.2.1⟩), fun g => ⟨fun f => (b2i_k k).2 (fun z => f ⟨z.2.2.1, z.2.2.2.2.2⟩), fun f => (b2i_k k).1 ⟨h.1, h.2, g.1, g.2.1, g.2.2, f.2⟩⟩⟩⟩
end
set_option maxHeartbeats 2000000 in
theorem v_X8_isByte_0 {K : Sh} {x : Cn} {Q : Int32 → Cn → Prop} {b0 : Nat} {l1 : Int32}  (k_b0 : kk K b0 = some (8, 0)) (K0 : (¬ (gi x b0 11 = 0) → (Q 0 x)) ∧ ((gi x b0 11 = 0) → ((¬ (gi x b0 9) = 3 → (Q 0 x)) ∧ ((gi x b0 9) = 3 → ((¬ (gi x b0 10) = l1 → (Q 0 x)) ∧ ((gi x b0 10) = l1 → (Q 1 x))))))) : mSI mX8_isByte [.ref b0, .int l1] K x Q := by
  refine s_I (by decide) (by simp [Value.category]) (Nat.le_of_ble_eq_true rfl) ?_
  show mGM mX8_isByte 0 [some (.ref b0), some (.int l1)] [] (hp K x) (PI K Q)
  refine r_aload_n (pc := 0) dX8_isByte_0 rfl ?_
  refine s_VI (pc := 1) mX8_good (ci := 8) (a := b0) (As := []) dX8_isByte_1 lk_X8_104 in_X8_good mo_X8_good ⟨by decide, rfl⟩ ⟨by decide, by decide⟩ (Nat.le_of_ble_eq_true rfl) k_b0 (sp_X8_good k_b0 ?_)
  refine r_if_eq (pc := 4) (tgt := 27) dX8_isByte_4 (by decide) (fun q => ?_) (fun q => ?_)
  · have q := (b2i_z _).mp q
    have K0 := K0.1 q
    refine r_iconst (pc := 27) (v := 0) dX8_isByte_27 (by decide) ?_
    exact s_zret rfl (by decide) dX8_isByte_28 K0
  · have q := b2i_nz q
    have K0 := K0.2 q
    refine r_aload_n (pc := 7) dX8_isByte_7 rfl ?_
    refine s_getI (pc := 8) dX8_isByte_8 fl_X8_119 rfl k_b0 ?_
    refine r_iconst (pc := 11) (v := 3) dX8_isByte_11 (by decide) ?_
    refine r_icmp_ne (pc := 12) (tgt := 27) dX8_isByte_12 (by decide) (fun q => ?_) (fun q => ?_)
    · have K0 := K0.1 q
      refine r_iconst (pc := 27) (v := 0) dX8_isByte_27 (by decide) ?_
      exact s_zret rfl (by decide) dX8_isByte_28 K0
    · have K0 := K0.2 q
      refine r_aload_n (pc := 15) dX8_isByte_15 rfl ?_
      refine s_getI (pc := 16) dX8_isByte_16 fl_X8_130 rfl k_b0 ?_
      refine r_iload_n (pc := 19) dX8_isByte_19 rfl ?_
      refine r_icmp_ne (pc := 20) (tgt := 27) dX8_isByte_20 (by decide) (fun q => ?_) (fun q => ?_)
      · have K0 := K0.1 q
        refine r_iconst (pc := 27) (v := 0) dX8_isByte_27 (by decide) ?_
        exact s_zret rfl (by decide) dX8_isByte_28 K0
      · have K0 := K0.2 q
        refine r_iconst (pc := 23) (v := 1) dX8_isByte_23 (by decide) ?_
        refine r_goto (pc := 24) (tgt := 28) dX8_isByte_24 (by decide) ?_
        exact s_zret rfl (by decide) dX8_isByte_28 K0
section
variable {K : Sh} {x : Cn} {Q : Int32 → Cn → Prop} {b t n : Nat}
theorem sp_X8_isByte {l1 : Int32} (h1 : kk K b = some (8, 0)) (k : Q (b2i (gi x b 11 = 0 ∧ gi x b 9 = 3 ∧ gi x b 10 = l1)) x) : mSI mX8_isByte [.ref b, .int l1] K x Q :=
  v_X8_isByte_0 h1 ⟨fun h => (b2i_k k).2 (fun z => h z.1), fun h => ⟨fun g => (b2i_k k).2 (fun z => g z.2.1), fun g => ⟨fun f => (b2i_k k).2 (fun z => f z.2.2), fun f => (b2i_k k).1 ⟨h, g, f⟩⟩⟩⟩
end
set_option maxHeartbeats 2000000 in
theorem v_X8_basisOf_0 {K : Sh} {x : Cn} {Q : Int32 → Cn → Prop} {b0 : Nat} {l1 : Int32} {b0_3 : Nat} {n_b0_3 : Nat} (k_b0 : kk K b0 = some (8, 0)) (g_b0_3 : gr x b0 3 = some b0_3) (k_b0_3 : kk K b0_3 = some (20, n_b0_3)) (K0 : vp_in ((62 + (12 * l1)) + 7) n_b0_3 ∧ (vp_in ((62 + (12 * l1)) + 8) n_b0_3 ∧ (vp_in ((62 + (12 * l1)) + 9) n_b0_3 ∧ (vp_in ((62 + (12 * l1)) + 10) n_b0_3 ∧ (Q ((((gi x b0_3 ((62 + (12 * l1)) + 7 : Int32).toNatClampNeg) ||| (gi x b0_3 ((62 + (12 * l1)) + 8 : Int32).toNatClampNeg)) ||| (gi x b0_3 ((62 + (12 * l1)) + 9 : Int32).toNatClampNeg)) ||| (gi x b0_3 ((62 + (12 * l1)) + 10 : Int32).toNatClampNeg)) x))))) : mSI mX8_basisOf [.ref b0, .int l1] K x Q := by
  refine s_I (by decide) (by simp [Value.category]) (Nat.le_of_ble_eq_true rfl) ?_
  show mGM mX8_basisOf 0 [some (.ref b0), some (.int l1)] [] (hp K x) (PI K Q)
  refine r_aload_n (pc := 0) dX8_basisOf_0 rfl ?_
  refine r_iload_n (pc := 1) dX8_basisOf_1 rfl ?_
  refine r_bipush (pc := 2) (v := 7) dX8_basisOf_2 (by decide) ?_
  obtain ⟨i_1, K0⟩ := K0
  refine s_VI (pc := 4) mX8_one (ci := 8) (a := b0) (As := [.int l1, .int 7]) dX8_basisOf_4 lk_X8_67 in_X8_one mo_X8_one ⟨by decide, rfl⟩ ⟨by decide, by decide⟩ (Nat.le_of_ble_eq_true rfl) k_b0 (sp_X8_one k_b0 g_b0_3 k_b0_3 i_1 ?_)
  refine r_aload_n (pc := 7) dX8_basisOf_7 rfl ?_
  refine r_iload_n (pc := 8) dX8_basisOf_8 rfl ?_
  refine r_bipush (pc := 9) (v := 8) dX8_basisOf_9 (by decide) ?_
  obtain ⟨i_2, K0⟩ := K0
  refine s_VI (pc := 11) mX8_one (ci := 8) (a := b0) (As := [.int l1, .int 8]) dX8_basisOf_11 lk_X8_67 in_X8_one mo_X8_one ⟨by decide, rfl⟩ ⟨by decide, by decide⟩ (Nat.le_of_ble_eq_true rfl) k_b0 (sp_X8_one k_b0 g_b0_3 k_b0_3 i_2 ?_)
  refine r_ior (pc := 14) dX8_basisOf_14 ?_
  refine r_aload_n (pc := 15) dX8_basisOf_15 rfl ?_
  refine r_iload_n (pc := 16) dX8_basisOf_16 rfl ?_
  refine r_bipush (pc := 17) (v := 9) dX8_basisOf_17 (by decide) ?_
  obtain ⟨i_3, K0⟩ := K0
  refine s_VI (pc := 19) mX8_one (ci := 8) (a := b0) (As := [.int l1, .int 9]) dX8_basisOf_19 lk_X8_67 in_X8_one mo_X8_one ⟨by decide, rfl⟩ ⟨by decide, by decide⟩ (Nat.le_of_ble_eq_true rfl) k_b0 (sp_X8_one k_b0 g_b0_3 k_b0_3 i_3 ?_)
  refine r_ior (pc := 22) dX8_basisOf_22 ?_
  refine r_aload_n (pc := 23) dX8_basisOf_23 rfl ?_
  refine r_iload_n (pc := 24) dX8_basisOf_24 rfl ?_
  refine r_bipush (pc := 25) (v := 10) dX8_basisOf_25 (by decide) ?_
  obtain ⟨i_4, K0⟩ := K0
  refine s_VI (pc := 27) mX8_one (ci := 8) (a := b0) (As := [.int l1, .int 10]) dX8_basisOf_27 lk_X8_67 in_X8_one mo_X8_one ⟨by decide, rfl⟩ ⟨by decide, by decide⟩ (Nat.le_of_ble_eq_true rfl) k_b0 (sp_X8_one k_b0 g_b0_3 k_b0_3 i_4 ?_)
  refine r_ior (pc := 30) dX8_basisOf_30 ?_
  exact s_iret rfl dX8_basisOf_31 K0
section
variable {K : Sh} {x : Cn} {Q : Int32 → Cn → Prop} {b t n : Nat}
theorem sp_X8_basisOf {l1 : Int32} (h1 : kk K b = some (8, 0)) (h2 : gr x b 3 = some t) (h3 : kk K t = some (20, n)) (h4 : vp_in ((62 + (12 * l1)) + 7) n) (h5 : vp_in ((62 + (12 * l1)) + 8) n) (h6 : vp_in ((62 + (12 * l1)) + 9) n) (h7 : vp_in ((62 + (12 * l1)) + 10) n) (k : Q (((gi x t ((62 + (12 * l1)) + 7 : Int32).toNatClampNeg ||| gi x t ((62 + (12 * l1)) + 8 : Int32).toNatClampNeg) ||| gi x t ((62 + (12 * l1)) + 9 : Int32).toNatClampNeg) ||| gi x t ((62 + (12 * l1)) + 10 : Int32).toNatClampNeg) x) : mSI mX8_basisOf [.ref b, .int l1] K x Q := v_X8_basisOf_0 h1 h2 h3 ⟨h4, h5, h6, h7, k⟩
end
set_option maxHeartbeats 2000000 in
theorem v_X8_goodOf_0 {K : Sh} {x : Cn} {Q : Int32 → Cn → Prop} {b0 : Nat} {l1 : Int32} {b0_3 : Nat} {n_b0_3 : Nat} (k_b0 : kk K b0 = some (8, 0)) (g_b0_3 : gr x b0 3 = some b0_3) (k_b0_3 : kk K b0_3 = some (20, n_b0_3)) (K0 : vp_in ((62 + (12 * l1)) + 8) n_b0_3 ∧ (vp_in ((62 + (12 * l1)) + 10) n_b0_3 ∧ (Q (nI (cpt ((gi x b0_3 ((62 + (12 * l1)) + 8 : Int32).toNatClampNeg) ||| (gi x b0_3 ((62 + (12 * l1)) + 10 : Int32).toNatClampNeg)))) x))) : mSI mX8_goodOf [.ref b0, .int l1] K x Q := by
  refine s_I (by decide) (by simp [Value.category]) (Nat.le_of_ble_eq_true rfl) ?_
  show mGM mX8_goodOf 0 [some (.ref b0), some (.int l1)] [] (hp K x) (PI K Q)
  refine r_aload_n (pc := 0) dX8_goodOf_0 rfl ?_
  refine r_iload_n (pc := 1) dX8_goodOf_1 rfl ?_
  refine r_bipush (pc := 2) (v := 8) dX8_goodOf_2 (by decide) ?_
  obtain ⟨i_1, K0⟩ := K0
  refine s_VI (pc := 4) mX8_one (ci := 8) (a := b0) (As := [.int l1, .int 8]) dX8_goodOf_4 lk_X8_67 in_X8_one mo_X8_one ⟨by decide, rfl⟩ ⟨by decide, by decide⟩ (Nat.le_of_ble_eq_true rfl) k_b0 (sp_X8_one k_b0 g_b0_3 k_b0_3 i_1 ?_)
  refine r_aload_n (pc := 7) dX8_goodOf_7 rfl ?_
  refine r_iload_n (pc := 8) dX8_goodOf_8 rfl ?_
  refine r_bipush (pc := 9) (v := 10) dX8_goodOf_9 (by decide) ?_
  obtain ⟨i_2, K0⟩ := K0
  refine s_VI (pc := 11) mX8_one (ci := 8) (a := b0) (As := [.int l1, .int 10]) dX8_goodOf_11 lk_X8_67 in_X8_one mo_X8_one ⟨by decide, rfl⟩ ⟨by decide, by decide⟩ (Nat.le_of_ble_eq_true rfl) k_b0 (sp_X8_one k_b0 g_b0_3 k_b0_3 i_2 ?_)
  refine r_ior (pc := 14) dX8_goodOf_14 ?_
  refine s_SI (pc := 15) mX8_bits (As := [.int ((gi x b0_3 ((62 + (12 * l1)) + 8 : Int32).toNatClampNeg) ||| (gi x b0_3 ((62 + (12 * l1)) + 10 : Int32).toNatClampNeg))]) dX8_goodOf_15 lk_X8_296 st_X8_bits mo_X8_bits ⟨by decide, by decide⟩ (Nat.le_of_ble_eq_true rfl) (sp_X8_bits  ?_)
  exact s_iret rfl dX8_goodOf_18 K0
section
variable {K : Sh} {x : Cn} {Q : Int32 → Cn → Prop} {b t n : Nat}
theorem sp_X8_goodOf {l1 : Int32} (h1 : kk K b = some (8, 0)) (h2 : gr x b 3 = some t) (h3 : kk K t = some (20, n)) (h5 : vp_in ((62 + (12 * l1)) + 8) n) (h7 : vp_in ((62 + (12 * l1)) + 10) n) (k : Q (nI (cpt (gi x t ((62 + (12 * l1)) + 8 : Int32).toNatClampNeg ||| gi x t ((62 + (12 * l1)) + 10 : Int32).toNatClampNeg))) x) : mSI mX8_goodOf [.ref b, .int l1] K x Q := v_X8_goodOf_0 h1 h2 h3 ⟨h5, h7, k⟩
end
set_option maxHeartbeats 2000000 in
theorem v_X8_fromNow_0 {K : Sh} {x : Cn} {Q : Int32 → Cn → Prop} {b0 : Nat} {b0_3 : Nat} {n_b0_3 : Nat} (k_b0 : kk K b0 = some (8, 0)) (g_b0_3 : gr x b0 3 = some b0_3) (k_b0_3 : kk K b0_3 = some (20, n_b0_3)) (K0 : vp_in 4 n_b0_3 ∧ (vp_in 0 n_b0_3 ∧ (Q (f_span (gi x b0_3 4) ((gi x b0_3 0) - 1)) x))) : mSI mX8_fromNow [.ref b0] K x Q := by
  refine s_I (by decide) (by simp [Value.category]) (Nat.le_of_ble_eq_true rfl) ?_
  show mGM mX8_fromNow 0 [some (.ref b0)] [] (hp K x) (PI K Q)
  refine r_aload_n (pc := 0) dX8_fromNow_0 rfl ?_
  refine s_getR (pc := 1) dX8_fromNow_1 fl_X8_16 rfl k_b0 g_b0_3 ?_
  refine r_iconst (pc := 4) (v := 4) dX8_fromNow_4 (by decide) ?_
  obtain ⟨i_1, K0⟩ := K0
  refine s_iald (pc := 5) dX8_fromNow_5 k_b0_3 i_1 ?_
  refine r_aload_n (pc := 6) dX8_fromNow_6 rfl ?_
  refine s_getR (pc := 7) dX8_fromNow_7 fl_X8_16 rfl k_b0 g_b0_3 ?_
  refine r_iconst (pc := 10) (v := 0) dX8_fromNow_10 (by decide) ?_
  obtain ⟨i_2, K0⟩ := K0
  refine s_iald (pc := 11) dX8_fromNow_11 k_b0_3 i_2 ?_
  refine r_iconst (pc := 12) (v := 1) dX8_fromNow_12 (by decide) ?_
  refine r_isub (pc := 13) dX8_fromNow_13 ?_
  refine s_SI (pc := 14) mX8_span (As := [.int (gi x b0_3 4), .int ((gi x b0_3 0) - 1)]) dX8_fromNow_14 lk_X8_79 st_X8_span mo_X8_span ⟨by decide, by decide⟩ (Nat.le_of_ble_eq_true rfl) (sp_X8_span  ?_)
  exact s_iret rfl dX8_fromNow_17 K0
section
variable {K : Sh} {x : Cn} {Q : Int32 → Cn → Prop} {b t n : Nat}
theorem sp_X8_fromNow (h1 : kk K b = some (8, 0)) (h2 : gr x b 3 = some t) (h3 : kk K t = some (20, n)) (h4 : vp_in 4 n) (h5 : vp_in 0 n) (k : Q (f_span (gi x t 4) (gi x t 0 - 1)) x) : mSI mX8_fromNow [.ref b] K x Q := v_X8_fromNow_0 h1 h2 h3 ⟨h4, h5, k⟩
end
set_option maxHeartbeats 2000000 in
theorem v_X8_isNew_0 {K : Sh} {x : Cn} {Q : Int32 → Cn → Prop} {b0 : Nat} {l1 : Int32} {b0_3 : Nat} {n_b0_3 : Nat} (k_b0 : kk K b0 = some (8, 0)) (g_b0_3 : gr x b0 3 = some b0_3) (k_b0_3 : kk K b0_3 = some (20, n_b0_3)) (K0 : vp_in ((62 + (12 * l1)) + 4) n_b0_3 ∧ ((¬ (gi x b0_3 ((62 + (12 * l1)) + 4 : Int32).toNatClampNeg) = 1 → (Q 0 x)) ∧ ((gi x b0_3 ((62 + (12 * l1)) + 4 : Int32).toNatClampNeg) = 1 → (Q 1 x)))) : mSI mX8_isNew [.ref b0, .int l1] K x Q := by
  refine s_I (by decide) (by simp [Value.category]) (Nat.le_of_ble_eq_true rfl) ?_
  show mGM mX8_isNew 0 [some (.ref b0), some (.int l1)] [] (hp K x) (PI K Q)
  refine r_aload_n (pc := 0) dX8_isNew_0 rfl ?_
  refine r_iload_n (pc := 1) dX8_isNew_1 rfl ?_
  refine r_iconst (pc := 2) (v := 4) dX8_isNew_2 (by decide) ?_
  obtain ⟨i_1, K0⟩ := K0
  refine s_VI (pc := 3) mX8_one (ci := 8) (a := b0) (As := [.int l1, .int 4]) dX8_isNew_3 lk_X8_67 in_X8_one mo_X8_one ⟨by decide, rfl⟩ ⟨by decide, by decide⟩ (Nat.le_of_ble_eq_true rfl) k_b0 (sp_X8_one k_b0 g_b0_3 k_b0_3 i_1 ?_)
  refine r_iconst (pc := 6) (v := 1) dX8_isNew_6 (by decide) ?_
  refine r_icmp_ne (pc := 7) (tgt := 14) dX8_isNew_7 (by decide) (fun q => ?_) (fun q => ?_)
  · have K0 := K0.1 q
    refine r_iconst (pc := 14) (v := 0) dX8_isNew_14 (by decide) ?_
    exact s_zret rfl (by decide) dX8_isNew_15 K0
  · have K0 := K0.2 q
    refine r_iconst (pc := 10) (v := 1) dX8_isNew_10 (by decide) ?_
    refine r_goto (pc := 11) (tgt := 15) dX8_isNew_11 (by decide) ?_
    exact s_zret rfl (by decide) dX8_isNew_15 K0
section
variable {K : Sh} {x : Cn} {Q : Int32 → Cn → Prop} {b t n : Nat}
theorem sp_X8_isNew {l1 : Int32} (h1 : kk K b = some (8, 0)) (h2 : gr x b 3 = some t) (h3 : kk K t = some (20, n)) (h4 : vp_in ((62 + (12 * l1)) + 4) n) (k : Q (b2i (gi x t ((62 + (12 * l1)) + 4 : Int32).toNatClampNeg = 1)) x) : mSI mX8_isNew [.ref b, .int l1] K x Q := v_X8_isNew_0 h1 h2 h3 ⟨h4, (b2i_k k).2, (b2i_k k).1⟩
end
set_option maxHeartbeats 2000000 in
theorem v_X8_weeksOf_0 {K : Sh} {x : Cn} {Q : Int32 → Cn → Prop} {b0 : Nat} {l1 : Int32} {b0_3 : Nat} {n_b0_3 : Nat} (k_b0 : kk K b0 = some (8, 0)) (g_b0_3 : gr x b0 3 = some b0_3) (k_b0_3 : kk K b0_3 = some (20, n_b0_3)) (K0 : vp_in ((350 + (7 * l1)) + 4) n_b0_3 ∧ (vp_in ((350 + (7 * l1)) + 5) n_b0_3 ∧ (vp_in 4 n_b0_3 ∧ (vp_in 0 n_b0_3 ∧ (Q ((f_span (gi x b0_3 ((350 + (7 * l1)) + 4 : Int32).toNatClampNeg) (gi x b0_3 ((350 + (7 * l1)) + 5 : Int32).toNatClampNeg)) &&& (f_span (gi x b0_3 4) (gi x b0_3 0 - 1))) x))))) : mSI mX8_weeksOf [.ref b0, .int l1] K x Q := by
  refine s_I (by decide) (by simp [Value.category]) (Nat.le_of_ble_eq_true rfl) ?_
  show mGM mX8_weeksOf 0 [some (.ref b0), some (.int l1)] [] (hp K x) (PI K Q)
  refine r_aload_n (pc := 0) dX8_weeksOf_0 rfl ?_
  refine r_iload_n (pc := 1) dX8_weeksOf_1 rfl ?_
  refine r_iconst (pc := 2) (v := 4) dX8_weeksOf_2 (by decide) ?_
  obtain ⟨i_1, K0⟩ := K0
  refine s_VI (pc := 3) mX8_ask0 (ci := 8) (a := b0) (As := [.int l1, .int 4]) dX8_weeksOf_3 lk_X8_284 in_X8_ask0 mo_X8_ask0 ⟨by decide, rfl⟩ ⟨by decide, by decide⟩ (Nat.le_of_ble_eq_true rfl) k_b0 (sp_X8_ask0 k_b0 g_b0_3 k_b0_3 i_1 ?_)
  refine r_aload_n (pc := 6) dX8_weeksOf_6 rfl ?_
  refine r_iload_n (pc := 7) dX8_weeksOf_7 rfl ?_
  refine r_iconst (pc := 8) (v := 5) dX8_weeksOf_8 (by decide) ?_
  obtain ⟨i_2, K0⟩ := K0
  refine s_VI (pc := 9) mX8_ask0 (ci := 8) (a := b0) (As := [.int l1, .int 5]) dX8_weeksOf_9 lk_X8_284 in_X8_ask0 mo_X8_ask0 ⟨by decide, rfl⟩ ⟨by decide, by decide⟩ (Nat.le_of_ble_eq_true rfl) k_b0 (sp_X8_ask0 k_b0 g_b0_3 k_b0_3 i_2 ?_)
  refine s_SI (pc := 12) mX8_span (As := [.int (gi x b0_3 ((350 + (7 * l1)) + 4 : Int32).toNatClampNeg), .int (gi x b0_3 ((350 + (7 * l1)) + 5 : Int32).toNatClampNeg)]) dX8_weeksOf_12 lk_X8_79 st_X8_span mo_X8_span ⟨by decide, by decide⟩ (Nat.le_of_ble_eq_true rfl) (sp_X8_span  ?_)
  refine r_aload_n (pc := 15) dX8_weeksOf_15 rfl ?_
  obtain ⟨i_3, K0⟩ := K0
  obtain ⟨i_4, K0⟩ := K0
  refine s_VI (pc := 16) mX8_fromNow (ci := 8) (a := b0) (As := []) dX8_weeksOf_16 lk_X8_82 in_X8_fromNow mo_X8_fromNow ⟨by decide, rfl⟩ ⟨by decide, by decide⟩ (Nat.le_of_ble_eq_true rfl) k_b0 (sp_X8_fromNow k_b0 g_b0_3 k_b0_3 i_3 i_4 ?_)
  refine r_iand (pc := 19) dX8_weeksOf_19 ?_
  exact s_iret rfl dX8_weeksOf_20 K0
section
variable {K : Sh} {x : Cn} {Q : Int32 → Cn → Prop} {b t n : Nat}
theorem sp_X8_weeksOf {l1 : Int32} (h1 : kk K b = some (8, 0)) (h2 : gr x b 3 = some t) (h3 : kk K t = some (20, n)) (h4 : vp_in ((350 + (7 * l1)) + 4) n) (h5 : vp_in ((350 + (7 * l1)) + 5) n) (h6 : vp_in 4 n) (h7 : vp_in 0 n) (k : Q (f_span (gi x t ((350 + (7 * l1)) + 4 : Int32).toNatClampNeg) (gi x t ((350 + (7 * l1)) + 5 : Int32).toNatClampNeg) &&& f_span (gi x t 4) (gi x t 0 - 1)) x) : mSI mX8_weeksOf [.ref b, .int l1] K x Q := v_X8_weeksOf_0 h1 h2 h3 ⟨h4, h5, h6, h7, k⟩
end
set_option maxHeartbeats 2000000 in
theorem v_X5_holds_0 {K : Sh} {x : Cn} {Q : Int32 → Cn → Prop} {b0 : Nat} {l1 : Int32}  (k_b0 : kk K b0 = some (5, 0)) (K0 : Q (b2i (f_bit (f_held x b0) l1)) x) : mSI mX5_holds [.ref b0, .int l1] K x Q := by
  refine s_I (by decide) (by simp [Value.category]) (Nat.le_of_ble_eq_true rfl) ?_
  show mGM mX5_holds 0 [some (.ref b0), some (.int l1)] [] (hp K x) (PI K Q)
  refine r_aload_n (pc := 0) dX5_holds_0 rfl ?_
  refine s_VI (pc := 1) mX5_heldBits (ci := 5) (a := b0) (As := []) dX5_holds_1 lk_X5_69 in_X5_heldBits mo_X5_heldBits ⟨by decide, rfl⟩ ⟨by decide, by decide⟩ (Nat.le_of_ble_eq_true rfl) k_b0 (sp_X5_heldBits k_b0 ?_)
  refine r_iload_n (pc := 4) dX5_holds_4 rfl ?_
  refine s_SNI (pc := 5) mX7_hasBit (As := [.int (f_held x b0), .int l1]) dX5_holds_5 nl_X5_65 st_X7_hasBit mo_X7_hasBit ⟨by decide, by decide⟩ (Nat.le_of_ble_eq_true rfl) (sp_X7_hasBit  ?_)
  exact s_zret rfl (b2i_01 _) dX5_holds_8 K0
section
variable {K : Sh} {x : Cn} {Q : Int32 → Cn → Prop} {b t n : Nat}
theorem sp_X5_holds {l1 : Int32} (h1 : kk K b = some (5, 0)) (k : Q (b2i (f_bit (f_held x b) l1)) x) : mSI mX5_holds [.ref b, .int l1] K x Q := v_X5_holds_0 h1 k
end
set_option maxHeartbeats 2000000 in
theorem v_X5_fills_0 {K : Sh} {x : Cn} {Q : Int32 → Cn → Prop} {b0 : Nat} {l1 : Int32} {l2 : Int32} {l3 : Int32}  (k_b0 : kk K b0 = some (5, 0)) (K0 : (¬ (gi x b0 1) = l2 → (Q 0 x)) ∧ ((gi x b0 1) = l2 → ((¬ (gi x b0 2) = l3 → (Q 0 x)) ∧ ((gi x b0 2) = l3 → ((¬ (f_bit (f_held x b0) l1) → (Q 0 x)) ∧ ((f_bit (f_held x b0) l1) → (Q 1 x))))))) : mSI mX5_fills [.ref b0, .int l1, .int l2, .int l3] K x Q := by
  refine s_I (by decide) (by simp [Value.category]) (Nat.le_of_ble_eq_true rfl) ?_
  show mGM mX5_fills 0 [some (.ref b0), some (.int l1), some (.int l2), some (.int l3)] [] (hp K x) (PI K Q)
  refine r_aload_n (pc := 0) dX5_fills_0 rfl ?_
  refine s_getI (pc := 1) dX5_fills_1 fl_X5_15 rfl k_b0 ?_
  refine r_iload_n (pc := 4) dX5_fills_4 rfl ?_
  refine r_icmp_ne (pc := 5) (tgt := 28) dX5_fills_5 (by decide) (fun q => ?_) (fun q => ?_)
  · have K0 := K0.1 q
    refine r_iconst (pc := 28) (v := 0) dX5_fills_28 (by decide) ?_
    exact s_zret rfl (by decide) dX5_fills_29 K0
  · have K0 := K0.2 q
    refine r_aload_n (pc := 8) dX5_fills_8 rfl ?_
    refine s_getI (pc := 9) dX5_fills_9 fl_X5_18 rfl k_b0 ?_
    refine r_iload_n (pc := 12) dX5_fills_12 rfl ?_
    refine r_icmp_ne (pc := 13) (tgt := 28) dX5_fills_13 (by decide) (fun q => ?_) (fun q => ?_)
    · have K0 := K0.1 q
      refine r_iconst (pc := 28) (v := 0) dX5_fills_28 (by decide) ?_
      exact s_zret rfl (by decide) dX5_fills_29 K0
    · have K0 := K0.2 q
      refine r_aload_n (pc := 16) dX5_fills_16 rfl ?_
      refine r_iload_n (pc := 17) dX5_fills_17 rfl ?_
      refine s_VI (pc := 18) mX5_holds (ci := 5) (a := b0) (As := [.int l1]) dX5_fills_18 lk_X5_72 in_X5_holds mo_X5_holds ⟨by decide, rfl⟩ ⟨by decide, by decide⟩ (Nat.le_of_ble_eq_true rfl) k_b0 (sp_X5_holds k_b0 ?_)
      refine r_if_eq (pc := 21) (tgt := 28) dX5_fills_21 (by decide) (fun q => ?_) (fun q => ?_)
      · have q := (b2i_z _).mp q
        have K0 := K0.1 q
        refine r_iconst (pc := 28) (v := 0) dX5_fills_28 (by decide) ?_
        exact s_zret rfl (by decide) dX5_fills_29 K0
      · have q := b2i_nz q
        have K0 := K0.2 q
        refine r_iconst (pc := 24) (v := 1) dX5_fills_24 (by decide) ?_
        refine r_goto (pc := 25) (tgt := 29) dX5_fills_25 (by decide) ?_
        exact s_zret rfl (by decide) dX5_fills_29 K0
section
variable {K : Sh} {x : Cn} {Q : Int32 → Cn → Prop} {b t n : Nat}
theorem sp_X5_fills {l1 l2 l3 : Int32} (h1 : kk K b = some (5, 0)) (k : Q (b2i (gi x b 1 = l2 ∧ gi x b 2 = l3 ∧ f_bit (f_held x b) l1)) x) : mSI mX5_fills [.ref b, .int l1, .int l2, .int l3] K x Q :=
  v_X5_fills_0 h1 ⟨fun h => (b2i_k k).2 (fun z => h z.1), fun h => ⟨fun g => (b2i_k k).2 (fun z => g z.2.1), fun g => ⟨fun f => (b2i_k k).2 (fun z => f z.2.2), fun f => (b2i_k k).1 ⟨h, g, f⟩⟩⟩⟩
end
set_option maxHeartbeats 2000000 in
theorem v_X5_basis_0 {K : Sh} {x : Cn} {Q : Int32 → Cn → Prop} {b0 : Nat}  (k_b0 : kk K b0 = some (5, 0)) (K0 : Q (nI (cpt (f_held x b0))) x) : mSI mX5_basis [.ref b0] K x Q := by
  refine s_I (by decide) (by simp [Value.category]) (Nat.le_of_ble_eq_true rfl) ?_
  show mGM mX5_basis 0 [some (.ref b0)] [] (hp K x) (PI K Q)
  refine r_aload_n (pc := 0) dX5_basis_0 rfl ?_
  refine s_VI (pc := 1) mX5_heldBits (ci := 5) (a := b0) (As := []) dX5_basis_1 lk_X5_69 in_X5_heldBits mo_X5_heldBits ⟨by decide, rfl⟩ ⟨by decide, by decide⟩ (Nat.le_of_ble_eq_true rfl) k_b0 (sp_X5_heldBits k_b0 ?_)
  refine s_SI (pc := 4) mJ6_bitCount_0f7a4 (As := [.int (f_held x b0)]) dX5_basis_4 lk_X5_76 st_J6_bitCount_0f7a4 mo_J6_bitCount_0f7a4 ⟨by decide, by decide⟩ (Nat.le_of_ble_eq_true rfl) (sp_bc  ?_)
  exact s_iret rfl dX5_basis_7 K0
section
variable {K : Sh} {x : Cn} {Q : Int32 → Cn → Prop} {b t n : Nat}
theorem sp_X5_basis (h1 : kk K b = some (5, 0)) (k : Q (nI (cpt (f_held x b))) x) : mSI mX5_basis [.ref b] K x Q := v_X5_basis_0 h1 k
end
set_option maxHeartbeats 2000000 in
theorem v_X5_good_0 {K : Sh} {x : Cn} {Q : Int32 → Cn → Prop} {b0 : Nat}  (k_b0 : kk K b0 = some (5, 0)) (K0 : Q (nI (cpt ((gi x b0 8) ||| (gi x b0 10)))) x) : mSI mX5_good [.ref b0] K x Q := by
  refine s_I (by decide) (by simp [Value.category]) (Nat.le_of_ble_eq_true rfl) ?_
  show mGM mX5_good 0 [some (.ref b0)] [] (hp K x) (PI K Q)
  refine r_aload_n (pc := 0) dX5_good_0 rfl ?_
  refine s_getI (pc := 1) dX5_good_1 fl_X5_37 rfl k_b0 ?_
  refine r_aload_n (pc := 4) dX5_good_4 rfl ?_
  refine s_getI (pc := 5) dX5_good_5 fl_X5_43 rfl k_b0 ?_
  refine r_ior (pc := 8) dX5_good_8 ?_
  refine s_SI (pc := 9) mJ6_bitCount_0f7a4 (As := [.int ((gi x b0 8) ||| (gi x b0 10))]) dX5_good_9 lk_X5_76 st_J6_bitCount_0f7a4 mo_J6_bitCount_0f7a4 ⟨by decide, by decide⟩ (Nat.le_of_ble_eq_true rfl) (sp_bc  ?_)
  exact s_iret rfl dX5_good_12 K0
section
variable {K : Sh} {x : Cn} {Q : Int32 → Cn → Prop} {b t n : Nat}
theorem sp_X5_good (h1 : kk K b = some (5, 0)) (k : Q (nI (cpt (gi x b 8 ||| gi x b 10))) x) : mSI mX5_good [.ref b] K x Q := v_X5_good_0 h1 k
end
set_option maxHeartbeats 2000000 in
theorem v_X5_isKeptWith_0 {K : Sh} {x : Cn} {Q : Int32 → Cn → Prop} {b0 : Nat} {l1 : Int32}  (k_b0 : kk K b0 = some (5, 0)) (K0 : ((nI (cpt (f_held x b0))) ≤ 0 → (Q 0 x)) ∧ (¬ (nI (cpt (f_held x b0))) ≤ 0 → (((5 * l1) < (4 * (nI (cpt (f_held x b0)))) → (Q 0 x)) ∧ (¬ (5 * l1) < (4 * (nI (cpt (f_held x b0)))) → (Q 1 x))))) : mSI mX5_isKeptWith [.ref b0, .int l1] K x Q := by
  refine s_I (by decide) (by simp [Value.category]) (Nat.le_of_ble_eq_true rfl) ?_
  show mGM mX5_isKeptWith 0 [some (.ref b0), some (.int l1), none] [] (hp K x) (PI K Q)
  refine r_aload_n (pc := 0) dX5_isKeptWith_0 rfl ?_
  refine s_VI (pc := 1) mX5_basis (ci := 5) (a := b0) (As := []) dX5_isKeptWith_1 lk_X5_81 in_X5_basis mo_X5_basis ⟨by decide, rfl⟩ ⟨by decide, by decide⟩ (Nat.le_of_ble_eq_true rfl) k_b0 (sp_X5_basis k_b0 ?_)
  refine r_istore_n (pc := 4) dX5_isKeptWith_4 (by decide) ?_
  refine r_iload_n (pc := 5) (L := [some (.ref b0), some (.int l1), some (.int (nI (cpt (f_held x b0))))]) dX5_isKeptWith_5 rfl ?_
  refine r_if_le (pc := 6) (tgt := 22) dX5_isKeptWith_6 (by decide) (fun q => ?_) (fun q => ?_)
  · have K0 := K0.1 q
    refine r_iconst (pc := 22) (v := 0) dX5_isKeptWith_22 (by decide) ?_
    exact s_zret rfl (by decide) dX5_isKeptWith_23 K0
  · have K0 := K0.2 q
    refine r_iconst (pc := 9) (v := 5) dX5_isKeptWith_9 (by decide) ?_
    refine r_iload_n (pc := 10) dX5_isKeptWith_10 rfl ?_
    refine r_imul (pc := 11) dX5_isKeptWith_11 ?_
    refine r_iconst (pc := 12) (v := 4) dX5_isKeptWith_12 (by decide) ?_
    refine r_iload_n (pc := 13) dX5_isKeptWith_13 rfl ?_
    refine r_imul (pc := 14) dX5_isKeptWith_14 ?_
    refine r_icmp_lt (pc := 15) (tgt := 22) dX5_isKeptWith_15 (by decide) (fun q => ?_) (fun q => ?_)
    · have K0 := K0.1 q
      refine r_iconst (pc := 22) (v := 0) dX5_isKeptWith_22 (by decide) ?_
      exact s_zret rfl (by decide) dX5_isKeptWith_23 K0
    · have K0 := K0.2 q
      refine r_iconst (pc := 18) (v := 1) dX5_isKeptWith_18 (by decide) ?_
      refine r_goto (pc := 19) (tgt := 23) dX5_isKeptWith_19 (by decide) ?_
      exact s_zret rfl (by decide) dX5_isKeptWith_23 K0
section
variable {K : Sh} {x : Cn} {Q : Int32 → Cn → Prop} {b t n : Nat}
theorem sp_X5_isKeptWith {l1 : Int32} (h1 : kk K b = some (5, 0)) (k : Q (b2i (f_kw (nI (cpt (f_held x b))) l1)) x) : mSI mX5_isKeptWith [.ref b, .int l1] K x Q :=
  v_X5_isKeptWith_0 h1 ⟨fun h => (b2i_k k).2 (fun z => Int32.not_le.mpr z.1 h), fun h => ⟨fun g => (b2i_k k).2 (fun z => Int32.not_lt.mpr z.2 g), fun g => (b2i_k k).1 ⟨Int32.not_le.mp h, Int32.not_lt.mp g⟩⟩⟩
end
set_option maxHeartbeats 2000000 in
theorem v_X5_isSafe_0 {K : Sh} {x : Cn} {Q : Int32 → Cn → Prop} {b0 : Nat}  (k_b0 : kk K b0 = some (5, 0)) (K0 : Q (b2i (f_kw (nI (cpt (f_held x b0))) (nI (cpt (gi x b0 8 ||| gi x b0 10))))) x) : mSI mX5_isSafe [.ref b0] K x Q := by
  refine s_I (by decide) (by simp [Value.category]) (Nat.le_of_ble_eq_true rfl) ?_
  show mGM mX5_isSafe 0 [some (.ref b0)] [] (hp K x) (PI K Q)
  refine r_aload_n (pc := 0) dX5_isSafe_0 rfl ?_
  refine r_aload_n (pc := 1) dX5_isSafe_1 rfl ?_
  refine s_VI (pc := 2) mX5_good (ci := 5) (a := b0) (As := []) dX5_isSafe_2 lk_X5_84 in_X5_good mo_X5_good ⟨by decide, rfl⟩ ⟨by decide, by decide⟩ (Nat.le_of_ble_eq_true rfl) k_b0 (sp_X5_good k_b0 ?_)
  refine s_VI (pc := 5) mX5_isKeptWith (ci := 5) (a := b0) (As := [.int (nI (cpt (gi x b0 8 ||| gi x b0 10)))]) dX5_isSafe_5 lk_X5_87 in_X5_isKeptWith mo_X5_isKeptWith ⟨by decide, rfl⟩ ⟨by decide, by decide⟩ (Nat.le_of_ble_eq_true rfl) k_b0 (sp_X5_isKeptWith k_b0 ?_)
  exact s_zret rfl (b2i_01 _) dX5_isSafe_8 K0
section
variable {K : Sh} {x : Cn} {Q : Int32 → Cn → Prop} {b t n : Nat}
theorem sp_X5_isSafe (h1 : kk K b = some (5, 0)) (k : Q (b2i (f_safe x b)) x) : mSI mX5_isSafe [.ref b] K x Q := v_X5_isSafe_0 h1 k
end
set_option maxHeartbeats 2000000 in
theorem v_X5_isLost_0 {K : Sh} {x : Cn} {Q : Int32 → Cn → Prop} {b0 : Nat}  (k_b0 : kk K b0 = some (5, 0)) (K0 : ((f_kw (nI (cpt (f_held x b0))) ((nI (cpt (gi x b0 8 ||| gi x b0 10))) + (nI (cpt (f_open x b0))))) → (Q 0 x)) ∧ (¬ (f_kw (nI (cpt (f_held x b0))) ((nI (cpt (gi x b0 8 ||| gi x b0 10))) + (nI (cpt (f_open x b0))))) → (Q 1 x))) : mSI mX5_isLost [.ref b0] K x Q := by
  refine s_I (by decide) (by simp [Value.category]) (Nat.le_of_ble_eq_true rfl) ?_
  show mGM mX5_isLost 0 [some (.ref b0)] [] (hp K x) (PI K Q)
  refine r_aload_n (pc := 0) dX5_isLost_0 rfl ?_
  refine r_aload_n (pc := 1) dX5_isLost_1 rfl ?_
  refine s_VI (pc := 2) mX5_good (ci := 5) (a := b0) (As := []) dX5_isLost_2 lk_X5_84 in_X5_good mo_X5_good ⟨by decide, rfl⟩ ⟨by decide, by decide⟩ (Nat.le_of_ble_eq_true rfl) k_b0 (sp_X5_good k_b0 ?_)
  refine r_aload_n (pc := 5) dX5_isLost_5 rfl ?_
  refine s_VI (pc := 6) mX5_openBits (ci := 5) (a := b0) (As := []) dX5_isLost_6 lk_X5_57 in_X5_openBits mo_X5_openBits ⟨by decide, rfl⟩ ⟨by decide, by decide⟩ (Nat.le_of_ble_eq_true rfl) k_b0 (sp_X5_openBits k_b0 ?_)
  refine s_SI (pc := 9) mJ6_bitCount_0f7a4 (As := [.int (f_open x b0)]) dX5_isLost_9 lk_X5_76 st_J6_bitCount_0f7a4 mo_J6_bitCount_0f7a4 ⟨by decide, by decide⟩ (Nat.le_of_ble_eq_true rfl) (sp_bc  ?_)
  refine r_iadd (pc := 12) dX5_isLost_12 ?_
  refine s_VI (pc := 13) mX5_isKeptWith (ci := 5) (a := b0) (As := [.int ((nI (cpt (gi x b0 8 ||| gi x b0 10))) + (nI (cpt (f_open x b0))))]) dX5_isLost_13 lk_X5_87 in_X5_isKeptWith mo_X5_isKeptWith ⟨by decide, rfl⟩ ⟨by decide, by decide⟩ (Nat.le_of_ble_eq_true rfl) k_b0 (sp_X5_isKeptWith k_b0 ?_)
  refine r_if_ne (pc := 16) (tgt := 23) dX5_isLost_16 (by decide) (fun q => ?_) (fun q => ?_)
  · have q := b2i_nz q
    have K0 := K0.1 q
    refine r_iconst (pc := 23) (v := 0) dX5_isLost_23 (by decide) ?_
    exact s_zret rfl (by decide) dX5_isLost_24 K0
  · have q := (b2i_z _).mp q
    have K0 := K0.2 q
    refine r_iconst (pc := 19) (v := 1) dX5_isLost_19 (by decide) ?_
    refine r_goto (pc := 20) (tgt := 24) dX5_isLost_20 (by decide) ?_
    exact s_zret rfl (by decide) dX5_isLost_24 K0
section
variable {K : Sh} {x : Cn} {Q : Int32 → Cn → Prop} {b t n : Nat}
theorem sp_X5_isLost (h1 : kk K b = some (5, 0)) (k : Q (b2i (f_lost x b)) x) : mSI mX5_isLost [.ref b] K x Q := v_X5_isLost_0 h1 ⟨fun h => (b2i_k k).2 (fun z => z h), fun h => (b2i_k k).1 h⟩
end
set_option maxHeartbeats 2000000 in
theorem v_X4_weeksToCome_0 {K : Sh} {x : Cn} {Q : Int32 → Cn → Prop} {b0 : Nat}  (k_b0 : kk K b0 = some (4, 0)) (K0 : (¬ (gi x b0 0 ≤ gi x b0 1) → (Q (f_sb (gi x b0 1) ((gi x b0 0) - 1)) x)) ∧ ((gi x b0 0 ≤ gi x b0 1) → (Q 0 x))) : mSI mX4_weeksToCome [.ref b0] K x Q := by
  refine s_I (by decide) (by simp [Value.category]) (Nat.le_of_ble_eq_true rfl) ?_
  show mGM mX4_weeksToCome 0 [some (.ref b0)] [] (hp K x) (PI K Q)
  refine r_aload_n (pc := 0) dX4_weeksToCome_0 rfl ?_
  refine s_VI (pc := 1) mX4_isOver (ci := 4) (a := b0) (As := []) dX4_weeksToCome_1 lk_X4_64 in_X4_isOver mo_X4_isOver ⟨by decide, rfl⟩ ⟨by decide, by decide⟩ (Nat.le_of_ble_eq_true rfl) k_b0 (sp_X4_isOver k_b0 ?_)
  refine r_if_eq (pc := 4) (tgt := 11) dX4_weeksToCome_4 (by decide) (fun q => ?_) (fun q => ?_)
  · have q := (b2i_z _).mp q
    have K0 := K0.1 q
    refine r_aload_n (pc := 11) dX4_weeksToCome_11 rfl ?_
    refine s_getI (pc := 12) dX4_weeksToCome_12 fl_X4_15 rfl k_b0 ?_
    refine r_aload_n (pc := 15) dX4_weeksToCome_15 rfl ?_
    refine s_getI (pc := 16) dX4_weeksToCome_16 fl_X4_9 rfl k_b0 ?_
    refine r_iconst (pc := 19) (v := 1) dX4_weeksToCome_19 (by decide) ?_
    refine r_isub (pc := 20) dX4_weeksToCome_20 ?_
    refine s_SNI (pc := 21) mX7_spanBits (As := [.int (gi x b0 1), .int ((gi x b0 0) - 1)]) dX4_weeksToCome_21 nl_X4_68 st_X7_spanBits mo_X7_spanBits ⟨by decide, by decide⟩ (Nat.le_of_ble_eq_true rfl) (sp_X7_spanBits  ?_)
    exact s_iret rfl dX4_weeksToCome_24 K0
  · have q := b2i_nz q
    have K0 := K0.2 q
    refine r_iconst (pc := 7) (v := 0) dX4_weeksToCome_7 (by decide) ?_
    refine r_goto (pc := 8) (tgt := 24) dX4_weeksToCome_8 (by decide) ?_
    exact s_iret rfl dX4_weeksToCome_24 K0
section
variable {K : Sh} {x : Cn} {Q : Int32 → Cn → Prop} {b t n : Nat}
theorem sp_X4_weeksToCome (h1 : kk K b = some (4, 0)) (k : Q (f_wtc (gi x b 1) (gi x b 0)) x) : mSI mX4_weeksToCome [.ref b] K x Q :=
  v_X4_weeksToCome_0 h1 ⟨fun h => by unfold f_wtc at k; rwa [if_neg h] at k, fun h => by unfold f_wtc at k; rwa [if_pos h] at k⟩
end
set_option maxHeartbeats 2000000 in
theorem v_X7_isDay_0 {K : Sh} {x : Cn} {Q : Int32 → Cn → Prop} {b0 : Nat} {l1 : Int32} {b0_2 : Nat} (k_b0 : kk K b0 = some (7, 0)) (g_b0_2 : gr x b0 2 = some b0_2) (k_b0_2 : kk K b0_2 = some (4, 0)) (K0 : (¬ (0 < gi x b0_2 0) → (Q 0 x)) ∧ ((0 < gi x b0_2 0) → ((l1 < 0 → (Q 0 x)) ∧ (¬ l1 < 0 → ((7 ≤ l1 → (Q 0 x)) ∧ (¬ 7 ≤ l1 → (Q 1 x))))))) : mSI mX7_isDay [.ref b0, .int l1] K x Q := by
  refine s_I (by decide) (by simp [Value.category]) (Nat.le_of_ble_eq_true rfl) ?_
  show mGM mX7_isDay 0 [some (.ref b0), some (.int l1)] [] (hp K x) (PI K Q)
  refine r_aload_n (pc := 0) dX7_isDay_0 rfl ?_
  refine s_VI (pc := 1) mX7_hasText (ci := 7) (a := b0) (As := []) dX7_isDay_1 lk_X7_121 in_X7_hasText mo_X7_hasText ⟨by decide, rfl⟩ ⟨by decide, by decide⟩ (Nat.le_of_ble_eq_true rfl) k_b0 (sp_X7_hasText k_b0 g_b0_2 k_b0_2 ?_)
  refine r_if_eq (pc := 4) (tgt := 21) dX7_isDay_4 (by decide) (fun q => ?_) (fun q => ?_)
  · have q := (b2i_z _).mp q
    have K0 := K0.1 q
    refine r_iconst (pc := 21) (v := 0) dX7_isDay_21 (by decide) ?_
    exact s_zret rfl (by decide) dX7_isDay_22 K0
  · have q := b2i_nz q
    have K0 := K0.2 q
    refine r_iload_n (pc := 7) dX7_isDay_7 rfl ?_
    refine r_if_lt (pc := 8) (tgt := 21) dX7_isDay_8 (by decide) (fun q => ?_) (fun q => ?_)
    · have K0 := K0.1 q
      refine r_iconst (pc := 21) (v := 0) dX7_isDay_21 (by decide) ?_
      exact s_zret rfl (by decide) dX7_isDay_22 K0
    · have K0 := K0.2 q
      refine r_iload_n (pc := 11) dX7_isDay_11 rfl ?_
      refine r_bipush (pc := 12) (v := 7) dX7_isDay_12 (by decide) ?_
      refine r_icmp_ge (pc := 14) (tgt := 21) dX7_isDay_14 (by decide) (fun q => ?_) (fun q => ?_)
      · have K0 := K0.1 q
        refine r_iconst (pc := 21) (v := 0) dX7_isDay_21 (by decide) ?_
        exact s_zret rfl (by decide) dX7_isDay_22 K0
      · have K0 := K0.2 q
        refine r_iconst (pc := 17) (v := 1) dX7_isDay_17 (by decide) ?_
        refine r_goto (pc := 18) (tgt := 22) dX7_isDay_18 (by decide) ?_
        exact s_zret rfl (by decide) dX7_isDay_22 K0
section
variable {K : Sh} {x : Cn} {Q : Int32 → Cn → Prop} {b t n : Nat}
theorem sp_X7_isDay {l1 : Int32} (h1 : kk K b = some (7, 0)) (h2 : gr x b 2 = some t) (h3 : kk K t = some (4, 0)) (k : Q (b2i (0 < gi x t 0 ∧ 0 ≤ l1 ∧ l1 < 7)) x) : mSI mX7_isDay [.ref b, .int l1] K x Q :=
  v_X7_isDay_0 h1 h2 h3 ⟨fun h => (b2i_k k).2 (fun z => h z.1), fun h => ⟨fun g => (b2i_k k).2 (fun z => Int32.not_le.mpr g z.2.1), fun g => ⟨fun f => (b2i_k k).2 (fun z => Int32.not_lt.mpr f z.2.2), fun f => (b2i_k k).1 ⟨h, Int32.not_lt.mp g, Int32.not_le.mp f⟩⟩⟩⟩
end
set_option maxHeartbeats 2000000 in
theorem v_X7_isHour_0 {K : Sh} {x : Cn} {Q : Int32 → Cn → Prop} {b0 : Nat} {l1 : Int32} {b0_2 : Nat} (k_b0 : kk K b0 = some (7, 0)) (g_b0_2 : gr x b0 2 = some b0_2) (k_b0_2 : kk K b0_2 = some (4, 0)) (K0 : (¬ (0 < gi x b0_2 0) → (Q 0 x)) ∧ ((0 < gi x b0_2 0) → ((l1 < 0 → (Q 0 x)) ∧ (¬ l1 < 0 → ((24 ≤ l1 → (Q 0 x)) ∧ (¬ 24 ≤ l1 → (Q 1 x))))))) : mSI mX7_isHour [.ref b0, .int l1] K x Q := by
  refine s_I (by decide) (by simp [Value.category]) (Nat.le_of_ble_eq_true rfl) ?_
  show mGM mX7_isHour 0 [some (.ref b0), some (.int l1)] [] (hp K x) (PI K Q)
  refine r_aload_n (pc := 0) dX7_isHour_0 rfl ?_
  refine s_VI (pc := 1) mX7_hasText (ci := 7) (a := b0) (As := []) dX7_isHour_1 lk_X7_121 in_X7_hasText mo_X7_hasText ⟨by decide, rfl⟩ ⟨by decide, by decide⟩ (Nat.le_of_ble_eq_true rfl) k_b0 (sp_X7_hasText k_b0 g_b0_2 k_b0_2 ?_)
  refine r_if_eq (pc := 4) (tgt := 21) dX7_isHour_4 (by decide) (fun q => ?_) (fun q => ?_)
  · have q := (b2i_z _).mp q
    have K0 := K0.1 q
    refine r_iconst (pc := 21) (v := 0) dX7_isHour_21 (by decide) ?_
    exact s_zret rfl (by decide) dX7_isHour_22 K0
  · have q := b2i_nz q
    have K0 := K0.2 q
    refine r_iload_n (pc := 7) dX7_isHour_7 rfl ?_
    refine r_if_lt (pc := 8) (tgt := 21) dX7_isHour_8 (by decide) (fun q => ?_) (fun q => ?_)
    · have K0 := K0.1 q
      refine r_iconst (pc := 21) (v := 0) dX7_isHour_21 (by decide) ?_
      exact s_zret rfl (by decide) dX7_isHour_22 K0
    · have K0 := K0.2 q
      refine r_iload_n (pc := 11) dX7_isHour_11 rfl ?_
      refine r_bipush (pc := 12) (v := 24) dX7_isHour_12 (by decide) ?_
      refine r_icmp_ge (pc := 14) (tgt := 21) dX7_isHour_14 (by decide) (fun q => ?_) (fun q => ?_)
      · have K0 := K0.1 q
        refine r_iconst (pc := 21) (v := 0) dX7_isHour_21 (by decide) ?_
        exact s_zret rfl (by decide) dX7_isHour_22 K0
      · have K0 := K0.2 q
        refine r_iconst (pc := 17) (v := 1) dX7_isHour_17 (by decide) ?_
        refine r_goto (pc := 18) (tgt := 22) dX7_isHour_18 (by decide) ?_
        exact s_zret rfl (by decide) dX7_isHour_22 K0
section
variable {K : Sh} {x : Cn} {Q : Int32 → Cn → Prop} {b t n : Nat}
theorem sp_X7_isHour {l1 : Int32} (h1 : kk K b = some (7, 0)) (h2 : gr x b 2 = some t) (h3 : kk K t = some (4, 0)) (k : Q (b2i (0 < gi x t 0 ∧ 0 ≤ l1 ∧ l1 < 24)) x) : mSI mX7_isHour [.ref b, .int l1] K x Q :=
  v_X7_isHour_0 h1 h2 h3 ⟨fun h => (b2i_k k).2 (fun z => h z.1), fun h => ⟨fun g => (b2i_k k).2 (fun z => Int32.not_le.mpr g z.2.1), fun g => ⟨fun f => (b2i_k k).2 (fun z => Int32.not_lt.mpr f z.2.2), fun f => (b2i_k k).1 ⟨h, Int32.not_lt.mp g, Int32.not_le.mp f⟩⟩⟩⟩
end
set_option maxHeartbeats 2000000 in
theorem v_X7_isCell_0 {K : Sh} {x : Cn} {Q : Int32 → Cn → Prop} {b0 : Nat} {l1 : Int32} {l2 : Int32} {l3 : Int32} {b0_2 : Nat} (k_b0 : kk K b0 = some (7, 0)) (g_b0_2 : gr x b0 2 = some b0_2) (k_b0_2 : kk K b0_2 = some (4, 0)) (K0 : (¬ (0 ≤ l1 ∧ l1 < gi x b0_2 0) → (Q 0 x)) ∧ ((0 ≤ l1 ∧ l1 < gi x b0_2 0) → ((¬ (0 < gi x b0_2 0 ∧ 0 ≤ l2 ∧ l2 < 7) → (Q 0 x)) ∧ ((0 < gi x b0_2 0 ∧ 0 ≤ l2 ∧ l2 < 7) → ((¬ (0 < gi x b0_2 0 ∧ 0 ≤ l3 ∧ l3 < 24) → (Q 0 x)) ∧ ((0 < gi x b0_2 0 ∧ 0 ≤ l3 ∧ l3 < 24) → (Q 1 x))))))) : mSI mX7_isCell [.ref b0, .int l1, .int l2, .int l3] K x Q := by
  refine s_I (by decide) (by simp [Value.category]) (Nat.le_of_ble_eq_true rfl) ?_
  show mGM mX7_isCell 0 [some (.ref b0), some (.int l1), some (.int l2), some (.int l3)] [] (hp K x) (PI K Q)
  refine r_aload_n (pc := 0) dX7_isCell_0 rfl ?_
  refine r_iload_n (pc := 1) dX7_isCell_1 rfl ?_
  refine s_VI (pc := 2) mX7_isWeek (ci := 7) (a := b0) (As := [.int l1]) dX7_isCell_2 lk_X7_167 in_X7_isWeek mo_X7_isWeek ⟨by decide, rfl⟩ ⟨by decide, by decide⟩ (Nat.le_of_ble_eq_true rfl) k_b0 (sp_X7_isWeek k_b0 g_b0_2 k_b0_2 ?_)
  refine r_if_eq (pc := 5) (tgt := 28) dX7_isCell_5 (by decide) (fun q => ?_) (fun q => ?_)
  · have q := (b2i_z _).mp q
    have K0 := K0.1 q
    refine r_iconst (pc := 28) (v := 0) dX7_isCell_28 (by decide) ?_
    exact s_zret rfl (by decide) dX7_isCell_29 K0
  · have q := b2i_nz q
    have K0 := K0.2 q
    refine r_aload_n (pc := 8) dX7_isCell_8 rfl ?_
    refine r_iload_n (pc := 9) dX7_isCell_9 rfl ?_
    refine s_VI (pc := 10) mX7_isDay (ci := 7) (a := b0) (As := [.int l2]) dX7_isCell_10 lk_X7_245 in_X7_isDay mo_X7_isDay ⟨by decide, rfl⟩ ⟨by decide, by decide⟩ (Nat.le_of_ble_eq_true rfl) k_b0 (sp_X7_isDay k_b0 g_b0_2 k_b0_2 ?_)
    refine r_if_eq (pc := 13) (tgt := 28) dX7_isCell_13 (by decide) (fun q => ?_) (fun q => ?_)
    · have q := (b2i_z _).mp q
      have K0 := K0.1 q
      refine r_iconst (pc := 28) (v := 0) dX7_isCell_28 (by decide) ?_
      exact s_zret rfl (by decide) dX7_isCell_29 K0
    · have q := b2i_nz q
      have K0 := K0.2 q
      refine r_aload_n (pc := 16) dX7_isCell_16 rfl ?_
      refine r_iload_n (pc := 17) dX7_isCell_17 rfl ?_
      refine s_VI (pc := 18) mX7_isHour (ci := 7) (a := b0) (As := [.int l3]) dX7_isCell_18 lk_X7_195 in_X7_isHour mo_X7_isHour ⟨by decide, rfl⟩ ⟨by decide, by decide⟩ (Nat.le_of_ble_eq_true rfl) k_b0 (sp_X7_isHour k_b0 g_b0_2 k_b0_2 ?_)
      refine r_if_eq (pc := 21) (tgt := 28) dX7_isCell_21 (by decide) (fun q => ?_) (fun q => ?_)
      · have q := (b2i_z _).mp q
        have K0 := K0.1 q
        refine r_iconst (pc := 28) (v := 0) dX7_isCell_28 (by decide) ?_
        exact s_zret rfl (by decide) dX7_isCell_29 K0
      · have q := b2i_nz q
        have K0 := K0.2 q
        refine r_iconst (pc := 24) (v := 1) dX7_isCell_24 (by decide) ?_
        refine r_goto (pc := 25) (tgt := 29) dX7_isCell_25 (by decide) ?_
        exact s_zret rfl (by decide) dX7_isCell_29 K0
section
variable {K : Sh} {x : Cn} {Q : Int32 → Cn → Prop} {b t n : Nat}
theorem sp_X7_isCell {l1 l2 l3 : Int32} (h1 : kk K b = some (7, 0)) (h2 : gr x b 2 = some t) (h3 : kk K t = some (4, 0)) (k : Q (b2i (0 ≤ l1 ∧ l1 < gi x t 0 ∧ 0 < gi x t 0 ∧ 0 ≤ l2 ∧ l2 < 7 ∧ 0 ≤ l3 ∧ l3 < 24)) x) : mSI mX7_isCell [.ref b, .int l1, .int l2, .int l3] K x Q :=
  v_X7_isCell_0 h1 h2 h3 ⟨fun h => (b2i_k k).2 (fun z => h ⟨z.1, z.2.1⟩), fun h => ⟨fun g => (b2i_k k).2 (fun z => g ⟨z.2.2.1, z.2.2.2.1, z.2.2.2.2.1⟩), fun g => ⟨fun f => (b2i_k k).2 (fun z => f ⟨z.2.2.1, z.2.2.2.2.2⟩), fun f => (b2i_k k).1 ⟨h.1, h.2, g.1, g.2.1, g.2.2, f.2⟩⟩⟩⟩
end
end

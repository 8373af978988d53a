/-! 16.statics.lean.txt -/
section
set_option maxHeartbeats 2000000 in
theorem v_X7_isWithin_0 {K : Sh} {x : Cn} {Q : Int32 → Cn → Prop} {l0 : Int32} {l1 : Int32} {l2 : Int32}   (K0 : (l0 < l1 → (Q 0 x)) ∧ (¬ l0 < l1 → ((l2 < l0 → (Q 0 x)) ∧ (¬ l2 < l0 → (Q 1 x))))) : mSI mX7_isWithin [.int l0, .int l1, .int l2] K x Q := by
  refine s_I (by decide) (by simp [Value.category]) (Nat.le_of_ble_eq_true rfl) ?_
  show mGM mX7_isWithin 0 [some (.int l0), some (.int l1), some (.int l2)] [] (hp K x) (PI K Q)
  refine r_iload_n (pc := 0) dX7_isWithin_0 rfl ?_
  refine r_iload_n (pc := 1) dX7_isWithin_1 rfl ?_
  refine r_icmp_lt (pc := 2) (tgt := 14) dX7_isWithin_2 (by decide) (fun q => ?_) (fun q => ?_)
  · have K0 := K0.1 q
    refine r_iconst (pc := 14) (v := 0) dX7_isWithin_14 (by decide) ?_
    exact s_zret rfl (by decide) dX7_isWithin_15 K0
  · have K0 := K0.2 q
    refine r_iload_n (pc := 5) dX7_isWithin_5 rfl ?_
    refine r_iload_n (pc := 6) dX7_isWithin_6 rfl ?_
    refine r_icmp_gt (pc := 7) (tgt := 14) dX7_isWithin_7 (by decide) (fun q => ?_) (fun q => ?_)
    · have K0 := K0.1 q
      refine r_iconst (pc := 14) (v := 0) dX7_isWithin_14 (by decide) ?_
      exact s_zret rfl (by decide) dX7_isWithin_15 K0
    · have K0 := K0.2 q
      refine r_iconst (pc := 10) (v := 1) dX7_isWithin_10 (by decide) ?_
      refine r_goto (pc := 11) (tgt := 15) dX7_isWithin_11 (by decide) ?_
      exact s_zret rfl (by decide) dX7_isWithin_15 K0
set_option maxHeartbeats 2000000 in
theorem v_X7_isWay_0 {K : Sh} {x : Cn} {Q : Int32 → Cn → Prop} {l0 : Int32}   (K0 : (l0 = 0 → (Q 1 x)) ∧ (¬ l0 = 0 → ((¬ l0 = 1 → (Q 0 x)) ∧ (l0 = 1 → (Q 1 x))))) : mSI mX7_isWay [.int l0] K x Q := by
  refine s_I (by decide) (by simp [Value.category]) (Nat.le_of_ble_eq_true rfl) ?_
  show mGM mX7_isWay 0 [some (.int l0)] [] (hp K x) (PI K Q)
  refine r_iload_n (pc := 0) dX7_isWay_0 rfl ?_
  refine r_if_eq (pc := 1) (tgt := 9) dX7_isWay_1 (by decide) (fun q => ?_) (fun q => ?_)
  · have K0 := K0.1 q
    refine r_iconst (pc := 9) (v := 1) dX7_isWay_9 (by decide) ?_
    refine r_goto (pc := 10) (tgt := 14) dX7_isWay_10 (by decide) ?_
    exact s_zret rfl (by decide) dX7_isWay_14 K0
  · have K0 := K0.2 q
    refine r_iload_n (pc := 4) dX7_isWay_4 rfl ?_
    refine r_iconst (pc := 5) (v := 1) dX7_isWay_5 (by decide) ?_
    refine r_icmp_ne (pc := 6) (tgt := 13) dX7_isWay_6 (by decide) (fun q => ?_) (fun q => ?_)
    · have K0 := K0.1 q
      refine r_iconst (pc := 13) (v := 0) dX7_isWay_13 (by decide) ?_
      exact s_zret rfl (by decide) dX7_isWay_14 K0
    · have K0 := K0.2 q
      refine r_iconst (pc := 9) (v := 1) dX7_isWay_9 (by decide) ?_
      refine r_goto (pc := 10) (tgt := 14) dX7_isWay_10 (by decide) ?_
      exact s_zret rfl (by decide) dX7_isWay_14 K0
set_option maxHeartbeats 2000000 in
theorem v_X7_isState_0 {K : Sh} {x : Cn} {Q : Int32 → Cn → Prop} {l0 : Int32}   (K0 : (l0 < 0 → (Q 0 x)) ∧ (¬ l0 < 0 → ((4 < l0 → (Q 0 x)) ∧ (¬ 4 < l0 → (Q 1 x))))) : mSI mX7_isState [.int l0] K x Q := by
  refine s_I (by decide) (by simp [Value.category]) (Nat.le_of_ble_eq_true rfl) ?_
  show mGM mX7_isState 0 [some (.int l0)] [] (hp K x) (PI K Q)
  refine r_iload_n (pc := 0) dX7_isState_0 rfl ?_
  refine r_if_lt (pc := 1) (tgt := 13) dX7_isState_1 (by decide) (fun q => ?_) (fun q => ?_)
  · have K0 := K0.1 q
    refine r_iconst (pc := 13) (v := 0) dX7_isState_13 (by decide) ?_
    exact s_zret rfl (by decide) dX7_isState_14 K0
  · have K0 := K0.2 q
    refine r_iload_n (pc := 4) dX7_isState_4 rfl ?_
    refine r_iconst (pc := 5) (v := 4) dX7_isState_5 (by decide) ?_
    refine r_icmp_gt (pc := 6) (tgt := 13) dX7_isState_6 (by decide) (fun q => ?_) (fun q => ?_)
    · have K0 := K0.1 q
      refine r_iconst (pc := 13) (v := 0) dX7_isState_13 (by decide) ?_
      exact s_zret rfl (by decide) dX7_isState_14 K0
    · have K0 := K0.2 q
      refine r_iconst (pc := 9) (v := 1) dX7_isState_9 (by decide) ?_
      refine r_goto (pc := 10) (tgt := 14) dX7_isState_10 (by decide) ?_
      exact s_zret rfl (by decide) dX7_isState_14 K0
set_option maxHeartbeats 2000000 in
theorem v_X7_isLetter_0 {K : Sh} {x : Cn} {Q : Int32 → Cn → Prop} {l0 : Int32}   (K0 : (l0 < 97 → (Q 0 x)) ∧ (¬ l0 < 97 → ((122 < l0 → (Q 0 x)) ∧ (¬ 122 < l0 → (Q 1 x))))) : mSI mX7_isLetter [.int l0] K x Q := by
  refine s_I (by decide) (by simp [Value.category]) (Nat.le_of_ble_eq_true rfl) ?_
  show mGM mX7_isLetter 0 [some (.int l0)] [] (hp K x) (PI K Q)
  refine r_iload_n (pc := 0) dX7_isLetter_0 rfl ?_
  refine r_bipush (pc := 1) (v := 97) dX7_isLetter_1 (by decide) ?_
  refine r_icmp_lt (pc := 3) (tgt := 16) dX7_isLetter_3 (by decide) (fun q => ?_) (fun q => ?_)
  · have K0 := K0.1 q
    refine r_iconst (pc := 16) (v := 0) dX7_isLetter_16 (by decide) ?_
    exact s_zret rfl (by decide) dX7_isLetter_17 K0
  · have K0 := K0.2 q
    refine r_iload_n (pc := 6) dX7_isLetter_6 rfl ?_
    refine r_bipush (pc := 7) (v := 122) dX7_isLetter_7 (by decide) ?_
    refine r_icmp_gt (pc := 9) (tgt := 16) dX7_isLetter_9 (by decide) (fun q => ?_) (fun q => ?_)
    · have K0 := K0.1 q
      refine r_iconst (pc := 16) (v := 0) dX7_isLetter_16 (by decide) ?_
      exact s_zret rfl (by decide) dX7_isLetter_17 K0
    · have K0 := K0.2 q
      refine r_iconst (pc := 12) (v := 1) dX7_isLetter_12 (by decide) ?_
      refine r_goto (pc := 13) (tgt := 17) dX7_isLetter_13 (by decide) ?_
      exact s_zret rfl (by decide) dX7_isLetter_17 K0
set_option maxHeartbeats 2000000 in
theorem v_X7_isDigit_0 {K : Sh} {x : Cn} {Q : Int32 → Cn → Prop} {l0 : Int32}   (K0 : (l0 < 48 → (Q 0 x)) ∧ (¬ l0 < 48 → ((57 < l0 → (Q 0 x)) ∧ (¬ 57 < l0 → (Q 1 x))))) : mSI mX7_isDigit [.int l0] K x Q := by
  refine s_I (by decide) (by simp [Value.category]) (Nat.le_of_ble_eq_true rfl) ?_
  show mGM mX7_isDigit 0 [some (.int l0)] [] (hp K x) (PI K Q)
  refine r_iload_n (pc := 0) dX7_isDigit_0 rfl ?_
  refine r_bipush (pc := 1) (v := 48) dX7_isDigit_1 (by decide) ?_
  refine r_icmp_lt (pc := 3) (tgt := 16) dX7_isDigit_3 (by decide) (fun q => ?_) (fun q => ?_)
  · have K0 := K0.1 q
    refine r_iconst (pc := 16) (v := 0) dX7_isDigit_16 (by decide) ?_
    exact s_zret rfl (by decide) dX7_isDigit_17 K0
  · have K0 := K0.2 q
    refine r_iload_n (pc := 6) dX7_isDigit_6 rfl ?_
    refine r_bipush (pc := 7) (v := 57) dX7_isDigit_7 (by decide) ?_
    refine r_icmp_gt (pc := 9) (tgt := 16) dX7_isDigit_9 (by decide) (fun q => ?_) (fun q => ?_)
    · have K0 := K0.1 q
      refine r_iconst (pc := 16) (v := 0) dX7_isDigit_16 (by decide) ?_
      exact s_zret rfl (by decide) dX7_isDigit_17 K0
    · have K0 := K0.2 q
      refine r_iconst (pc := 12) (v := 1) dX7_isDigit_12 (by decide) ?_
      refine r_goto (pc := 13) (tgt := 17) dX7_isDigit_13 (by decide) ?_
      exact s_zret rfl (by decide) dX7_isDigit_17 K0
set_option maxHeartbeats 2000000 in
theorem v_X7_hasBit_0 {K : Sh} {x : Cn} {Q : Int32 → Cn → Prop} {l0 : Int32} {l1 : Int32}   (K0 : ((((l0 : Int32).toUInt32 >>> ((l1 : Int32).toUInt32 &&& Int32.toUInt32 31)).toInt32 &&& 1) = 0 → (Q 0 x)) ∧ (¬ (((l0 : Int32).toUInt32 >>> ((l1 : Int32).toUInt32 &&& Int32.toUInt32 31)).toInt32 &&& 1) = 0 → (Q 1 x))) : mSI mX7_hasBit [.int l0, .int l1] K x Q := by
  refine s_I (by decide) (by simp [Value.category]) (Nat.le_of_ble_eq_true rfl) ?_
  show mGM mX7_hasBit 0 [some (.int l0), some (.int l1)] [] (hp K x) (PI K Q)
  refine r_iload_n (pc := 0) dX7_hasBit_0 rfl ?_
  refine r_iload_n (pc := 1) dX7_hasBit_1 rfl ?_
  refine r_iushr (pc := 2) dX7_hasBit_2 ?_
  refine r_iconst (pc := 3) (v := 1) dX7_hasBit_3 (by decide) ?_
  refine r_iand (pc := 4) dX7_hasBit_4 ?_
  refine r_if_eq (pc := 5) (tgt := 12) dX7_hasBit_5 (by decide) (fun q => ?_) (fun q => ?_)
  · have K0 := K0.1 q
    refine r_iconst (pc := 12) (v := 0) dX7_hasBit_12 (by decide) ?_
    exact s_zret rfl (by decide) dX7_hasBit_13 K0
  · have K0 := K0.2 q
    refine r_iconst (pc := 8) (v := 1) dX7_hasBit_8 (by decide) ?_
    refine r_goto (pc := 9) (tgt := 13) dX7_hasBit_9 (by decide) ?_
    exact s_zret rfl (by decide) dX7_hasBit_13 K0
set_option maxHeartbeats 2000000 in
theorem v_X7_spanBits_0 {K : Sh} {x : Cn} {Q : Int32 → Cn → Prop} {l0 : Int32} {l1 : Int32}   (K0 : Q (((1 <<< (((l1 - l0) + 1) &&& 31)) - 1) <<< (l0 &&& 31)) x) : mSI mX7_spanBits [.int l0, .int l1] K x Q := by
  refine s_I (by decide) (by simp [Value.category]) (Nat.le_of_ble_eq_true rfl) ?_
  show mGM mX7_spanBits 0 [some (.int l0), some (.int l1)] [] (hp K x) (PI K Q)
  refine r_iconst (pc := 0) (v := 1) dX7_spanBits_0 (by decide) ?_
  refine r_iload_n (pc := 1) dX7_spanBits_1 rfl ?_
  refine r_iload_n (pc := 2) dX7_spanBits_2 rfl ?_
  refine r_isub (pc := 3) dX7_spanBits_3 ?_
  refine r_iconst (pc := 4) (v := 1) dX7_spanBits_4 (by decide) ?_
  refine r_iadd (pc := 5) dX7_spanBits_5 ?_
  refine r_ishl (pc := 6) dX7_spanBits_6 ?_
  refine r_iconst (pc := 7) (v := 1) dX7_spanBits_7 (by decide) ?_
  refine r_isub (pc := 8) dX7_spanBits_8 ?_
  refine r_iload_n (pc := 9) dX7_spanBits_9 rfl ?_
  refine r_ishl (pc := 10) dX7_spanBits_10 ?_
  exact s_iret rfl dX7_spanBits_11 K0
set_option maxHeartbeats 2000000 in
theorem v_X7_bitsFrom_0 {K : Sh} {x : Cn} {Q : Int32 → Cn → Prop} {l0 : Int32}   (K0 : (l0 ≤ 30 → (Q ((-1) <<< (l0 &&& 31)) x)) ∧ (¬ l0 ≤ 30 → (Q 0 x))) : mSI mX7_bitsFrom [.int l0] K x Q := by
  refine s_I (by decide) (by simp [Value.category]) (Nat.le_of_ble_eq_true rfl) ?_
  show mGM mX7_bitsFrom 0 [some (.int l0)] [] (hp K x) (PI K Q)
  refine r_iload_n (pc := 0) dX7_bitsFrom_0 rfl ?_
  refine r_bipush (pc := 1) (v := 30) dX7_bitsFrom_1 (by decide) ?_
  refine r_icmp_le (pc := 3) (tgt := 10) dX7_bitsFrom_3 (by decide) (fun q => ?_) (fun q => ?_)
  · have K0 := K0.1 q
    refine r_iconst (pc := 10) (v := (-1)) dX7_bitsFrom_10 (by decide) ?_
    refine r_iload_n (pc := 11) dX7_bitsFrom_11 rfl ?_
    refine r_ishl (pc := 12) dX7_bitsFrom_12 ?_
    exact s_iret rfl dX7_bitsFrom_13 K0
  · have K0 := K0.2 q
    refine r_iconst (pc := 6) (v := 0) dX7_bitsFrom_6 (by decide) ?_
    refine r_goto (pc := 7) (tgt := 13) dX7_bitsFrom_7 (by decide) ?_
    exact s_iret rfl dX7_bitsFrom_13 K0
set_option maxHeartbeats 2000000 in
theorem v_J6_bitCount_0f7a4_0 {K : Sh} {x : Cn} {Q : Int32 → Cn → Prop} {l0 : Int32}   (K0 : ∀ r_1 : Int32, r_1 = (l0 - (((l0 : Int32).toUInt32 >>> ((1 : Int32).toUInt32 &&& Int32.toUInt32 31)).toInt32 &&& 1431655765)) → (∀ r_3 : Int32, r_3 = ((r_1 &&& 858993459) + (((r_1 : Int32).toUInt32 >>> ((2 : Int32).toUInt32 &&& Int32.toUInt32 31)).toInt32 &&& 858993459)) → (∀ r_5 : Int32, r_5 = ((r_3 + ((r_3 : Int32).toUInt32 >>> ((4 : Int32).toUInt32 &&& Int32.toUInt32 31)).toInt32) &&& 252645135) → (∀ r_7 : Int32, r_7 = (r_5 + ((r_5 : Int32).toUInt32 >>> ((8 : Int32).toUInt32 &&& Int32.toUInt32 31)).toInt32) → (∀ r_9 : Int32, r_9 = (r_7 + ((r_7 : Int32).toUInt32 >>> ((16 : Int32).toUInt32 &&& Int32.toUInt32 31)).toInt32) → (Q (r_9 &&& 63) x)))))) : mSI mJ6_bitCount_0f7a4 [.int l0] K x Q := by
  refine s_I (by decide) (by simp [Value.category]) (Nat.le_of_ble_eq_true rfl) ?_
  show mGM mJ6_bitCount_0f7a4 0 [some (.int l0)] [] (hp K x) (PI K Q)
  refine r_iload_n (pc := 0) dJ6_bitCount_0f7a4_0 rfl ?_
  refine r_iload_n (pc := 1) dJ6_bitCount_0f7a4_1 rfl ?_
  refine r_iconst (pc := 2) (v := 1) dJ6_bitCount_0f7a4_2 (by decide) ?_
  refine r_iushr (pc := 3) dJ6_bitCount_0f7a4_3 ?_
  refine r_ldcw (pc := 4) (v := 1431655765) dJ6_bitCount_0f7a4_4 cn_J6_265 ?_
  refine r_iand (pc := 7) dJ6_bitCount_0f7a4_7 ?_
  refine r_isub (pc := 8) dJ6_bitCount_0f7a4_8 ?_
  obtain ⟨r_1, w_2⟩ : ∃ z : Int32, z = (l0 - (((l0 : Int32).toUInt32 >>> ((1 : Int32).toUInt32 &&& Int32.toUInt32 31)).toInt32 &&& 1431655765)) := ⟨_, rfl⟩
  rw [← w_2]
  have K0 := K0 r_1 w_2
  refine r_istore_n (pc := 9) dJ6_bitCount_0f7a4_9 (by decide) ?_
  refine r_iload_n (pc := 10) (L := [some (.int r_1)]) dJ6_bitCount_0f7a4_10 rfl ?_
  refine r_ldcw (pc := 11) (v := 858993459) dJ6_bitCount_0f7a4_11 cn_J6_266 ?_
  refine r_iand (pc := 14) dJ6_bitCount_0f7a4_14 ?_
  refine r_iload_n (pc := 15) dJ6_bitCount_0f7a4_15 rfl ?_
  refine r_iconst (pc := 16) (v := 2) dJ6_bitCount_0f7a4_16 (by decide) ?_
  refine r_iushr (pc := 17) dJ6_bitCount_0f7a4_17 ?_
  refine r_ldcw (pc := 18) (v := 858993459) dJ6_bitCount_0f7a4_18 cn_J6_266 ?_
  refine r_iand (pc := 21) dJ6_bitCount_0f7a4_21 ?_
  refine r_iadd (pc := 22) dJ6_bitCount_0f7a4_22 ?_
  obtain ⟨r_3, w_4⟩ : ∃ z : Int32, z = ((r_1 &&& 858993459) + (((r_1 : Int32).toUInt32 >>> ((2 : Int32).toUInt32 &&& Int32.toUInt32 31)).toInt32 &&& 858993459)) := ⟨_, rfl⟩
  rw [← w_4]
  have K0 := K0 r_3 w_4
  refine r_istore_n (pc := 23) dJ6_bitCount_0f7a4_23 (by decide) ?_
  refine r_iload_n (pc := 24) (L := [some (.int r_3)]) dJ6_bitCount_0f7a4_24 rfl ?_
  refine r_iload_n (pc := 25) dJ6_bitCount_0f7a4_25 rfl ?_
  refine r_iconst (pc := 26) (v := 4) dJ6_bitCount_0f7a4_26 (by decide) ?_
  refine r_iushr (pc := 27) dJ6_bitCount_0f7a4_27 ?_
  refine r_iadd (pc := 28) dJ6_bitCount_0f7a4_28 ?_
  refine r_ldcw (pc := 29) (v := 252645135) dJ6_bitCount_0f7a4_29 cn_J6_267 ?_
  refine r_iand (pc := 32) dJ6_bitCount_0f7a4_32 ?_
  obtain ⟨r_5, w_6⟩ : ∃ z : Int32, z = ((r_3 + ((r_3 : Int32).toUInt32 >>> ((4 : Int32).toUInt32 &&& Int32.toUInt32 31)).toInt32) &&& 252645135) := ⟨_, rfl⟩
  rw [← w_6]
  have K0 := K0 r_5 w_6
  refine r_istore_n (pc := 33) dJ6_bitCount_0f7a4_33 (by decide) ?_
  refine r_iload_n (pc := 34) (L := [some (.int r_5)]) dJ6_bitCount_0f7a4_34 rfl ?_
  refine r_iload_n (pc := 35) dJ6_bitCount_0f7a4_35 rfl ?_
  refine r_bipush (pc := 36) (v := 8) dJ6_bitCount_0f7a4_36 (by decide) ?_
  refine r_iushr (pc := 38) dJ6_bitCount_0f7a4_38 ?_
  refine r_iadd (pc := 39) dJ6_bitCount_0f7a4_39 ?_
  obtain ⟨r_7, w_8⟩ : ∃ z : Int32, z = (r_5 + ((r_5 : Int32).toUInt32 >>> ((8 : Int32).toUInt32 &&& Int32.toUInt32 31)).toInt32) := ⟨_, rfl⟩
  rw [← w_8]
  have K0 := K0 r_7 w_8
  refine r_istore_n (pc := 40) dJ6_bitCount_0f7a4_40 (by decide) ?_
  refine r_iload_n (pc := 41) (L := [some (.int r_7)]) dJ6_bitCount_0f7a4_41 rfl ?_
  refine r_iload_n (pc := 42) dJ6_bitCount_0f7a4_42 rfl ?_
  refine r_bipush (pc := 43) (v := 16) dJ6_bitCount_0f7a4_43 (by decide) ?_
  refine r_iushr (pc := 45) dJ6_bitCount_0f7a4_45 ?_
  refine r_iadd (pc := 46) dJ6_bitCount_0f7a4_46 ?_
  obtain ⟨r_9, w_10⟩ : ∃ z : Int32, z = (r_7 + ((r_7 : Int32).toUInt32 >>> ((16 : Int32).toUInt32 &&& Int32.toUInt32 31)).toInt32) := ⟨_, rfl⟩
  rw [← w_10]
  have K0 := K0 r_9 w_10
  refine r_istore_n (pc := 47) dJ6_bitCount_0f7a4_47 (by decide) ?_
  refine r_iload_n (pc := 48) (L := [some (.int r_9)]) dJ6_bitCount_0f7a4_48 rfl ?_
  refine r_bipush (pc := 49) (v := 63) dJ6_bitCount_0f7a4_49 (by decide) ?_
  refine r_iand (pc := 51) dJ6_bitCount_0f7a4_51 ?_
  exact s_iret rfl dJ6_bitCount_0f7a4_52 K0
set_option maxHeartbeats 2000000 in
theorem v_X8_has_0 {K : Sh} {x : Cn} {Q : Int32 → Cn → Prop} {l0 : Int32} {l1 : Int32}   (K0 : (¬ ((l0 >>> (l1 &&& 31)) &&& 1) = 1 → (Q 0 x)) ∧ (((l0 >>> (l1 &&& 31)) &&& 1) = 1 → (Q 1 x))) : mSI mX8_has [.int l0, .int l1] K x Q := by
  refine s_I (by decide) (by simp [Value.category]) (Nat.le_of_ble_eq_true rfl) ?_
  show mGM mX8_has 0 [some (.int l0), some (.int l1)] [] (hp K x) (PI K Q)
  refine r_iload_n (pc := 0) dX8_has_0 rfl ?_
  refine r_iload_n (pc := 1) dX8_has_1 rfl ?_
  refine r_ishr (pc := 2) dX8_has_2 ?_
  refine r_iconst (pc := 3) (v := 1) dX8_has_3 (by decide) ?_
  refine r_iand (pc := 4) dX8_has_4 ?_
  refine r_iconst (pc := 5) (v := 1) dX8_has_5 (by decide) ?_
  refine r_icmp_ne (pc := 6) (tgt := 13) dX8_has_6 (by decide) (fun q => ?_) (fun q => ?_)
  · have K0 := K0.1 q
    refine r_iconst (pc := 13) (v := 0) dX8_has_13 (by decide) ?_
    exact s_zret rfl (by decide) dX8_has_14 K0
  · have K0 := K0.2 q
    refine r_iconst (pc := 9) (v := 1) dX8_has_9 (by decide) ?_
    refine r_goto (pc := 10) (tgt := 14) dX8_has_10 (by decide) ?_
    exact s_zret rfl (by decide) dX8_has_14 K0
set_option maxHeartbeats 2000000 in
theorem v_X8_span_0 {K : Sh} {x : Cn} {Q : Int32 → Cn → Prop} {l0 : Int32} {l1 : Int32}   (K0 : (l0 ≤ l1 → (Q (((((1 : Int64) <<< (((l1 + 1) : Int32).toInt64 &&& 63)) - ((1 : Int64) <<< ((l0 : Int32).toInt64 &&& 63))) : Int64).toInt32) x)) ∧ (¬ l0 ≤ l1 → (Q 0 x))) : mSI mX8_span [.int l0, .int l1] K x Q := by
  refine s_I (by decide) (by simp [Value.category]) (Nat.le_of_ble_eq_true rfl) ?_
  show mGM mX8_span 0 [some (.int l0), some (.int l1)] [] (hp K x) (PI K Q)
  refine r_iload_n (pc := 0) dX8_span_0 rfl ?_
  refine r_iload_n (pc := 1) dX8_span_1 rfl ?_
  refine r_icmp_le (pc := 2) (tgt := 9) dX8_span_2 (by decide) (fun q => ?_) (fun q => ?_)
  · have K0 := K0.1 q
    refine r_lconst (pc := 9) (v := 1) dX8_span_9 (by decide) ?_
    refine r_iload_n (pc := 10) dX8_span_10 rfl ?_
    refine r_iconst (pc := 11) (v := 1) dX8_span_11 (by decide) ?_
    refine r_iadd (pc := 12) dX8_span_12 ?_
    refine r_lshl (pc := 13) dX8_span_13 ?_
    refine r_lconst (pc := 14) (v := 1) dX8_span_14 (by decide) ?_
    refine r_iload_n (pc := 15) dX8_span_15 rfl ?_
    refine r_lshl (pc := 16) dX8_span_16 ?_
    refine r_lsub (pc := 17) dX8_span_17 ?_
    refine r_l2i (pc := 18) dX8_span_18 ?_
    exact s_iret rfl dX8_span_19 K0
  · have K0 := K0.2 q
    refine r_iconst (pc := 5) (v := 0) dX8_span_5 (by decide) ?_
    refine r_goto (pc := 6) (tgt := 19) dX8_span_6 (by decide) ?_
    exact s_iret rfl dX8_span_19 K0
set_option maxHeartbeats 2000000 in
theorem v_X8_bits_0 {K : Sh} {x : Cn} {Q : Int32 → Cn → Prop} {l0 : Int32}   (K0 : GI mX8_bits 4 [some (.int l0), some (.int 0), some (.int l0)] [] K x Q) : mSI mX8_bits [.int l0] K x Q := by
  refine s_I (by decide) (by simp [Value.category]) (Nat.le_of_ble_eq_true rfl) ?_
  show mGM mX8_bits 0 [some (.int l0), none, none] [] (hp K x) (PI K Q)
  refine r_iconst (pc := 0) (v := 0) dX8_bits_0 (by decide) ?_
  refine r_istore_n (pc := 1) dX8_bits_1 (by decide) ?_
  refine r_iload_n (pc := 2) (L := [some (.int l0), some (.int 0), none]) dX8_bits_2 rfl ?_
  refine r_istore_n (pc := 3) dX8_bits_3 (by decide) ?_
  exact r_le (L' := [some (.int l0), some (.int 0), some (.int l0)]) ⟨rfl, ⟨rfl, ⟨rfl, trivial⟩⟩⟩ K0
set_option maxHeartbeats 2000000 in
theorem v_X8_bits_4 {K : Sh} {x : Cn} {Q : Int32 → Cn → Prop} {l0 : Int32} {l1 : Int32} {l2 : Int32}   (K0 : (l2 = 0 → (Q l1 x)) ∧ (¬ l2 = 0 → (GI mX8_bits 4 [some (.int l0), some (.int (l1 + 1)), some (.int (l2 &&& (l2 - 1)))] [] K x Q))) : GI mX8_bits 4 [some (.int l0), some (.int l1), some (.int l2)] [] K x Q := by
  show mGM mX8_bits 4 [some (.int l0), some (.int l1), some (.int l2)] [] (hp K x) (PI K Q)
  refine r_iload_n (pc := 4) dX8_bits_4 rfl ?_
  refine r_if_eq (pc := 5) (tgt := 20) dX8_bits_5 (by decide) (fun q => ?_) (fun q => ?_)
  · have K0 := K0.1 q
    refine r_iload_n (pc := 20) dX8_bits_20 rfl ?_
    exact s_iret rfl dX8_bits_21 K0
  · have K0 := K0.2 q
    refine r_iinc (pc := 8) (v := l1 + 1) dX8_bits_8 rfl rfl (by decide) ?_
    refine r_iload_n (pc := 11) (L := [some (.int l0), some (.int (l1 + 1)), some (.int l2)]) dX8_bits_11 rfl ?_
    refine r_iload_n (pc := 12) dX8_bits_12 rfl ?_
    refine r_iconst (pc := 13) (v := 1) dX8_bits_13 (by decide) ?_
    refine r_isub (pc := 14) dX8_bits_14 ?_
    refine r_iand (pc := 15) dX8_bits_15 ?_
    refine r_istore_n (pc := 16) dX8_bits_16 (by decide) ?_
    refine r_goto (pc := 17) (L := [some (.int l0), some (.int (l1 + 1)), some (.int (l2 &&& (l2 - 1)))]) (tgt := 4) dX8_bits_17 (by decide) ?_
    exact r_le (L' := [some (.int l0), some (.int (l1 + 1)), some (.int (l2 &&& (l2 - 1)))]) ⟨rfl, ⟨rfl, ⟨rfl, trivial⟩⟩⟩ K0
end
/-! 17.sp1.lean.txt -/
section
/-! small methods of numbers alone: their answers as terms -/
theorem b2i_nz {c : Prop} [Decidable c] (h : ¬ b2i c = 0) : c := by
  by_cases q : c
  · exact q
  · exact absurd (b2i_f q) h
abbrev f_bit (v i : Int32) : Prop := ¬ (((v : Int32).toUInt32 >>> ((i : Int32).toUInt32 &&& Int32.toUInt32 31)).toInt32 &&& 1) = 0
def f_sb (a b : Int32) : Int32 := (((1 <<< (((b - a) + 1) &&& 31)) - 1) <<< (a &&& 31))
def f_bf (w : Int32) : Int32 := if w ≤ 30 then ((-1) <<< (w &&& 31)) else 0
def f_sh (v i : Int32) : Int32 := ((v : Int32).toUInt32 >>> ((i : Int32).toUInt32 &&& Int32.toUInt32 31)).toInt32
def f_b1 (v : Int32) : Int32 := (v - (f_sh v 1 &&& 1431655765))
def f_b2 (v : Int32) : Int32 := ((v &&& 858993459) + (f_sh v 2 &&& 858993459))
def f_b3 (v : Int32) : Int32 := ((v + f_sh v 4) &&& 252645135)
def f_b4 (v : Int32) : Int32 := (v + f_sh v 8)
def f_b5 (v : Int32) : Int32 := (v + f_sh v 16)
def f_bc (v : Int32) : Int32 := f_b5 (f_b4 (f_b3 (f_b2 (f_b1 v)))) &&& 63
abbrev f_has (v i : Int32) : Prop := ((v >>> (i &&& 31)) &&& 1) = 1
def f_span (a b : Int32) : Int32 := if a ≤ b then (((((1 : Int64) <<< (((b + 1) : Int32).toInt64 &&& 63)) - ((1 : Int64) <<< ((a : Int32).toInt64 &&& 63))) : Int64).toInt32) else 0
section SP1
variable {K : Sh} {x : Cn} {Q : Int32 → Cn → Prop}
theorem sp_X7_isWithin {a b c : Int32} (k : Q (b2i (b ≤ a ∧ a ≤ c)) x) : mSI mX7_isWithin [.int a, .int b, .int c] K x Q := by
  refine v_X7_isWithin_0 ⟨fun h => ?_, fun h => ⟨fun h' => ?_, fun h' => ?_⟩⟩
  · rwa [b2i_f (fun z => Int32.not_le.mpr h z.1)] at k
  · rwa [b2i_f (fun z => Int32.not_le.mpr h' z.2)] at k
  · rwa [b2i_t ⟨Int32.not_lt.mp h, Int32.not_lt.mp h'⟩] at k
theorem sp_X7_isState {a : Int32} (k : Q (b2i (0 ≤ a ∧ a ≤ 4)) x) : mSI mX7_isState [.int a] K x Q := by
  refine v_X7_isState_0 ⟨fun h => ?_, fun h => ⟨fun h' => ?_, fun h' => ?_⟩⟩
  · rwa [b2i_f (fun z => Int32.not_le.mpr h z.1)] at k
  · rwa [b2i_f (fun z => Int32.not_le.mpr h' z.2)] at k
  · rwa [b2i_t ⟨Int32.not_lt.mp h, Int32.not_lt.mp h'⟩] at k
theorem sp_X7_isLetter {a : Int32} (k : Q (b2i (97 ≤ a ∧ a ≤ 122)) x) : mSI mX7_isLetter [.int a] K x Q := by
  refine v_X7_isLetter_0 ⟨fun h => ?_, fun h => ⟨fun h' => ?_, fun h' => ?_⟩⟩
  · rwa [b2i_f (fun z => Int32.not_le.mpr h z.1)] at k
  · rwa [b2i_f (fun z => Int32.not_le.mpr h' z.2)] at k
  · rwa [b2i_t ⟨Int32.not_lt.mp h, Int32.not_lt.mp h'⟩] at k
theorem sp_X7_isDigit {a : Int32} (k : Q (b2i (48 ≤ a ∧ a ≤ 57)) x) : mSI mX7_isDigit [.int a] K x Q := by
  refine v_X7_isDigit_0 ⟨fun h => ?_, fun h => ⟨fun h' => ?_, fun h' => ?_⟩⟩
  · rwa [b2i_f (fun z => Int32.not_le.mpr h z.1)] at k
  · rwa [b2i_f (fun z => Int32.not_le.mpr h' z.2)] at k
  · rwa [b2i_t ⟨Int32.not_lt.mp h, Int32.not_lt.mp h'⟩] at k
theorem sp_X7_isWay {a : Int32} (k : Q (b2i (a = 0 ∨ a = 1)) x) : mSI mX7_isWay [.int a] K x Q := by
  refine v_X7_isWay_0 ⟨fun h => ?_, fun h => ⟨fun h' => ?_, fun h' => ?_⟩⟩
  · rwa [b2i_t (Or.inl h)] at k
  · rwa [b2i_f (fun z => z.elim h h')] at k
  · rwa [b2i_t (Or.inr h')] at k
theorem sp_X7_hasBit {a b : Int32} (k : Q (b2i (f_bit a b)) x) : mSI mX7_hasBit [.int a, .int b] K x Q := by
  refine v_X7_hasBit_0 ⟨fun h => ?_, fun h => ?_⟩
  · rwa [b2i_f (fun z => z h)] at k
  · rwa [b2i_t h] at k
theorem sp_X7_spanBits {a b : Int32} (k : Q (f_sb a b) x) : mSI mX7_spanBits [.int a, .int b] K x Q := v_X7_spanBits_0 k
theorem sp_X7_bitsFrom {a : Int32} (k : Q (f_bf a) x) : mSI mX7_bitsFrom [.int a] K x Q := by
  refine v_X7_bitsFrom_0 ⟨fun h => ?_, fun h => ?_⟩
  · unfold f_bf at k
    rwa [if_pos h] at k
  · unfold f_bf at k
    rwa [if_neg h] at k
theorem sp_J6_bitCount_0f7a4 {a : Int32} (k : Q (f_bc a) x) : mSI mJ6_bitCount_0f7a4 [.int a] K x Q := by
  refine v_J6_bitCount_0f7a4_0 (fun r1 h1 r2 h2 r3 h3 r4 h4 r5 h5 => ?_)
  have e : r5 = f_b5 (f_b4 (f_b3 (f_b2 (f_b1 a)))) := by
    rw [h5, h4, h3, h2, h1]
    rfl
  rw [e]
  exact k
theorem sp_X8_has {a b : Int32} (k : Q (b2i (f_has a b)) x) : mSI mX8_has [.int a, .int b] K x Q := by
  refine v_X8_has_0 ⟨fun h => ?_, fun h => ?_⟩
  · rwa [b2i_f h] at k
  · rwa [b2i_t h] at k
theorem sp_X8_span {a b : Int32} (k : Q (f_span a b) x) : mSI mX8_span [.int a, .int b] K x Q := by
  refine v_X8_span_0 ⟨fun h => ?_, fun h => ?_⟩
  · unfold f_span at k
    rwa [if_pos h] at k
  · unfold f_span at k
    rwa [if_neg h] at k
theorem le64 {a b : Int32} : a.toInt64 ≤ b.toInt64 ↔ a ≤ b := by
  rw [Int64.le_iff_toInt_le, Int32.le_iff_toInt_le, Int32.toInt_toInt64, Int32.toInt_toInt64]
theorem lt64 {a b : Int32} : a.toInt64 < b.toInt64 ↔ a < b := by
  rw [Int64.lt_iff_toInt_lt, Int32.lt_iff_toInt_lt, Int32.toInt_toInt64, Int32.toInt_toInt64]
theorem sp_X8_in {v lo hi : Int32} (k : Q (b2i (lo ≤ v ∧ v ≤ hi)) x) : mSI mX8_in [.long v.toInt64, .long lo.toInt64, .long hi.toInt64] K x Q := by
  intro l D ad sz
  refine Met.ofW (cc := cX8_in) (maxL := 6) (ret := some .boolean) (by decide) rfl ?_
  intro p e s m args below meth c s₁ B hml hv
  obtain ⟨rfl, hsz, hR, hK, hS⟩ := hv
  have hlocks := B.notSynchronized
  subst hsz
  have hx := B.exec
  have hb := B.bytes
  have hr := B.returns
  rw [lg_entry_eq]
  have hl := lv_entry ([.long v.toInt64, .long lo.toInt64, .long hi.toInt64]) (n := 6) (Nat.le_of_ble_eq_true rfl)
  change W _ _ _ _ _ _ _ _ _ _ _ _ _ _ _ (F0 m 0 ((lg_sl ([.long v.toInt64, .long lo.toInt64, .long hi.toInt64]) ++ List.replicate (6 - (lg_sl ([.long v.toInt64, .long lo.toInt64, .long hi.toInt64])).length) Slot.unset).toArray) [])
  generalize (lg_sl ([.long v.toInt64, .long lo.toInt64, .long hi.toInt64]) ++ List.replicate (6 - (lg_sl ([.long v.toInt64, .long lo.toInt64, .long hi.toInt64])).length) Slot.unset).toArray = ls at hl ⊢
  have hl : lv_has ls 6 [(0, .long v.toInt64), (2, .long lo.toInt64), (4, .long hi.toInt64)] := hl
  have hend : ∀ r : Int32, (r = 0 ∨ r = 1) → Q r x → W p l e (headSpec (mWs mX8_in) { frames := mX8_in.2.2.2.2.1, cells := 0, slots := 0, locals := mX8_in.2.2.2.2.2 }).room s m (List.map (mcv ad) [.long v.toInt64, .long lo.toInt64, .long hi.toInt64]).toArray below meth c s.heap [] 0 0 (MQ below (mQH D ad (hp K x) s.heap.size (PI K Q)) (List.map (mcv ad) [.long v.toInt64, .long lo.toInt64, .long hi.toInt64]).toArray s 0 0 (mAH ad (hp K x) s.heap.size)) (F0 m 18 ls [.int r]) := by
    intro r hr01 hq
    exact W.zret hx hb hr (by rcases hr01 with rfl | rfl <;> rfl) (fun t ht hW => ⟨⟨some (.int r), hp K x, rfl, ⟨r, x, rfl, rfl, hq⟩, by rw [ht]; exact (hR.self _).moved hW.alike⟩, (va_S.rf (A := mAH ad (hp K x) s.heap.size)).F ht⟩) (fun _ h => by cases h) dX8_in_18
  refine lv_lload_n hx hb dX8_in_0 rfl (lv_at hl 0 rfl) ?_
  refine lv_lload_n hx hb dX8_in_1 rfl (lv_at hl 1 rfl) ?_
  refine W.lcmp hx hb dX8_in_2 ?_
  refine lv_if_lt (tgt := 17) hx hb dX8_in_3 (by decide) (fun q => ?_) (fun q => ?_)
  · have q1 := lt64.mp ((lg_cmp_lt _ _).mp q)
    refine lv_iconst (v := 0) hx hb dX8_in_17 (by decide) ?_
    exact hend 0 (Or.inl rfl) (by rwa [b2i_f (fun z => Int32.not_le.mpr q1 z.1)] at k)
  · have q1 := fun z => q ((lg_cmp_lt _ _).mpr (lt64.mpr z))
    refine lv_lload_n hx hb dX8_in_6 rfl (lv_at hl 0 rfl) ?_
    refine lv_lload hx hb dX8_in_7 (lv_at hl 2 rfl) ?_
    refine W.lcmp hx hb dX8_in_9 ?_
    refine lv_if_gt (tgt := 17) hx hb dX8_in_10 (by decide) (fun q2 => ?_) (fun q2 => ?_)
    · have q3 := lt64.mp ((lg_cmp_gt _ _).mp q2)
      refine lv_iconst (v := 0) hx hb dX8_in_17 (by decide) ?_
      exact hend 0 (Or.inl rfl) (by rwa [b2i_f (fun z => Int32.not_le.mpr q3 z.2)] at k)
    · have q3 := fun z => q2 ((lg_cmp_gt _ _).mpr (lt64.mpr z))
      refine lv_iconst (v := 1) hx hb dX8_in_13 (by decide) ?_
      refine lv_goto (tgt := 18) hx hb dX8_in_14 (by decide) ?_
      exact hend 1 (Or.inr rfl) (by rwa [b2i_t ⟨Int32.not_lt.mp q1, Int32.not_lt.mp q3⟩] at k)
theorem sq_X8_in {v lo hi : Int32} {v1 v2 v3 : Int64} (e1 : v1 = v.toInt64) (e2 : v2 = lo.toInt64) (e3 : v3 = hi.toInt64) (k : Q (b2i (lo ≤ v ∧ v ≤ hi)) x) : mSI mX8_in [.long v1, .long v2, .long v3] K x Q := by
  rw [e1, e2, e3]
  exact sp_X8_in k
end SP1
end
/-! 18.small.lean.txt -/
section
set_option maxHeartbeats 2000000 in
theorem v_X8_isThere_0 {K : Sh} {x : Cn} {Q : Int32 → Cn → Prop} {b0 : Nat} {b0_1 : Nat} {n_b0_1 : Nat} (k_b0 : kk K b0 = some (8, 0)) (g_b0_1 : gr x b0 1 = some b0_1) (k_b0_1 : kk K b0_1 = some (20, n_b0_1)) (K0 : vp_in 0 n_b0_1 ∧ (((gi x b0_1 0) ≤ 0 → (Q 0 x)) ∧ (¬ (gi x b0_1 0) ≤ 0 → (Q 1 x)))) : mSI mX8_isThere [.ref b0] K x Q := by
  refine s_I (by decide) (by simp [Value.category]) (Nat.le_of_ble_eq_true rfl) ?_
  show mGM mX8_isThere 0 [some (.ref b0)] [] (hp K x) (PI K Q)
  refine r_aload_n (pc := 0) dX8_isThere_0 rfl ?_
  refine s_getR (pc := 1) dX8_isThere_1 fl_X8_9 rfl k_b0 g_b0_1 ?_
  refine r_iconst (pc := 4) (v := 0) dX8_isThere_4 (by decide) ?_
  obtain ⟨i_1, K0⟩ := K0
  refine s_iald (pc := 5) dX8_isThere_5 k_b0_1 i_1 ?_
  refine r_if_le (pc := 6) (tgt := 13) dX8_isThere_6 (by decide) (fun q => ?_) (fun q => ?_)
  · have K0 := K0.1 q
    refine r_iconst (pc := 13) (v := 0) dX8_isThere_13 (by decide) ?_
    exact s_zret rfl (by decide) dX8_isThere_14 K0
  · have K0 := K0.2 q
    refine r_iconst (pc := 9) (v := 1) dX8_isThere_9 (by decide) ?_
    refine r_goto (pc := 10) (tgt := 14) dX8_isThere_10 (by decide) ?_
    exact s_zret rfl (by decide) dX8_isThere_14 K0
set_option maxHeartbeats 2000000 in
theorem v_X8_one_0 {K : Sh} {x : Cn} {Q : Int32 → Cn → Prop} {b0 : Nat} {l1 : Int32} {l2 : Int32} {b0_3 : Nat} {n_b0_3 : Nat} (k_b0 : kk K b0 = some (8, 0)) (g_b0_3 : gr x b0 3 = some b0_3) (k_b0_3 : kk K b0_3 = some (20, n_b0_3)) (K0 : vp_in ((62 + (12 * l1)) + l2) n_b0_3 ∧ (Q (gi x b0_3 (((62 + (12 * l1)) + l2) : Int32).toNatClampNeg) x)) : mSI mX8_one [.ref b0, .int l1, .int l2] K x Q := by
  refine s_I (by decide) (by simp [Value.category]) (Nat.le_of_ble_eq_true rfl) ?_
  show mGM mX8_one 0 [some (.ref b0), some (.int l1), some (.int l2)] [] (hp K x) (PI K Q)
  refine r_aload_n (pc := 0) dX8_one_0 rfl ?_
  refine s_getR (pc := 1) dX8_one_1 fl_X8_16 rfl k_b0 g_b0_3 ?_
  refine r_bipush (pc := 4) (v := 62) dX8_one_4 (by decide) ?_
  refine r_bipush (pc := 6) (v := 12) dX8_one_6 (by decide) ?_
  refine r_iload_n (pc := 8) dX8_one_8 rfl ?_
  refine r_imul (pc := 9) dX8_one_9 ?_
  refine r_iadd (pc := 10) dX8_one_10 ?_
  refine r_iload_n (pc := 11) dX8_one_11 rfl ?_
  refine r_iadd (pc := 12) dX8_one_12 ?_
  obtain ⟨i_1, K0⟩ := K0
  refine s_iald (pc := 13) dX8_one_13 k_b0_3 i_1 ?_
  exact s_iret rfl dX8_one_14 K0
set_option maxHeartbeats 2000000 in
theorem v_X8_ask0_0 {K : Sh} {x : Cn} {Q : Int32 → Cn → Prop} {b0 : Nat} {l1 : Int32} {l2 : Int32} {b0_3 : Nat} {n_b0_3 : Nat} (k_b0 : kk K b0 = some (8, 0)) (g_b0_3 : gr x b0 3 = some b0_3) (k_b0_3 : kk K b0_3 = some (20, n_b0_3)) (K0 : vp_in ((350 + (7 * l1)) + l2) n_b0_3 ∧ (Q (gi x b0_3 (((350 + (7 * l1)) + l2) : Int32).toNatClampNeg) x)) : mSI mX8_ask0 [.ref b0, .int l1, .int l2] K x Q := by
  refine s_I (by decide) (by simp [Value.category]) (Nat.le_of_ble_eq_true rfl) ?_
  show mGM mX8_ask0 0 [some (.ref b0), some (.int l1), some (.int l2)] [] (hp K x) (PI K Q)
  refine r_aload_n (pc := 0) dX8_ask0_0 rfl ?_
  refine s_getR (pc := 1) dX8_ask0_1 fl_X8_16 rfl k_b0 g_b0_3 ?_
  refine r_sipush (pc := 4) (v := 350) dX8_ask0_4 (by decide) ?_
  refine r_bipush (pc := 7) (v := 7) dX8_ask0_7 (by decide) ?_
  refine r_iload_n (pc := 9) dX8_ask0_9 rfl ?_
  refine r_imul (pc := 10) dX8_ask0_10 ?_
  refine r_iadd (pc := 11) dX8_ask0_11 ?_
  refine r_iload_n (pc := 12) dX8_ask0_12 rfl ?_
  refine r_iadd (pc := 13) dX8_ask0_13 ?_
  obtain ⟨i_1, K0⟩ := K0
  refine s_iald (pc := 14) dX8_ask0_14 k_b0_3 i_1 ?_
  exact s_iret rfl dX8_ask0_15 K0
set_option maxHeartbeats 2000000 in
theorem v_X8_isSeries_0 {K : Sh} {x : Cn} {Q : Int32 → Cn → Prop} {b0 : Nat} {l1 : Int32} {b0_1 : Nat} {n_b0_1 : Nat} (k_b0 : kk K b0 = some (8, 0)) (g_b0_1 : gr x b0 1 = some b0_1) (k_b0_1 : kk K b0_1 = some (20, n_b0_1)) (K0 : vp_in 2 n_b0_1 ∧ (Q (b2i (0 ≤ l1 ∧ l1 ≤ ((gi x b0_1 2) - 1))) x)) : mSI mX8_isSeries [.ref b0, .int l1] K x Q := by
  refine s_I (by decide) (by simp [Value.category]) (Nat.le_of_ble_eq_true rfl) ?_
  show mGM mX8_isSeries 0 [some (.ref b0), some (.int l1)] [] (hp K x) (PI K Q)
  refine r_iload_n (pc := 0) dX8_isSeries_0 rfl ?_
  refine r_i2l (pc := 1) dX8_isSeries_1 ?_
  refine r_lconst (pc := 2) (v := 0) dX8_isSeries_2 (by decide) ?_
  refine r_aload_n (pc := 3) dX8_isSeries_3 rfl ?_
  refine s_getR (pc := 4) dX8_isSeries_4 fl_X8_9 rfl k_b0 g_b0_1 ?_
  refine r_iconst (pc := 7) (v := 2) dX8_isSeries_7 (by decide) ?_
  obtain ⟨i_1, K0⟩ := K0
  refine s_iald (pc := 8) dX8_isSeries_8 k_b0_1 i_1 ?_
  refine r_iconst (pc := 9) (v := 1) dX8_isSeries_9 (by decide) ?_
  refine r_isub (pc := 10) dX8_isSeries_10 ?_
  refine r_i2l (pc := 11) dX8_isSeries_11 ?_
  refine s_SI (pc := 12) mX8_in (As := [.long ((l1 : Int32).toInt64), .long 0, .long ((((gi x b0_1 2) - 1) : Int32).toInt64)]) dX8_isSeries_12 lk_X8_45 st_X8_in mo_X8_in ⟨by decide, by decide⟩ (Nat.le_of_ble_eq_true rfl) (sq_X8_in (v := l1) (lo := 0) (hi := ((gi x b0_1 2) - 1)) rfl (by decide) rfl ?_)
  exact s_zret rfl (b2i_01 _) dX8_isSeries_15 K0
set_option maxHeartbeats 2000000 in
theorem v_X8_isAsk_0 {K : Sh} {x : Cn} {Q : Int32 → Cn → Prop} {b0 : Nat} {l1 : Int32} {b0_1 : Nat} {n_b0_1 : Nat} (k_b0 : kk K b0 = some (8, 0)) (g_b0_1 : gr x b0 1 = some b0_1) (k_b0_1 : kk K b0_1 = some (20, n_b0_1)) (K0 : vp_in 3 n_b0_1 ∧ (Q (b2i (0 ≤ l1 ∧ l1 ≤ ((gi x b0_1 3) - 1))) x)) : mSI mX8_isAsk [.ref b0, .int l1] K x Q := by
  refine s_I (by decide) (by simp [Value.category]) (Nat.le_of_ble_eq_true rfl) ?_
  show mGM mX8_isAsk 0 [some (.ref b0), some (.int l1)] [] (hp K x) (PI K Q)
  refine r_iload_n (pc := 0) dX8_isAsk_0 rfl ?_
  refine r_i2l (pc := 1) dX8_isAsk_1 ?_
  refine r_lconst (pc := 2) (v := 0) dX8_isAsk_2 (by decide) ?_
  refine r_aload_n (pc := 3) dX8_isAsk_3 rfl ?_
  refine s_getR (pc := 4) dX8_isAsk_4 fl_X8_9 rfl k_b0 g_b0_1 ?_
  refine r_iconst (pc := 7) (v := 3) dX8_isAsk_7 (by decide) ?_
  obtain ⟨i_1, K0⟩ := K0
  refine s_iald (pc := 8) dX8_isAsk_8 k_b0_1 i_1 ?_
  refine r_iconst (pc := 9) (v := 1) dX8_isAsk_9 (by decide) ?_
  refine r_isub (pc := 10) dX8_isAsk_10 ?_
  refine r_i2l (pc := 11) dX8_isAsk_11 ?_
  refine s_SI (pc := 12) mX8_in (As := [.long ((l1 : Int32).toInt64), .long 0, .long ((((gi x b0_1 3) - 1) : Int32).toInt64)]) dX8_isAsk_12 lk_X8_45 st_X8_in mo_X8_in ⟨by decide, by decide⟩ (Nat.le_of_ble_eq_true rfl) (sq_X8_in (v := l1) (lo := 0) (hi := ((gi x b0_1 3) - 1)) rfl (by decide) rfl ?_)
  exact s_zret rfl (b2i_01 _) dX8_isAsk_15 K0
set_option maxHeartbeats 2000000 in
theorem v_X8_isCarrier_0 {K : Sh} {x : Cn} {Q : Int32 → Cn → Prop} {b0 : Nat} {l1 : Int32} {b0_1 : Nat} {n_b0_1 : Nat} (k_b0 : kk K b0 = some (8, 0)) (g_b0_1 : gr x b0 1 = some b0_1) (k_b0_1 : kk K b0_1 = some (20, n_b0_1)) (K0 : vp_in 1 n_b0_1 ∧ (Q (b2i (0 ≤ l1 ∧ l1 ≤ ((gi x b0_1 1) - 1))) x)) : mSI mX8_isCarrier [.ref b0, .int l1] K x Q := by
  refine s_I (by decide) (by simp [Value.category]) (Nat.le_of_ble_eq_true rfl) ?_
  show mGM mX8_isCarrier 0 [some (.ref b0), some (.int l1)] [] (hp K x) (PI K Q)
  refine r_iload_n (pc := 0) dX8_isCarrier_0 rfl ?_
  refine r_i2l (pc := 1) dX8_isCarrier_1 ?_
  refine r_lconst (pc := 2) (v := 0) dX8_isCarrier_2 (by decide) ?_
  refine r_aload_n (pc := 3) dX8_isCarrier_3 rfl ?_
  refine s_getR (pc := 4) dX8_isCarrier_4 fl_X8_9 rfl k_b0 g_b0_1 ?_
  refine r_iconst (pc := 7) (v := 1) dX8_isCarrier_7 (by decide) ?_
  obtain ⟨i_1, K0⟩ := K0
  refine s_iald (pc := 8) dX8_isCarrier_8 k_b0_1 i_1 ?_
  refine r_iconst (pc := 9) (v := 1) dX8_isCarrier_9 (by decide) ?_
  refine r_isub (pc := 10) dX8_isCarrier_10 ?_
  refine r_i2l (pc := 11) dX8_isCarrier_11 ?_
  refine s_SI (pc := 12) mX8_in (As := [.long ((l1 : Int32).toInt64), .long 0, .long ((((gi x b0_1 1) - 1) : Int32).toInt64)]) dX8_isCarrier_12 lk_X8_45 st_X8_in mo_X8_in ⟨by decide, by decide⟩ (Nat.le_of_ble_eq_true rfl) (sq_X8_in (v := l1) (lo := 0) (hi := ((gi x b0_1 1) - 1)) rfl (by decide) rfl ?_)
  exact s_zret rfl (b2i_01 _) dX8_isCarrier_15 K0
set_option maxHeartbeats 2000000 in
theorem v_X8_isWeek_0 {K : Sh} {x : Cn} {Q : Int32 → Cn → Prop} {b0 : Nat} {l1 : Int32} {b0_1 : Nat} {n_b0_1 : Nat} (k_b0 : kk K b0 = some (8, 0)) (g_b0_1 : gr x b0 1 = some b0_1) (k_b0_1 : kk K b0_1 = some (20, n_b0_1)) (K0 : vp_in 0 n_b0_1 ∧ (Q (b2i (0 ≤ l1 ∧ l1 ≤ ((gi x b0_1 0) - 1))) x)) : mSI mX8_isWeek [.ref b0, .int l1] K x Q := by
  refine s_I (by decide) (by simp [Value.category]) (Nat.le_of_ble_eq_true rfl) ?_
  show mGM mX8_isWeek 0 [some (.ref b0), some (.int l1)] [] (hp K x) (PI K Q)
  refine r_iload_n (pc := 0) dX8_isWeek_0 rfl ?_
  refine r_i2l (pc := 1) dX8_isWeek_1 ?_
  refine r_lconst (pc := 2) (v := 0) dX8_isWeek_2 (by decide) ?_
  refine r_aload_n (pc := 3) dX8_isWeek_3 rfl ?_
  refine s_getR (pc := 4) dX8_isWeek_4 fl_X8_9 rfl k_b0 g_b0_1 ?_
  refine r_iconst (pc := 7) (v := 0) dX8_isWeek_7 (by decide) ?_
  obtain ⟨i_1, K0⟩ := K0
  refine s_iald (pc := 8) dX8_isWeek_8 k_b0_1 i_1 ?_
  refine r_iconst (pc := 9) (v := 1) dX8_isWeek_9 (by decide) ?_
  refine r_isub (pc := 10) dX8_isWeek_10 ?_
  refine r_i2l (pc := 11) dX8_isWeek_11 ?_
  refine s_SI (pc := 12) mX8_in (As := [.long ((l1 : Int32).toInt64), .long 0, .long ((((gi x b0_1 0) - 1) : Int32).toInt64)]) dX8_isWeek_12 lk_X8_45 st_X8_in mo_X8_in ⟨by decide, by decide⟩ (Nat.le_of_ble_eq_true rfl) (sq_X8_in (v := l1) (lo := 0) (hi := ((gi x b0_1 0) - 1)) rfl (by decide) rfl ?_)
  exact s_zret rfl (b2i_01 _) dX8_isWeek_15 K0
set_option maxHeartbeats 2000000 in
theorem v_X8_good_0 {K : Sh} {x : Cn} {Q : Int32 → Cn → Prop} {b0 : Nat}  (k_b0 : kk K b0 = some (8, 0)) (K0 : (¬ (gi x b0 11) = 0 → (Q 0 x)) ∧ ((gi x b0 11) = 0 → (Q 1 x))) : mSI mX8_good [.ref b0] K x Q := by
  refine s_I (by decide) (by simp [Value.category]) (Nat.le_of_ble_eq_true rfl) ?_
  show mGM mX8_good 0 [some (.ref b0)] [] (hp K x) (PI K Q)
  refine r_aload_n (pc := 0) dX8_good_0 rfl ?_
  refine s_getI (pc := 1) dX8_good_1 fl_X8_101 rfl k_b0 ?_
  refine r_if_ne (pc := 4) (tgt := 11) dX8_good_4 (by decide) (fun q => ?_) (fun q => ?_)
  · have K0 := K0.1 q
    refine r_iconst (pc := 11) (v := 0) dX8_good_11 (by decide) ?_
    exact s_zret rfl (by decide) dX8_good_12 K0
  · have K0 := K0.2 q
    refine r_iconst (pc := 7) (v := 1) dX8_good_7 (by decide) ?_
    refine r_goto (pc := 8) (tgt := 12) dX8_good_8 (by decide) ?_
    exact s_zret rfl (by decide) dX8_good_12 K0
set_option maxHeartbeats 2000000 in
theorem v_X8_isComing_0 {K : Sh} {x : Cn} {Q : Int32 → Cn → Prop} {b0 : Nat} {l1 : Int32} {b0_1 : Nat} {n_b0_1 : Nat} (k_b0 : kk K b0 = some (8, 0)) (g_b0_1 : gr x b0 1 = some b0_1) (k_b0_1 : kk K b0_1 = some (20, n_b0_1)) (K0 : vp_in 4 n_b0_1 ∧ ((l1 < (gi x b0_1 4) → (Q 0 x)) ∧ (¬ l1 < (gi x b0_1 4) → (Q 1 x)))) : mSI mX8_isComing [.ref b0, .int l1] K x Q := by
  refine s_I (by decide) (by simp [Value.category]) (Nat.le_of_ble_eq_true rfl) ?_
  show mGM mX8_isComing 0 [some (.ref b0), some (.int l1)] [] (hp K x) (PI K Q)
  refine r_iload_n (pc := 0) dX8_isComing_0 rfl ?_
  refine r_aload_n (pc := 1) dX8_isComing_1 rfl ?_
  refine s_getR (pc := 2) dX8_isComing_2 fl_X8_9 rfl k_b0 g_b0_1 ?_
  refine r_iconst (pc := 5) (v := 4) dX8_isComing_5 (by decide) ?_
  obtain ⟨i_1, K0⟩ := K0
  refine s_iald (pc := 6) dX8_isComing_6 k_b0_1 i_1 ?_
  refine r_icmp_lt (pc := 7) (tgt := 14) dX8_isComing_7 (by decide) (fun q => ?_) (fun q => ?_)
  · have K0 := K0.1 q
    refine r_iconst (pc := 14) (v := 0) dX8_isComing_14 (by decide) ?_
    exact s_zret rfl (by decide) dX8_isComing_15 K0
  · have K0 := K0.2 q
    refine r_iconst (pc := 10) (v := 1) dX8_isComing_10 (by decide) ?_
    refine r_goto (pc := 11) (tgt := 15) dX8_isComing_11 (by decide) ?_
    exact s_zret rfl (by decide) dX8_isComing_15 K0
set_option maxHeartbeats 2000000 in
theorem v_X5_openBits_0 {K : Sh} {x : Cn} {Q : Int32 → Cn → Prop} {b0 : Nat}  (k_b0 : kk K b0 = some (5, 0)) (K0 : Q ((gi x b0 7) &&& (((((gi x b0 8) ||| (gi x b0 9)) ||| (gi x b0 10)) ||| (gi x b0 11)) ^^^ (-1))) x) : mSI mX5_openBits [.ref b0] K x Q := by
  refine s_I (by decide) (by simp [Value.category]) (Nat.le_of_ble_eq_true rfl) ?_
  show mGM mX5_openBits 0 [some (.ref b0)] [] (hp K x) (PI K Q)
  refine r_aload_n (pc := 0) dX5_openBits_0 rfl ?_
  refine s_getI (pc := 1) dX5_openBits_1 fl_X5_34 rfl k_b0 ?_
  refine r_aload_n (pc := 4) dX5_openBits_4 rfl ?_
  refine s_getI (pc := 5) dX5_openBits_5 fl_X5_37 rfl k_b0 ?_
  refine r_aload_n (pc := 8) dX5_openBits_8 rfl ?_
  refine s_getI (pc := 9) dX5_openBits_9 fl_X5_40 rfl k_b0 ?_
  refine r_ior (pc := 12) dX5_openBits_12 ?_
  refine r_aload_n (pc := 13) dX5_openBits_13 rfl ?_
  refine s_getI (pc := 14) dX5_openBits_14 fl_X5_43 rfl k_b0 ?_
  refine r_ior (pc := 17) dX5_openBits_17 ?_
  refine r_aload_n (pc := 18) dX5_openBits_18 rfl ?_
  refine s_getI (pc := 19) dX5_openBits_19 fl_X5_46 rfl k_b0 ?_
  refine r_ior (pc := 22) dX5_openBits_22 ?_
  refine r_iconst (pc := 23) (v := (-1)) dX5_openBits_23 (by decide) ?_
  refine r_ixor (pc := 24) dX5_openBits_24 ?_
  refine r_iand (pc := 25) dX5_openBits_25 ?_
  exact s_iret rfl dX5_openBits_26 K0
set_option maxHeartbeats 2000000 in
theorem v_X5_heldBits_0 {K : Sh} {x : Cn} {Q : Int32 → Cn → Prop} {b0 : Nat}  (k_b0 : kk K b0 = some (5, 0)) (K0 : Q ((gi x b0 7) &&& ((gi x b0 11) ^^^ (-1))) x) : mSI mX5_heldBits [.ref b0] K x Q := by
  refine s_I (by decide) (by simp [Value.category]) (Nat.le_of_ble_eq_true rfl) ?_
  show mGM mX5_heldBits 0 [some (.ref b0)] [] (hp K x) (PI K Q)
  refine r_aload_n (pc := 0) dX5_heldBits_0 rfl ?_
  refine s_getI (pc := 1) dX5_heldBits_1 fl_X5_34 rfl k_b0 ?_
  refine r_aload_n (pc := 4) dX5_heldBits_4 rfl ?_
  refine s_getI (pc := 5) dX5_heldBits_5 fl_X5_46 rfl k_b0 ?_
  refine r_iconst (pc := 8) (v := (-1)) dX5_heldBits_8 (by decide) ?_
  refine r_ixor (pc := 9) dX5_heldBits_9 ?_
  refine r_iand (pc := 10) dX5_heldBits_10 ?_
  exact s_iret rfl dX5_heldBits_11 K0
set_option maxHeartbeats 2000000 in
theorem v_X5_isOf_0 {K : Sh} {x : Cn} {Q : Int32 → Cn → Prop} {b0 : Nat} {l1 : Int32} {l2 : Int32}  (k_b0 : kk K b0 = some (5, 0)) (K0 : (¬ (gi x b0 0) = l1 → (Q 0 x)) ∧ ((gi x b0 0) = l1 → ((l2 = (-1) → (Q 1 x)) ∧ (¬ l2 = (-1) → ((¬ (gi x b0 1) = l2 → (Q 0 x)) ∧ ((gi x b0 1) = l2 → (Q 1 x))))))) : mSI mX5_isOf [.ref b0, .int l1, .int l2] K x Q := by
  refine s_I (by decide) (by simp [Value.category]) (Nat.le_of_ble_eq_true rfl) ?_
  show mGM mX5_isOf 0 [some (.ref b0), some (.int l1), some (.int l2)] [] (hp K x) (PI K Q)
  refine r_aload_n (pc := 0) dX5_isOf_0 rfl ?_
  refine s_getI (pc := 1) dX5_isOf_1 fl_X5_9 rfl k_b0 ?_
  refine r_iload_n (pc := 4) dX5_isOf_4 rfl ?_
  refine r_icmp_ne (pc := 5) (tgt := 25) dX5_isOf_5 (by decide) (fun q => ?_) (fun q => ?_)
  · have K0 := K0.1 q
    refine r_iconst (pc := 25) (v := 0) dX5_isOf_25 (by decide) ?_
    exact s_zret rfl (by decide) dX5_isOf_26 K0
  · have K0 := K0.2 q
    refine r_iload_n (pc := 8) dX5_isOf_8 rfl ?_
    refine r_iconst (pc := 9) (v := (-1)) dX5_isOf_9 (by decide) ?_
    refine r_icmp_eq (pc := 10) (tgt := 21) dX5_isOf_10 (by decide) (fun q => ?_) (fun q => ?_)
    · have K0 := K0.1 q
      refine r_iconst (pc := 21) (v := 1) dX5_isOf_21 (by decide) ?_
      refine r_goto (pc := 22) (tgt := 26) dX5_isOf_22 (by decide) ?_
      exact s_zret rfl (by decide) dX5_isOf_26 K0
    · have K0 := K0.2 q
      refine r_aload_n (pc := 13) dX5_isOf_13 rfl ?_
      refine s_getI (pc := 14) dX5_isOf_14 fl_X5_15 rfl k_b0 ?_
      refine r_iload_n (pc := 17) dX5_isOf_17 rfl ?_
      refine r_icmp_ne (pc := 18) (tgt := 25) dX5_isOf_18 (by decide) (fun q => ?_) (fun q => ?_)
      · have K0 := K0.1 q
        refine r_iconst (pc := 25) (v := 0) dX5_isOf_25 (by decide) ?_
        exact s_zret rfl (by decide) dX5_isOf_26 K0
      · have K0 := K0.2 q
        refine r_iconst (pc := 21) (v := 1) dX5_isOf_21 (by decide) ?_
        refine r_goto (pc := 22) (tgt := 26) dX5_isOf_22 (by decide) ?_
        exact s_zret rfl (by decide) dX5_isOf_26 K0
set_option maxHeartbeats 2000000 in
theorem v_X0_wantedBits_0 {K : Sh} {x : Cn} {Q : Int32 → Cn → Prop} {b0 : Nat}  (k_b0 : kk K b0 = some (0, 0)) (K0 : Q (f_sb (gi x b0 4) (gi x b0 5)) x) : mSI mX0_wantedBits [.ref b0] K x Q := by
  refine s_I (by decide) (by simp [Value.category]) (Nat.le_of_ble_eq_true rfl) ?_
  show mGM mX0_wantedBits 0 [some (.ref b0)] [] (hp K x) (PI K Q)
  refine r_aload_n (pc := 0) dX0_wantedBits_0 rfl ?_
  refine s_getI (pc := 1) dX0_wantedBits_1 fl_X0_22 rfl k_b0 ?_
  refine r_aload_n (pc := 4) dX0_wantedBits_4 rfl ?_
  refine s_getI (pc := 5) dX0_wantedBits_5 fl_X0_25 rfl k_b0 ?_
  refine s_SNI (pc := 8) mX7_spanBits (As := [.int (gi x b0 4), .int (gi x b0 5)]) dX0_wantedBits_8 nl_X0_39 st_X7_spanBits mo_X7_spanBits ⟨by decide, by decide⟩ (Nat.le_of_ble_eq_true rfl) (sp_X7_spanBits  ?_)
  exact s_iret rfl dX0_wantedBits_11 K0
set_option maxHeartbeats 2000000 in
theorem v_X4_isOver_0 {K : Sh} {x : Cn} {Q : Int32 → Cn → Prop} {b0 : Nat}  (k_b0 : kk K b0 = some (4, 0)) (K0 : ((gi x b0 1) < (gi x b0 0) → (Q 0 x)) ∧ (¬ (gi x b0 1) < (gi x b0 0) → (Q 1 x))) : mSI mX4_isOver [.ref b0] K x Q := by
  refine s_I (by decide) (by simp [Value.category]) (Nat.le_of_ble_eq_true rfl) ?_
  show mGM mX4_isOver 0 [some (.ref b0)] [] (hp K x) (PI K Q)
  refine r_aload_n (pc := 0) dX4_isOver_0 rfl ?_
  refine s_getI (pc := 1) dX4_isOver_1 fl_X4_15 rfl k_b0 ?_
  refine r_aload_n (pc := 4) dX4_isOver_4 rfl ?_
  refine s_getI (pc := 5) dX4_isOver_5 fl_X4_9 rfl k_b0 ?_
  refine r_icmp_lt (pc := 8) (tgt := 15) dX4_isOver_8 (by decide) (fun q => ?_) (fun q => ?_)
  · have K0 := K0.1 q
    refine r_iconst (pc := 15) (v := 0) dX4_isOver_15 (by decide) ?_
    exact s_zret rfl (by decide) dX4_isOver_16 K0
  · have K0 := K0.2 q
    refine r_iconst (pc := 11) (v := 1) dX4_isOver_11 (by decide) ?_
    refine r_goto (pc := 12) (tgt := 16) dX4_isOver_12 (by decide) ?_
    exact s_zret rfl (by decide) dX4_isOver_16 K0
set_option maxHeartbeats 2000000 in
theorem v_X7_hasText_0 {K : Sh} {x : Cn} {Q : Int32 → Cn → Prop} {b0 : Nat} {b0_2 : Nat} (k_b0 : kk K b0 = some (7, 0)) (g_b0_2 : gr x b0 2 = some b0_2) (k_b0_2 : kk K b0_2 = some (4, 0)) (K0 : ((gi x b0_2 0) ≤ 0 → (Q 0 x)) ∧ (¬ (gi x b0_2 0) ≤ 0 → (Q 1 x))) : mSI mX7_hasText [.ref b0] K x Q := by
  refine s_I (by decide) (by simp [Value.category]) (Nat.le_of_ble_eq_true rfl) ?_
  show mGM mX7_hasText 0 [some (.ref b0)] [] (hp K x) (PI K Q)
  refine r_aload_n (pc := 0) dX7_hasText_0 rfl ?_
  refine s_getR (pc := 1) dX7_hasText_1 fl_X7_20 rfl k_b0 g_b0_2 ?_
  refine s_getI (pc := 4) dX7_hasText_4 fl_X7_91 rfl k_b0_2 ?_
  refine r_if_le (pc := 7) (tgt := 14) dX7_hasText_7 (by decide) (fun q => ?_) (fun q => ?_)
  · have K0 := K0.1 q
    refine r_iconst (pc := 14) (v := 0) dX7_hasText_14 (by decide) ?_
    exact s_zret rfl (by decide) dX7_hasText_15 K0
  · have K0 := K0.2 q
    refine r_iconst (pc := 10) (v := 1) dX7_hasText_10 (by decide) ?_
    refine r_goto (pc := 11) (tgt := 15) dX7_hasText_11 (by decide) ?_
    exact s_zret rfl (by decide) dX7_hasText_15 K0
set_option maxHeartbeats 2000000 in
theorem v_X7_isSeries_0 {K : Sh} {x : Cn} {Q : Int32 → Cn → Prop} {b0 : Nat} {l1 : Int32} {b0_2 : Nat} (k_b0 : kk K b0 = some (7, 0)) (g_b0_2 : gr x b0 2 = some b0_2) (k_b0_2 : kk K b0_2 = some (4, 0)) (K0 : (l1 < 0 → (Q 0 x)) ∧ (¬ l1 < 0 → (((gi x b0_2 3) ≤ l1 → (Q 0 x)) ∧ (¬ (gi x b0_2 3) ≤ l1 → (Q 1 x))))) : mSI mX7_isSeries [.ref b0, .int l1] K x Q := by
  refine s_I (by decide) (by simp [Value.category]) (Nat.le_of_ble_eq_true rfl) ?_
  show mGM mX7_isSeries 0 [some (.ref b0), some (.int l1)] [] (hp K x) (PI K Q)
  refine r_iload_n (pc := 0) dX7_isSeries_0 rfl ?_
  refine r_if_lt (pc := 1) (tgt := 19) dX7_isSeries_1 (by decide) (fun q => ?_) (fun q => ?_)
  · have K0 := K0.1 q
    refine r_iconst (pc := 19) (v := 0) dX7_isSeries_19 (by decide) ?_
    exact s_zret rfl (by decide) dX7_isSeries_20 K0
  · have K0 := K0.2 q
    refine r_iload_n (pc := 4) dX7_isSeries_4 rfl ?_
    refine r_aload_n (pc := 5) dX7_isSeries_5 rfl ?_
    refine s_getR (pc := 6) dX7_isSeries_6 fl_X7_20 rfl k_b0 g_b0_2 ?_
    refine s_getI (pc := 9) dX7_isSeries_9 fl_X7_97 rfl k_b0_2 ?_
    refine r_icmp_ge (pc := 12) (tgt := 19) dX7_isSeries_12 (by decide) (fun q => ?_) (fun q => ?_)
    · have K0 := K0.1 q
      refine r_iconst (pc := 19) (v := 0) dX7_isSeries_19 (by decide) ?_
      exact s_zret rfl (by decide) dX7_isSeries_20 K0
    · have K0 := K0.2 q
      refine r_iconst (pc := 15) (v := 1) dX7_isSeries_15 (by decide) ?_
      refine r_goto (pc := 16) (tgt := 20) dX7_isSeries_16 (by decide) ?_
      exact s_zret rfl (by decide) dX7_isSeries_20 K0
set_option maxHeartbeats 2000000 in
theorem v_X7_isAsk_0 {K : Sh} {x : Cn} {Q : Int32 → Cn → Prop} {b0 : Nat} {l1 : Int32} {b0_2 : Nat} (k_b0 : kk K b0 = some (7, 0)) (g_b0_2 : gr x b0 2 = some b0_2) (k_b0_2 : kk K b0_2 = some (4, 0)) (K0 : (l1 < 0 → (Q 0 x)) ∧ (¬ l1 < 0 → (((gi x b0_2 4) ≤ l1 → (Q 0 x)) ∧ (¬ (gi x b0_2 4) ≤ l1 → (Q 1 x))))) : mSI mX7_isAsk [.ref b0, .int l1] K x Q := by
  refine s_I (by decide) (by simp [Value.category]) (Nat.le_of_ble_eq_true rfl) ?_
  show mGM mX7_isAsk 0 [some (.ref b0), some (.int l1)] [] (hp K x) (PI K Q)
  refine r_iload_n (pc := 0) dX7_isAsk_0 rfl ?_
  refine r_if_lt (pc := 1) (tgt := 19) dX7_isAsk_1 (by decide) (fun q => ?_) (fun q => ?_)
  · have K0 := K0.1 q
    refine r_iconst (pc := 19) (v := 0) dX7_isAsk_19 (by decide) ?_
    exact s_zret rfl (by decide) dX7_isAsk_20 K0
  · have K0 := K0.2 q
    refine r_iload_n (pc := 4) dX7_isAsk_4 rfl ?_
    refine r_aload_n (pc := 5) dX7_isAsk_5 rfl ?_
    refine s_getR (pc := 6) dX7_isAsk_6 fl_X7_20 rfl k_b0 g_b0_2 ?_
    refine s_getI (pc := 9) dX7_isAsk_9 fl_X7_100 rfl k_b0_2 ?_
    refine r_icmp_ge (pc := 12) (tgt := 19) dX7_isAsk_12 (by decide) (fun q => ?_) (fun q => ?_)
    · have K0 := K0.1 q
      refine r_iconst (pc := 19) (v := 0) dX7_isAsk_19 (by decide) ?_
      exact s_zret rfl (by decide) dX7_isAsk_20 K0
    · have K0 := K0.2 q
      refine r_iconst (pc := 15) (v := 1) dX7_isAsk_15 (by decide) ?_
      refine r_goto (pc := 16) (tgt := 20) dX7_isAsk_16 (by decide) ?_
      exact s_zret rfl (by decide) dX7_isAsk_20 K0
set_option maxHeartbeats 2000000 in
theorem v_X7_isCarrier_0 {K : Sh} {x : Cn} {Q : Int32 → Cn → Prop} {b0 : Nat} {l1 : Int32} {b0_3 : Nat} (k_b0 : kk K b0 = some (7, 0)) (g_b0_3 : gr x b0 3 = some b0_3) (k_b0_3 : kk K b0_3 = some (1, 0)) (K0 : (l1 < 0 → (Q 0 x)) ∧ (¬ l1 < 0 → (((gi x b0_3 0) ≤ l1 → (Q 0 x)) ∧ (¬ (gi x b0_3 0) ≤ l1 → (Q 1 x))))) : mSI mX7_isCarrier [.ref b0, .int l1] K x Q := by
  refine s_I (by decide) (by simp [Value.category]) (Nat.le_of_ble_eq_true rfl) ?_
  show mGM mX7_isCarrier 0 [some (.ref b0), some (.int l1)] [] (hp K x) (PI K Q)
  refine r_iload_n (pc := 0) dX7_isCarrier_0 rfl ?_
  refine r_if_lt (pc := 1) (tgt := 19) dX7_isCarrier_1 (by decide) (fun q => ?_) (fun q => ?_)
  · have K0 := K0.1 q
    refine r_iconst (pc := 19) (v := 0) dX7_isCarrier_19 (by decide) ?_
    exact s_zret rfl (by decide) dX7_isCarrier_20 K0
  · have K0 := K0.2 q
    refine r_iload_n (pc := 4) dX7_isCarrier_4 rfl ?_
    refine r_aload_n (pc := 5) dX7_isCarrier_5 rfl ?_
    refine s_getR (pc := 6) dX7_isCarrier_6 fl_X7_27 rfl k_b0 g_b0_3 ?_
    refine s_getI (pc := 9) dX7_isCarrier_9 fl_X7_94 rfl k_b0_3 ?_
    refine r_icmp_ge (pc := 12) (tgt := 19) dX7_isCarrier_12 (by decide) (fun q => ?_) (fun q => ?_)
    · have K0 := K0.1 q
      refine r_iconst (pc := 19) (v := 0) dX7_isCarrier_19 (by decide) ?_
      exact s_zret rfl (by decide) dX7_isCarrier_20 K0
    · have K0 := K0.2 q
      refine r_iconst (pc := 15) (v := 1) dX7_isCarrier_15 (by decide) ?_
      refine r_goto (pc := 16) (tgt := 20) dX7_isCarrier_16 (by decide) ?_
      exact s_zret rfl (by decide) dX7_isCarrier_20 K0
set_option maxHeartbeats 2000000 in
theorem v_X7_isWeek_0 {K : Sh} {x : Cn} {Q : Int32 → Cn → Prop} {b0 : Nat} {l1 : Int32} {b0_2 : Nat} (k_b0 : kk K b0 = some (7, 0)) (g_b0_2 : gr x b0 2 = some b0_2) (k_b0_2 : kk K b0_2 = some (4, 0)) (K0 : (l1 < 0 → (Q 0 x)) ∧ (¬ l1 < 0 → (((gi x b0_2 0) ≤ l1 → (Q 0 x)) ∧ (¬ (gi x b0_2 0) ≤ l1 → (Q 1 x))))) : mSI mX7_isWeek [.ref b0, .int l1] K x Q := by
  refine s_I (by decide) (by simp [Value.category]) (Nat.le_of_ble_eq_true rfl) ?_
  show mGM mX7_isWeek 0 [some (.ref b0), some (.int l1)] [] (hp K x) (PI K Q)
  refine r_iload_n (pc := 0) dX7_isWeek_0 rfl ?_
  refine r_if_lt (pc := 1) (tgt := 19) dX7_isWeek_1 (by decide) (fun q => ?_) (fun q => ?_)
  · have K0 := K0.1 q
    refine r_iconst (pc := 19) (v := 0) dX7_isWeek_19 (by decide) ?_
    exact s_zret rfl (by decide) dX7_isWeek_20 K0
  · have K0 := K0.2 q
    refine r_iload_n (pc := 4) dX7_isWeek_4 rfl ?_
    refine r_aload_n (pc := 5) dX7_isWeek_5 rfl ?_
    refine s_getR (pc := 6) dX7_isWeek_6 fl_X7_20 rfl k_b0 g_b0_2 ?_
    refine s_getI (pc := 9) dX7_isWeek_9 fl_X7_91 rfl k_b0_2 ?_
    refine r_icmp_ge (pc := 12) (tgt := 19) dX7_isWeek_12 (by decide) (fun q => ?_) (fun q => ?_)
    · have K0 := K0.1 q
      refine r_iconst (pc := 19) (v := 0) dX7_isWeek_19 (by decide) ?_
      exact s_zret rfl (by decide) dX7_isWeek_20 K0
    · have K0 := K0.2 q
      refine r_iconst (pc := 15) (v := 1) dX7_isWeek_15 (by decide) ?_
      refine r_goto (pc := 16) (tgt := 20) dX7_isWeek_16 (by decide) ?_
      exact s_zret rfl (by decide) dX7_isWeek_20 K0
end
/-! 19.sp2.lean.txt -/
section
/-! small methods that read -/
def f_open (x : Cn) (b : Nat) : Int32 := (gi x b 7) &&& (((((gi x b 8) ||| (gi x b 9)) ||| (gi x b 10)) ||| (gi x b 11)) ^^^ (-1))
def f_held (x : Cn) (b : Nat) : Int32 := (gi x b 7) &&& ((gi x b 11) ^^^ (-1))
section SP2
variable {K : Sh} {x : Cn} {Q : Int32 → Cn → Prop} {b t n : Nat}
theorem b2i_k {c : Prop} [Decidable c] (k : Q (b2i c) x) : (c → Q 1 x) ∧ (¬ c → Q 0 x) := ⟨fun h => by rwa [b2i_t h] at k, fun h => by rwa [b2i_f h] at k⟩
theorem sp_X8_isThere (h1 : kk K b = some (8, 0)) (h2 : gr x b 1 = some t) (h3 : kk K t = some (20, n)) (h4 : vp_in 0 n) (k : Q (b2i (0 < gi x t 0)) x) : mSI mX8_isThere [.ref b] K x Q :=
  v_X8_isThere_0 h1 h2 h3 ⟨h4, fun h => (b2i_k k).2 (Int32.not_lt.mpr h), fun h => (b2i_k k).1 (Int32.not_le.mp h)⟩
theorem sp_X8_one {l1 l2 : Int32} (h1 : kk K b = some (8, 0)) (h2 : gr x b 3 = some t) (h3 : kk K t = some (20, n)) (h4 : vp_in ((62 + (12 * l1)) + l2) n) (k : Q (gi x t ((62 + (12 * l1)) + l2 : Int32).toNatClampNeg) x) : mSI mX8_one [.ref b, .int l1, .int l2] K x Q := v_X8_one_0 h1 h2 h3 ⟨h4, k⟩
theorem sp_X8_ask0 {l1 l2 : Int32} (h1 : kk K b = some (8, 0)) (h2 : gr x b 3 = some t) (h3 : kk K t = some (20, n)) (h4 : vp_in ((350 + (7 * l1)) + l2) n) (k : Q (gi x t ((350 + (7 * l1)) + l2 : Int32).toNatClampNeg) x) : mSI mX8_ask0 [.ref b, .int l1, .int l2] K x Q := v_X8_ask0_0 h1 h2 h3 ⟨h4, k⟩
theorem sp_X8_isSeries {l1 : Int32} (h1 : kk K b = some (8, 0)) (h2 : gr x b 1 = some t) (h3 : kk K t = some (20, n)) (h4 : vp_in 2 n) (k : Q (b2i (0 ≤ l1 ∧ l1 ≤ gi x t 2 - 1)) x) : mSI mX8_isSeries [.ref b, .int l1] K x Q := v_X8_isSeries_0 h1 h2 h3 ⟨h4, k⟩
theorem sp_X8_isAsk {l1 : Int32} (h1 : kk K b = some (8, 0)) (h2 : gr x b 1 = some t) (h3 : kk K t = some (20, n)) (h4 : vp_in 3 n) (k : Q (b2i (0 ≤ l1 ∧ l1 ≤ gi x t 3 - 1)) x) : mSI mX8_isAsk [.ref b, .int l1] K x Q := v_X8_isAsk_0 h1 h2 h3 ⟨h4, k⟩
theorem sp_X8_isCarrier {l1 : Int32} (h1 : kk K b = some (8, 0)) (h2 : gr x b 1 = some t) (h3 : kk K t = some (20, n)) (h4 : vp_in 1 n) (k : Q (b2i (0 ≤ l1 ∧ l1 ≤ gi x t 1 - 1)) x) : mSI mX8_isCarrier [.ref b, .int l1] K x Q := v_X8_isCarrier_0 h1 h2 h3 ⟨h4, k⟩
theorem sp_X8_isWeek {l1 : Int32} (h1 : kk K b = some (8, 0)) (h2 : gr x b 1 = some t) (h3 : kk K t = some (20, n)) (h4 : vp_in 0 n) (k : Q (b2i (0 ≤ l1 ∧ l1 ≤ gi x t 0 - 1)) x) : mSI mX8_isWeek [.ref b, .int l1] K x Q := v_X8_isWeek_0 h1 h2 h3 ⟨h4, k⟩
theorem sp_X8_good (h1 : kk K b = some (8, 0)) (k : Q (b2i (gi x b 11 = 0)) x) : mSI mX8_good [.ref b] K x Q := v_X8_good_0 h1 ⟨(b2i_k k).2, (b2i_k k).1⟩
theorem sp_X8_isComing {l1 : Int32} (h1 : kk K b = some (8, 0)) (h2 : gr x b 1 = some t) (h3 : kk K t = some (20, n)) (h4 : vp_in 4 n) (k : Q (b2i (gi x t 4 ≤ l1)) x) : mSI mX8_isComing [.ref b, .int l1] K x Q := v_X8_isComing_0 h1 h2 h3 ⟨h4, fun h => (b2i_k k).2 (Int32.not_le.mpr h), fun h => (b2i_k k).1 (Int32.not_lt.mp h)⟩
theorem sp_X5_openBits (h1 : kk K b = some (5, 0)) (k : Q (f_open x b) x) : mSI mX5_openBits [.ref b] K x Q := v_X5_openBits_0 h1 k
theorem sp_X5_heldBits (h1 : kk K b = some (5, 0)) (k : Q (f_held x b) x) : mSI mX5_heldBits [.ref b] K x Q := v_X5_heldBits_0 h1 k
theorem sp_X5_isOf {l1 l2 : Int32} (h1 : kk K b = some (5, 0)) (k : Q (b2i (gi x b 0 = l1 ∧ (l2 = -1 ∨ gi x b 1 = l2))) x) : mSI mX5_isOf [.ref b, .int l1, .int l2] K x Q :=
  v_X5_isOf_0 h1 ⟨fun h => (b2i_k k).2 (fun z => h z.1), fun h => ⟨fun h' => (b2i_k k).1 ⟨h, Or.inl h'⟩, fun h' => ⟨fun g => (b2i_k k).2 (fun z => z.2.elim h' g), fun g => (b2i_k k).1 ⟨h, Or.inr g⟩⟩⟩⟩
theorem sp_X0_wantedBits (h1 : kk K b = some (0, 0)) (k : Q (f_sb (gi x b 4) (gi x b 5)) x) : mSI mX0_wantedBits [.ref b] K x Q := v_X0_wantedBits_0 h1 k
theorem sp_X4_isOver (h1 : kk K b = some (4, 0)) (k : Q (b2i (gi x b 0 ≤ gi x b 1)) x) : mSI mX4_isOver [.ref b] K x Q := v_X4_isOver_0 h1 ⟨fun h => (b2i_k k).2 (Int32.not_le.mpr h), fun h => (b2i_k k).1 (Int32.not_lt.mp h)⟩
theorem sp_X7_hasText (h1 : kk K b = some (7, 0)) (h2 : gr x b 2 = some t) (h3 : kk K t = some (4, 0)) (k : Q (b2i (0 < gi x t 0)) x) : mSI mX7_hasText [.ref b] K x Q := v_X7_hasText_0 h1 h2 h3 ⟨fun h => (b2i_k k).2 (Int32.not_lt.mpr h), fun h => (b2i_k k).1 (Int32.not_le.mp h)⟩
theorem sp_X7_isSeries {l1 : Int32} (h1 : kk K b = some (7, 0)) (h2 : gr x b 2 = some t) (h3 : kk K t = some (4, 0)) (k : Q (b2i (0 ≤ l1 ∧ l1 < gi x t 3)) x) : mSI mX7_isSeries [.ref b, .int l1] K x Q := v_X7_isSeries_0 h1 h2 h3 ⟨fun h => (b2i_k k).2 (fun z => Int32.not_le.mpr h z.1), fun h => ⟨fun h' => (b2i_k k).2 (fun z => Int32.not_lt.mpr h' z.2), fun h' => (b2i_k k).1 ⟨Int32.not_lt.mp h, Int32.not_le.mp h'⟩⟩⟩
theorem sp_X7_isAsk {l1 : Int32} (h1 : kk K b = some (7, 0)) (h2 : gr x b 2 = some t) (h3 : kk K t = some (4, 0)) (k : Q (b2i (0 ≤ l1 ∧ l1 < gi x t 4)) x) : mSI mX7_isAsk [.ref b, .int l1] K x Q := v_X7_isAsk_0 h1 h2 h3 ⟨fun h => (b2i_k k).2 (fun z => Int32.not_le.mpr h z.1), fun h => ⟨fun h' => (b2i_k k).2 (fun z => Int32.not_lt.mpr h' z.2), fun h' => (b2i_k k).1 ⟨Int32.not_lt.mp h, Int32.not_le.mp h'⟩⟩⟩
theorem sp_X7_isCarrier {l1 : Int32} (h1 : kk K b = some (7, 0)) (h2 : gr x b 3 = some t) (h3 : kk K t = some (1, 0)) (k : Q (b2i (0 ≤ l1 ∧ l1 < gi x t 0)) x) : mSI mX7_isCarrier [.ref b, .int l1] K x Q := v_X7_isCarrier_0 h1 h2 h3 ⟨fun h => (b2i_k k).2 (fun z => Int32.not_le.mpr h z.1), fun h => ⟨fun h' => (b2i_k k).2 (fun z => Int32.not_lt.mpr h' z.2), fun h' => (b2i_k k).1 ⟨Int32.not_lt.mp h, Int32.not_le.mp h'⟩⟩⟩
theorem sp_X7_isWeek {l1 : Int32} (h1 : kk K b = some (7, 0)) (h2 : gr x b 2 = some t) (h3 : kk K t = some (4, 0)) (k : Q (b2i (0 ≤ l1 ∧ l1 < gi x t 0)) x) : mSI mX7_isWeek [.ref b, .int l1] K x Q := v_X7_isWeek_0 h1 h2 h3 ⟨fun h => (b2i_k k).2 (fun z => Int32.not_le.mpr h z.1), fun h => ⟨fun h' => (b2i_k k).2 (fun z => Int32.not_lt.mpr h' z.2), fun h' => (b2i_k k).1 ⟨Int32.not_lt.mp h, Int32.not_le.mp h'⟩⟩⟩
end SP2
end
/-! 20.bits.lean.txt -/
section
/-! bits of ints -/
def tb (v : Int32) (i : Nat) : Bool := v.toBitVec.getLsbD i
theorem tb_ext {a b : Int32} (h : ∀ i, i < 32 → tb a i = tb b i) : a = b := Int32.toBitVec.inj (BitVec.eq_of_getLsbD_eq (fun i hi => h i hi))
theorem tb_and (a b : Int32) (i : Nat) : tb (a &&& b) i = (tb a i && tb b i) := by simp [tb]
theorem tb_or (a b : Int32) (i : Nat) : tb (a ||| b) i = (tb a i || tb b i) := by simp [tb]
theorem tb_xor (a b : Int32) (i : Nat) : tb (a ^^^ b) i = (tb a i ^^ tb b i) := by simp [tb]
theorem tb_m1 {i : Nat} (h : i < 32) : tb (-1) i = true := by
  have : ∀ i, i < 32 → tb (-1) i = true := by decide +kernel
  exact this i h
theorem tb_not (a : Int32) {i : Nat} (h : i < 32) : tb (a ^^^ (-1)) i = !tb a i := by rw [tb_xor, tb_m1 h]; simp
theorem tb_0 (i : Nat) : tb 0 i = false := by simp [tb]
theorem tb_ge (v : Int32) {i : Nat} (h : 32 ≤ i) : tb v i = false := BitVec.getLsbD_of_ge _ _ h
theorem tn_nI (v : Int32) : nI v.toBitVec.toNat = v := Int32.toBitVec.inj (by
  apply BitVec.eq_of_toNat_eq
  exact Nat.mod_eq_of_lt v.toBitVec.isLt)
theorem tn_lt (v : Int32) : v.toBitVec.toNat < 2 ^ 32 := v.toBitVec.isLt
theorem tb_tn (v : Int32) (i : Nat) : tb v i = v.toBitVec.toNat.testBit i := rfl
theorem tb_nI {n : Nat} (h : n < 2 ^ 32) (i : Nat) : tb (nI n) i = n.testBit i := by rw [tb_tn, pk_tn h]
theorem tn_inj {a b : Int32} (h : a.toBitVec.toNat = b.toBitVec.toNat) : a = b := Int32.toBitVec.inj (BitVec.eq_of_toNat_eq h)
theorem and_one (v : Int32) : v &&& 1 = nI (v.toBitVec.toNat % 2) := pk_and v 1 (by decide)
theorem sh_amt : ∀ i, i < 32 → (((nI i).toUInt32 &&& Int32.toUInt32 31).toBitVec % 32).toNat = i := by decide +kernel
theorem sh_amt2 : ∀ i, i < 32 → ((nI i &&& 31).toBitVec.smod 32).toNat = i := by decide +kernel
theorem f_bit_tb (v : Int32) {i : Nat} (h : i < 32) : f_bit v (nI i) ↔ tb v i = true := by
  have h1 := pk_ushr v (nI i) i (sh_amt i h)
  show ¬ _ = 0 ↔ _
  rw [and_one, h1, tb_tn, Nat.testBit_eq_decide_div_mod_eq, decide_eq_true_iff]
  have h2 : v.toBitVec.toNat / 2 ^ i % 2 < 2 := Nat.mod_lt _ (by decide)
  rcases Nat.lt_or_ge 0 (v.toBitVec.toNat / 2 ^ i % 2) with q | q
  · have e : v.toBitVec.toNat / 2 ^ i % 2 = 1 := by omega
    rw [e]
    exact ⟨fun _ => rfl, fun _ => by decide⟩
  · have e : v.toBitVec.toNat / 2 ^ i % 2 = 0 := by omega
    rw [e]
    exact ⟨fun z => absurd (by decide) z, fun z => by omega⟩
theorem f_has_tb (v : Int32) {i : Nat} (h : i < 32) : f_has v (nI i) ↔ tb v i = true := by
  show _ = 1 ↔ _
  rw [and_one]
  have e : (v >>> (nI i &&& 31)).toBitVec.toNat % 2 = if tb v i then 1 else 0 := by
    have h1 : tb (v >>> (nI i &&& 31)) 0 = tb v i := by
      unfold tb
      rw [Int32.toBitVec_shiftRight]
      show BitVec.getLsbD (v.toBitVec.sshiftRight (((nI i &&& 31).toBitVec.smod 32).toNat)) 0 = _
      rw [sh_amt2 i h, BitVec.getLsbD_sshiftRight]
      simp [h]
    rw [tb_tn, Nat.testBit_eq_decide_div_mod_eq] at h1
    simp only [Nat.pow_zero, Nat.div_one] at h1
    by_cases q : tb v i = true
    · rw [if_pos q]
      rw [q] at h1
      exact of_decide_eq_true h1
    · rw [if_neg q]
      have q' : tb v i = false := by simpa using q
      rw [q'] at h1
      have := of_decide_eq_false h1
      omega
  rw [e]
  by_cases q : tb v i = true
  · rw [if_pos q]
    exact ⟨fun _ => q, fun _ => by decide⟩
  · rw [if_neg q]
    exact ⟨fun z => absurd z (by decide), fun z => absurd z q⟩
theorem tb_one : ∀ s, s < 32 → ∀ i, i < 32 → tb ((1 : Int32) <<< (nI s &&& 31)) i = decide (i = s) := by decide +kernel
theorem msk_tb {a b i : Nat} : (2 ^ a * (2 ^ (b + 1 - a) - 1)).testBit i = decide (a ≤ i ∧ i ≤ b) := by
  rw [Nat.testBit_two_pow_mul, Nat.testBit_two_pow_sub_one, ← Bool.decide_and, decide_eq_decide]
  omega
theorem msk_lt : ∀ a, a < 31 → ∀ b, b < 30 → 2 ^ a * (2 ^ (b + 1 - a) - 1) < 2 ^ 32 := by decide +kernel
theorem sb_val : ∀ a, a < 30 → ∀ b, b < 30 → a ≤ b → f_sb (nI a) (nI b) = nI (2 ^ a * (2 ^ (b + 1 - a) - 1)) := by decide +kernel
theorem span_val : ∀ a, a < 31 → ∀ b, b < 30 → f_span (nI a) (nI b) = nI (2 ^ a * (2 ^ (b + 1 - a) - 1)) := by decide +kernel
theorem tb_sb0 : ∀ a, a < 30 → ∀ b, b < 30 → a ≤ b → ∀ i, i < 32 → tb (f_sb (nI a) (nI b)) i = decide (a ≤ i ∧ i ≤ b) := fun a ha b hb h i _ => by rw [sb_val a ha b hb h, tb_nI (msk_lt a (Nat.lt_succ_of_lt ha) b hb), msk_tb]
theorem tb_span0 : ∀ a, a < 31 → ∀ b, b < 30 → ∀ i, i < 32 → tb (f_span (nI a) (nI b)) i = decide (a ≤ i ∧ i ≤ b) := fun a ha b hb i _ => by rw [span_val a ha b hb, tb_nI (msk_lt a ha b hb), msk_tb]
theorem tb_bf0 : ∀ a, a < 31 → ∀ i, i < 32 → tb (f_bf (nI a)) i = decide (a ≤ i) := by decide +kernel
/-! counts of bits -/
def npc : Nat → Nat → Nat
  | 0, _ => 0
  | k + 1, n => n % 2 + npc k (n / 2)
def cpt (v : Int32) : Nat := npc 32 v.toBitVec.toNat
theorem npc_le : ∀ k n, npc k n ≤ k := by
  intro k
  induction k with
  | zero => intro n; exact Nat.le_refl 0
  | succ k ih =>
    intro n
    have := ih (n / 2)
    have := Nat.mod_lt n (y := 2) (by decide)
    simp only [npc]
    omega
theorem npc_split : ∀ j k n, npc (j + k) n = npc j (n % 2 ^ j) + npc k (n / 2 ^ j) := by
  intro j
  induction j with
  | zero => intro k n; simp [npc]
  | succ j ih =>
    intro k n
    rw [show j + 1 + k = (j + k) + 1 by omega]
    simp only [npc]
    rw [ih]
    have e1 : n % 2 ^ (j + 1) % 2 = n % 2 := Nat.mod_mod_of_dvd n ⟨2 ^ j, by rw [Nat.pow_succ, Nat.mul_comm]⟩
    have e2 : n % 2 ^ (j + 1) / 2 = n / 2 % 2 ^ j := by
      rw [Nat.pow_succ, Nat.mul_comm, Nat.mod_mul_right_div_self]
    have e3 : n / 2 ^ (j + 1) = n / 2 / 2 ^ j := by rw [Nat.pow_succ, Nat.mul_comm, Nat.div_div_eq_div_mul]
    rw [e1, e2, e3]
    omega
theorem land_split (i : Nat) {a b c d : Nat} (hb : b < 2 ^ i) (hd : d < 2 ^ i) : (2 ^ i * a + b) &&& (2 ^ i * c + d) = 2 ^ i * (a &&& c) + (b &&& d) := by
  have hbd : (b &&& d) < 2 ^ i := Nat.lt_of_le_of_lt Nat.and_le_left hb
  apply Nat.eq_of_testBit_eq
  intro j
  rw [Nat.testBit_and, Nat.testBit_two_pow_mul_add a hb, Nat.testBit_two_pow_mul_add c hd, Nat.testBit_two_pow_mul_add _ hbd]
  by_cases h : j < i
  · simp [h]
  · simp [h]
theorem nI_and {a b : Nat} (ha : a < 2 ^ 32) (hb : b < 2 ^ 32) : nI a &&& nI b = nI (a &&& b) := by
  apply tb_ext
  intro i _
  rw [tb_and, tb_nI ha, tb_nI hb, tb_nI (Nat.lt_of_le_of_lt Nat.and_le_left ha), Nat.testBit_and]
theorem npc_clear : ∀ k n, 0 < n → n < 2 ^ k → npc k (n &&& (n - 1)) + 1 = npc k n := by
  intro k
  induction k with
  | zero => intro n h1 h2; simp at h2; omega
  | succ k ih =>
    intro n h1 h2
    rcases Nat.mod_two_eq_zero_or_one n with e | e
    · have hm : 0 < n / 2 := by omega
      have e1 : n &&& (n - 1) = 2 * (n / 2 &&& (n / 2 - 1)) := by
        have := land_split 1 (a := n / 2) (b := 0) (c := n / 2 - 1) (d := 1) (by decide) (by decide)
        rw [show (2 : Nat) ^ 1 * (n / 2) + 0 = n by omega, show (2 : Nat) ^ 1 * (n / 2 - 1) + 1 = n - 1 by omega] at this
        rw [this]
        simp
      simp only [npc]
      rw [e1, Nat.mul_mod_right, Nat.mul_div_cancel_left _ (by decide), e]
      have := ih (n / 2) hm (by rw [Nat.pow_succ] at h2; omega)
      omega
    · have e1 : n &&& (n - 1) = 2 * (n / 2) := by
        have := land_split 1 (a := n / 2) (b := 1) (c := n / 2) (d := 0) (by decide) (by decide)
        rw [show (2 : Nat) ^ 1 * (n / 2) + 1 = n by omega, show (2 : Nat) ^ 1 * (n / 2) + 0 = n - 1 by omega] at this
        rw [this]
        simp
      simp only [npc]
      rw [e1, Nat.mul_mod_right, Nat.mul_div_cancel_left _ (by decide), e]
      omega
theorem cpt_clear (v : Int32) (h : ¬ v = 0) : cpt (v &&& (v - 1)) + 1 = cpt v := by
  have h0 : 0 < v.toBitVec.toNat := by
    rcases Nat.eq_zero_or_pos v.toBitVec.toNat with q | q
    · exact absurd (tn_inj (b := 0) (by rw [q]; rfl)) h
    · exact q
  have e : v &&& (v - 1) = nI (v.toBitVec.toNat &&& (v.toBitVec.toNat - 1)) := by
    have e1 : v - 1 = nI (v.toBitVec.toNat - 1) := by
      have := nI_pred (v.toBitVec.toNat - 1)
      rw [show v.toBitVec.toNat - 1 + 1 = v.toBitVec.toNat by omega, tn_nI] at this
      exact this
    have hl := tn_lt v
    rw [← nI_and hl (by omega), ← e1, tn_nI]
  unfold cpt
  rw [e, pk_tn (Nat.lt_of_le_of_lt Nat.and_le_left (tn_lt v))]
  exact npc_clear 32 _ h0 (tn_lt v)
theorem cpt_0 : cpt 0 = 0 := by decide +kernel
theorem npc_0 : ∀ k, npc k 0 = 0 := by
  intro k
  induction k with
  | zero => rfl
  | succ k ih => simp only [npc]; rw [Nat.zero_div, ih]
theorem npc_pos : ∀ k n, 0 < n → n < 2 ^ k → 0 < npc k n := by
  intro k
  induction k with
  | zero => intro n h1 h2; simp at h2; omega
  | succ k ih =>
    intro n h1 h2
    simp only [npc]
    rcases Nat.mod_two_eq_zero_or_one n with e | e
    · have := ih (n / 2) (by omega) (by rw [Nat.pow_succ] at h2; omega)
      omega
    · omega
theorem cpt_le (v : Int32) : cpt v ≤ 32 := npc_le 32 _
end
/-! 21.counts.lean.txt -/
section
/-! the two counts of bits are one -/
def st1 (n : Nat) : Nat := n - (n / 2 &&& 21845)
def st2 (n : Nat) : Nat := (n &&& 13107) + (n / 4 &&& 13107)
def st3 (n : Nat) : Nat := (n + n / 16) &&& 3855
def stA (n : Nat) : Nat := st3 (st2 (st1 n))
def by1 (n : Nat) : Nat := n - (n / 2 &&& 85)
def by2 (n : Nat) : Nat := (n &&& 51) + (n / 4 &&& 51)
def by3 (n : Nat) : Nat := (n + n / 16) &&& 15
theorem by_ok : ∀ b, b < 256 → (b / 2 &&& 85) ≤ b ∧ by1 b ≤ 170 ∧ by2 (by1 b) ≤ 68 ∧ by2 (by1 b) % 16 ≤ 4 ∧ by2 (by1 b) / 16 ≤ 4 ∧ by3 (by2 (by1 b)) = npc 8 b := by decide +kernel
theorem hi_and {b l : Nat} (hl : l < 32768) (m : Nat) (hm : m < 32768) : (32768 * b + l) &&& m = l &&& m := by
  have := land_split 15 (a := b) (b := l) (c := 0) (d := m) (by omega) (by omega)
  rw [show (2 : Nat) ^ 15 = 32768 by decide] at this
  simpa using this
theorem hi_and4 {b l : Nat} (hl : l < 16384) (m : Nat) (hm : m < 16384) : (16384 * b + l) &&& m = l &&& m := by
  have := land_split 14 (a := b) (b := l) (c := 0) (d := m) (by omega) (by omega)
  rw [show (2 : Nat) ^ 14 = 16384 by decide] at this
  simpa using this
theorem hi_and12 {b l : Nat} (hl : l < 4096) (m : Nat) (hm : m < 4096) : (4096 * b + l) &&& m = l &&& m := by
  have := land_split 12 (a := b) (b := l) (c := 0) (d := m) (by omega) (by omega)
  rw [show (2 : Nat) ^ 12 = 4096 by decide] at this
  simpa using this
theorem hi_and7 {b l : Nat} (hl : l < 128) (m : Nat) (hm : m < 128) : (128 * b + l) &&& m = l &&& m := by
  have := land_split 7 (a := b) (b := l) (c := 0) (d := m) (by omega) (by omega)
  rw [show (2 : Nat) ^ 7 = 128 by decide] at this
  simpa using this
theorem hi_and6 {b l : Nat} (hl : l < 64) (m : Nat) (hm : m < 64) : (64 * b + l) &&& m = l &&& m := by
  have := land_split 6 (a := b) (b := l) (c := 0) (d := m) (by omega) (by omega)
  rw [show (2 : Nat) ^ 6 = 64 by decide] at this
  simpa using this
theorem and15 (n : Nat) : n &&& 15 = n % 16 := Nat.and_two_pow_sub_one_eq_mod n 4
theorem one_and {H L P Q : Nat} (hL : L < 256) (hQ : Q < 256) : (256 * H + L) &&& (256 * P + Q) = 256 * (H &&& P) + (L &&& Q) := by
  have := land_split 8 (a := H) (b := L) (c := P) (d := Q) (by omega) (by omega)
  rwa [show (2 : Nat) ^ 8 = 256 by decide] at this
theorem s16 {a b : Nat} (ha : a < 256) (hb : b < 256) : ((256 * a + b) / 2 &&& 21845) ≤ 256 * a + b ∧ st1 (256 * a + b) = 256 * by1 a + by1 b ∧ st2 (256 * by1 a + by1 b) = 256 * by2 (by1 a) + by2 (by1 b) ∧ st3 (256 * by2 (by1 a) + by2 (by1 b)) = 256 * npc 8 a + npc 8 b := by
  obtain ⟨a1, a2, a3, a4, a5, a6⟩ := by_ok a ha
  obtain ⟨b1, b2, b3, b4, b5, b6⟩ := by_ok b hb
  have e1 : (256 * a + b) / 2 &&& 21845 = 256 * (a / 2 &&& 85) + (b / 2 &&& 85) := by
    have e : (256 * a + b) / 2 = 256 * (a / 2) + (128 * (a % 2) + b / 2) := by omega
    rw [e, show (21845 : Nat) = 256 * 85 + 85 by decide, one_and (by omega) (by decide), hi_and7 (by omega) _ (by decide)]
  refine ⟨by rw [e1]; omega, ?_, ?_, ?_⟩
  · unfold st1
    rw [e1]
    unfold by1
    omega
  · have h1 : by1 a < 256 := by omega
    have h2 : by1 b < 256 := by omega
    have e : (256 * by1 a + by1 b) / 4 = 256 * (by1 a / 4) + (64 * (by1 a % 4) + by1 b / 4) := by omega
    unfold st2
    rw [e, show (13107 : Nat) = 256 * 51 + 51 by decide, one_and h2 (by decide), one_and (by omega) (by decide), hi_and6 (by omega) _ (by decide)]
    unfold by2
    omega
  · have e : (256 * by2 (by1 a) + by2 (by1 b)) + (256 * by2 (by1 a) + by2 (by1 b)) / 16 = 256 * (by2 (by1 a) + by2 (by1 a) / 16) + (16 * (by2 (by1 a) % 16) + (by2 (by1 b) + by2 (by1 b) / 16)) := by omega
    unfold st3
    rw [e, show (3855 : Nat) = 256 * 15 + 15 by decide, one_and (by omega) (by decide)]
    have e2 : (16 * (by2 (by1 a) % 16) + (by2 (by1 b) + by2 (by1 b) / 16)) &&& 15 = (by2 (by1 b) + by2 (by1 b) / 16) &&& 15 := by
      rw [and15, and15]
      omega
    rw [e2, ← a6, ← b6]
    rfl
theorem stA_ok {n : Nat} (h : n < 65536) : (n / 2 &&& 21845) ≤ n ∧ st1 n ≤ 43690 ∧ st2 (st1 n) ≤ 17476 ∧ st2 (st1 n) % 16 ≤ 4 ∧ ∃ p q, stA n = 256 * p + q ∧ p ≤ 8 ∧ q ≤ 8 ∧ npc 16 n = p + q := by
  obtain ⟨h1, h2, h3, h4⟩ := s16 (a := n / 256) (b := n % 256) (by omega) (by omega)
  obtain ⟨a1, a2, a3, a4, a5, a6⟩ := by_ok (n / 256) (by omega)
  obtain ⟨b1, b2, b3, b4, b5, b6⟩ := by_ok (n % 256) (by omega)
  rw [show 256 * (n / 256) + n % 256 = n by omega] at h1 h2
  refine ⟨h1, by rw [h2]; omega, by rw [h2, h3]; omega, by rw [h2, h3]; omega, npc 8 (n / 256), npc 8 (n % 256), ?_, npc_le _ _, npc_le _ _, ?_⟩
  · unfold stA
    rw [h2, h3, h4]
  · have := npc_split 8 8 n
    rw [show (2 : Nat) ^ 8 = 256 by decide] at this
    rw [show (16 : Nat) = 8 + 8 by decide, this]
    omega
theorem two_and {H L P Q : Nat} (hL : L < 65536) (hQ : Q < 65536) : (65536 * H + L) &&& (65536 * P + Q) = 65536 * (H &&& P) + (L &&& Q) := by
  have := land_split 16 (a := H) (b := L) (c := P) (d := Q) (by omega) (by omega)
  rwa [show (2 : Nat) ^ 16 = 65536 by decide] at this
theorem w_1 {H L : Nat} (hH : H < 65536) (hL : L < 65536) : (65536 * H + L) / 2 &&& 1431655765 = 65536 * (H / 2 &&& 21845) + (L / 2 &&& 21845) := by
  have e : (65536 * H + L) / 2 = 65536 * (H / 2) + (32768 * (H % 2) + L / 2) := by omega
  rw [e, show (1431655765 : Nat) = 65536 * 21845 + 21845 by decide, two_and (by omega) (by decide), hi_and (by omega) _ (by decide)]
theorem w_2 {H L : Nat} (hH : H < 65536) (hL : L < 65536) : ((65536 * H + L) &&& 858993459) + ((65536 * H + L) / 4 &&& 858993459) = 65536 * st2 H + st2 L := by
  have e : (65536 * H + L) / 4 = 65536 * (H / 4) + (16384 * (H % 4) + L / 4) := by omega
  rw [e, show (858993459 : Nat) = 65536 * 13107 + 13107 by decide, two_and hL (by decide), two_and (by omega) (by decide), hi_and4 (by omega) _ (by decide)]
  unfold st2
  omega
theorem w_3 {H L : Nat} (hH : H ≤ 17476) (hL : L ≤ 17476) (h4 : H % 16 ≤ 4) : ((65536 * H + L) + (65536 * H + L) / 16) &&& 252645135 = 65536 * st3 H + st3 L := by
  have e : (65536 * H + L) + (65536 * H + L) / 16 = 65536 * (H + H / 16) + (4096 * (H % 16) + (L + L / 16)) := by omega
  have e2 : (4096 * (H % 16) + (L + L / 16)) < 65536 := by omega
  rw [e, show (252645135 : Nat) = 65536 * 3855 + 3855 by decide, two_and e2 (by decide)]
  have e3 : 4096 * (H % 16) + (L + L / 16) = 4096 * (H % 16 + (L + L / 16) / 4096) + (L + L / 16) % 4096 := by omega
  have e4 : (4096 * (H % 16) + (L + L / 16)) &&& 3855 = (L + L / 16) &&& 3855 := by
    rw [e3, hi_and12 (by omega) _ (by decide)]
    have e5 : L + L / 16 = 4096 * ((L + L / 16) / 4096) + (L + L / 16) % 4096 := by omega
    have e6 : (L + L / 16) &&& 3855 = (L + L / 16) % 4096 &&& 3855 := by
      have := hi_and12 (b := (L + L / 16) / 4096) (l := (L + L / 16) % 4096) (by omega) 3855 (by decide)
      rwa [← e5] at this
    rw [e6]
  rw [e4]
  rfl
theorem f_sh_n {n k : Nat} (hn : n < 2 ^ 32) (hk : k < 32) : f_sh (nI n) (nI k) = nI (n / 2 ^ k) := by
  apply tn_inj
  unfold f_sh
  rw [pk_ushr (nI n) (nI k) k (sh_amt k hk), pk_tn hn, pk_tn (Nat.lt_of_le_of_lt (Nat.div_le_self _ _) hn)]
theorem bc1 {H L : Nat} (hH : H < 65536) (hL : L < 65536) (h1 : (H / 2 &&& 21845) ≤ H) (l1 : (L / 2 &&& 21845) ≤ L) : f_b1 (nI (65536 * H + L)) = nI (65536 * st1 H + st1 L) := by
  have hN : 65536 * H + L < 2 ^ 32 := by omega
  have hD : (65536 * H + L) / 2 < 2 ^ 32 := Nat.lt_of_le_of_lt (Nat.div_le_self _ _) hN
  unfold f_b1
  rw [show (1 : Int32) = nI 1 by decide, f_sh_n hN (by decide), show (1431655765 : Int32) = nI 1431655765 by decide, show (2 : Nat) ^ 1 = 2 by decide, nI_and hD (by decide), w_1 hH hL]
  unfold st1
  rw [pk_sub (by omega)]
  congr 1
  omega
theorem bc2 {H L : Nat} (hH : H ≤ 43690) (hL : L ≤ 43690) : f_b2 (nI (65536 * H + L)) = nI (65536 * st2 H + st2 L) := by
  have hN : 65536 * H + L < 2 ^ 32 := by omega
  have hD : (65536 * H + L) / 4 < 2 ^ 32 := Nat.lt_of_le_of_lt (Nat.div_le_self _ _) hN
  unfold f_b2
  rw [show (2 : Int32) = nI 2 by decide, f_sh_n hN (by decide), show (858993459 : Int32) = nI 858993459 by decide, show (2 : Nat) ^ 2 = 4 by decide, nI_and hN (by decide), nI_and hD (by decide), nI_add, w_2 (by omega) (by omega)]
theorem bc3 {H L : Nat} (hH : H ≤ 17476) (hL : L ≤ 17476) (h4 : H % 16 ≤ 4) : f_b3 (nI (65536 * H + L)) = nI (65536 * st3 H + st3 L) := by
  have hN : 65536 * H + L < 2 ^ 32 := by omega
  have hD : 65536 * H + L + (65536 * H + L) / 16 < 2 ^ 32 := by omega
  unfold f_b3
  rw [show (4 : Int32) = nI 4 by decide, f_sh_n hN (by decide), show (252645135 : Int32) = nI 252645135 by decide, nI_add, show (2 : Nat) ^ 4 = 16 by decide, nI_and hD (by decide), w_3 hH hL h4]
theorem bc4 {A : Nat} (h : A < 2 ^ 32) : f_b4 (nI A) = nI (A + A / 256) := by
  unfold f_b4
  rw [show (8 : Int32) = nI 8 by decide, f_sh_n h (by decide), nI_add]
theorem bc5 {A : Nat} (h : A < 2 ^ 32) : f_b5 (nI A) = nI (A + A / 65536) := by
  unfold f_b5
  rw [show (16 : Int32) = nI 16 by decide, f_sh_n h (by decide), nI_add]
theorem bc_fin {p q u w A : Nat} (hA : A = 65536 * (256 * p + q) + (256 * u + w)) (hp : p ≤ 8) (hq : q ≤ 8) (hu : u ≤ 8) (hw : w ≤ 8) : A < 2 ^ 32 ∧ A + A / 256 < 2 ^ 32 ∧ A + A / 256 + (A + A / 256) / 65536 < 2 ^ 32 ∧ (A + A / 256 + (A + A / 256) / 65536) % 64 = u + w + (p + q) := by
  have x1 : A / 256 = 65536 * p + 256 * q + u := by omega
  rw [x1]
  have x2 : (A + (65536 * p + 256 * q + u)) / 65536 = 256 * p + q + p := by omega
  rw [x2]
  clear x1 x2
  refine ⟨?_, ?_, ?_, ?_⟩ <;> omega
theorem hl_mod {H L : Nat} (hL : L < 65536) : (65536 * H + L) % 65536 = L := by omega
theorem hl_div {H L : Nat} (hL : L < 65536) : (65536 * H + L) / 65536 = H := by omega
theorem f_bc_cpt (v : Int32) : f_bc v = nI (cpt v) := by
  obtain ⟨N, hN, rfl⟩ : ∃ N, N < 2 ^ 32 ∧ v = nI N := ⟨_, tn_lt v, (tn_nI v).symm⟩
  obtain ⟨H, L, hH, hL, rfl⟩ : ∃ H L, H < 65536 ∧ L < 65536 ∧ N = 65536 * H + L := ⟨N / 65536, N % 65536, by omega, by omega, by omega⟩
  obtain ⟨h1, h2, h3, h4, p, q, h5, h6, h7, h8⟩ := stA_ok hH
  obtain ⟨l1, l2, l3, l4, u, w, l5, l6, l7, l8⟩ := stA_ok hL
  obtain ⟨f1, f2, f3, f4⟩ := bc_fin (A := 65536 * stA H + stA L) (by rw [h5, l5]) h6 h7 l6 l7
  have c3 : f_b3 (nI (65536 * st2 (st1 H) + st2 (st1 L))) = nI (65536 * stA H + stA L) := bc3 h3 l3 h4
  unfold f_bc
  rw [bc1 hH hL h1 l1, bc2 h2 l2, c3, bc4 f1, bc5 f2, show (63 : Int32) = nI 63 by decide, pk_andN f3 6 (by decide)]
  unfold cpt
  rw [pk_tn hN, show (32 : Nat) = 16 + 16 by decide, npc_split, show (2 : Nat) ^ 16 = 65536 by decide, hl_mod hL, hl_div hL, h8, l8, show (2 : Nat) ^ 6 = 64 by decide, f4]
section SP3
variable {K : Sh} {x : Cn} {Q : Int32 → Cn → Prop}
theorem lp_X8_bits {l0 : Int32} : ∀ (n : Nat) (l1 l2 : Int32), cpt l2 = n → Q (l1 + nI n) x → GI mX8_bits 4 [some (.int l0), some (.int l1), some (.int l2)] [] K x Q := by
  intro n
  induction n with
  | zero =>
    intro l1 l2 h k
    refine v_X8_bits_4 ⟨fun q => ?_, fun q => ?_⟩
    · rw [nI_0, Int32.add_zero] at k
      exact k
    · have := cpt_clear l2 q
      omega
  | succ n ih =>
    intro l1 l2 h k
    refine v_X8_bits_4 ⟨fun q => ?_, fun q => ?_⟩
    · rw [q, cpt_0] at h
      omega
    · have := cpt_clear l2 q
      refine ih _ _ (by omega) ?_
      rw [show l1 + 1 + nI n = l1 + nI (n + 1) by rw [nI_succ, Int32.add_assoc, Int32.add_comm 1]]
      exact k
theorem sp_X8_bits {a : Int32} (k : Q (nI (cpt a)) x) : mSI mX8_bits [.int a] K x Q := v_X8_bits_0 (lp_X8_bits (cpt a) _ _ rfl (by rw [Int32.zero_add]; exact k))
end SP3
end
/-! 21.z3.lean.txt -/
section
abbrev f_kw (b g : Int32) : Prop := 0 < b ∧ 4 * b ≤ 5 * g
abbrev f_safe (x : Cn) (b : Nat) : Prop := f_kw (nI (cpt (f_held x b))) (nI (cpt (gi x b 8 ||| gi x b 10)))
abbrev f_lost (x : Cn) (b : Nat) : Prop := ¬ f_kw (nI (cpt (f_held x b))) (nI (cpt (gi x b 8 ||| gi x b 10)) + nI (cpt (f_open x b)))
def f_wtc (a b : Int32) : Int32 := if b ≤ a then 0 else f_sb a (b - 1)
section SP3
variable {K : Sh} {x : Cn} {Q : Int32 → Cn → Prop} {b t n : Nat}
theorem sp_bc {a : Int32} (k : Q (nI (cpt a)) x) : mSI mJ6_bitCount_0f7a4 [.int a] K x Q := sp_J6_bitCount_0f7a4 (by rw [f_bc_cpt]; exact k)
end SP3
end
/-! 22.small2.lean.txt -/
section
set_option maxHeartbeats 2000000 in
theorem v_X8_isDay_0 {K : Sh} {x : Cn} {Q : Int32 → Cn → Prop} {b0 : Nat} {l1 : Int32} {b0_1 : Nat} {n_b0_1 : Nat} (k_b0 : kk K b0 = some (8, 0)) (g_b0_1 : gr x b0 1 = some b0_1) (k_b0_1 : kk K b0_1 = some (20, n_b0_1)) (K0 : vp_in 0 n_b0_1 ∧ ((¬ (0 < gi x b0_1 0) → (Q 0 x)) ∧ ((0 < gi x b0_1 0) → ((¬ (0 ≤ l1 ∧ l1 ≤ 6) → (Q 0 x)) ∧ ((0 ≤ l1 ∧ l1 ≤ 6) → (Q 1 x)))))) : mSI mX8_isDay [.ref b0, .int l1] K x Q := by
  refine s_I (by decide) (by simp [Value.category]) (Nat.le_of_ble_eq_true rfl) ?_
  show mGM mX8_isDay 0 [some (.ref b0), some (.int l1)] [] (hp K x) (PI K Q)
  refine r_aload_n (pc := 0) dX8_isDay_0 rfl ?_
  obtain ⟨i_1, K0⟩ := K0
  refine s_VI (pc := 1) mX8_isThere (ci := 8) (a := b0) (As := []) dX8_isDay_1 lk_X8_49 in_X8_isThere mo_X8_isThere ⟨by decide, rfl⟩ ⟨by decide, by decide⟩ (Nat.le_of_ble_eq_true rfl) k_b0 (sp_X8_isThere k_b0 g_b0_1 k_b0_1 i_1 ?_)
  refine r_if_eq (pc := 4) (tgt := 23) dX8_isDay_4 (by decide) (fun q => ?_) (fun q => ?_)
  · have q := (b2i_z _).mp q
    have K0 := K0.1 q
    refine r_iconst (pc := 23) (v := 0) dX8_isDay_23 (by decide) ?_
    exact s_zret rfl (by decide) dX8_isDay_24 K0
  · have q := b2i_nz q
    have K0 := K0.2 q
    refine r_iload_n (pc := 7) dX8_isDay_7 rfl ?_
    refine r_i2l (pc := 8) dX8_isDay_8 ?_
    refine r_lconst (pc := 9) (v := 0) dX8_isDay_9 (by decide) ?_
    refine r_ldc2 (pc := 10) (v := 6) dX8_isDay_10 cn_X8_53 ?_
    refine s_SI (pc := 13) mX8_in (As := [.long ((l1 : Int32).toInt64), .long 0, .long 6]) dX8_isDay_13 lk_X8_45 st_X8_in mo_X8_in ⟨by decide, by decide⟩ (Nat.le_of_ble_eq_true rfl) (sq_X8_in (v := l1) (lo := 0) (hi := 6) rfl (by decide) (by decide) ?_)
    refine r_if_eq (pc := 16) (tgt := 23) dX8_isDay_16 (by decide) (fun q => ?_) (fun q => ?_)
    · have q := (b2i_z _).mp q
      have K0 := K0.1 q
      refine r_iconst (pc := 23) (v := 0) dX8_isDay_23 (by decide) ?_
      exact s_zret rfl (by decide) dX8_isDay_24 K0
    · have q := b2i_nz q
      have K0 := K0.2 q
      refine r_iconst (pc := 19) (v := 1) dX8_isDay_19 (by decide) ?_
      refine r_goto (pc := 20) (tgt := 24) dX8_isDay_20 (by decide) ?_
      exact s_zret rfl (by decide) dX8_isDay_24 K0
section
variable {K : Sh} {x : Cn} {Q : Int32 → Cn → Prop} {b t n : Nat}
theorem sp_X8_isDay {l1 : Int32} (h1 : kk K b = some (8, 0)) (h2 : gr x b 1 = some t) (h3 : kk K t = some (20, n)) (h4 : vp_in 0 n) (k : Q (b2i (0 < gi x t 0 ∧ 0 ≤ l1 ∧ l1 ≤ 6)) x) : mSI mX8_isDay [.ref b, .int l1] K x Q :=
  v_X8_isDay_0 h1 h2 h3 ⟨h4, fun h => (b2i_k k).2 (fun z => h z.1), fun h => ⟨fun g => (b2i_k k).2 (fun z => g z.2), fun g => (b2i_k k).1 ⟨h, g⟩⟩⟩
end
set_option maxHeartbeats 2000000 in
theorem v_X8_isHour_0 {K : Sh} {x : Cn} {Q : Int32 → Cn → Prop} {b0 : Nat} {l1 : Int32} {b0_1 : Nat} {n_b0_1 : Nat} (k_b0 : kk K b0 = some (8, 0)) (g_b0_1 : gr x b0 1 = some b0_1) (k_b0_1 : kk K b0_1 = some (20, n_b0_1)) (K0 : vp_in 0 n_b0_1 ∧ ((¬ (0 < gi x b0_1 0) → (Q 0 x)) ∧ ((0 < gi x b0_1 0) → ((¬ (0 ≤ l1 ∧ l1 ≤ 23) → (Q 0 x)) ∧ ((0 ≤ l1 ∧ l1 ≤ 23) → (Q 1 x)))))) : mSI mX8_isHour [.ref b0, .int l1] K x Q := by
  refine s_I (by decide) (by simp [Value.category]) (Nat.le_of_ble_eq_true rfl) ?_
  show mGM mX8_isHour 0 [some (.ref b0), some (.int l1)] [] (hp K x) (PI K Q)
  refine r_aload_n (pc := 0) dX8_isHour_0 rfl ?_
  obtain ⟨i_1, K0⟩ := K0
  refine s_VI (pc := 1) mX8_isThere (ci := 8) (a := b0) (As := []) dX8_isHour_1 lk_X8_49 in_X8_isThere mo_X8_isThere ⟨by decide, rfl⟩ ⟨by decide, by decide⟩ (Nat.le_of_ble_eq_true rfl) k_b0 (sp_X8_isThere k_b0 g_b0_1 k_b0_1 i_1 ?_)
  refine r_if_eq (pc := 4) (tgt := 23) dX8_isHour_4 (by decide) (fun q => ?_) (fun q => ?_)
  · have q := (b2i_z _).mp q
    have K0 := K0.1 q
    refine r_iconst (pc := 23) (v := 0) dX8_isHour_23 (by decide) ?_
    exact s_zret rfl (by decide) dX8_isHour_24 K0
  · have q := b2i_nz q
    have K0 := K0.2 q
    refine r_iload_n (pc := 7) dX8_isHour_7 rfl ?_
    refine r_i2l (pc := 8) dX8_isHour_8 ?_
    refine r_lconst (pc := 9) (v := 0) dX8_isHour_9 (by decide) ?_
    refine r_ldc2 (pc := 10) (v := 23) dX8_isHour_10 cn_X8_55 ?_
    refine s_SI (pc := 13) mX8_in (As := [.long ((l1 : Int32).toInt64), .long 0, .long 23]) dX8_isHour_13 lk_X8_45 st_X8_in mo_X8_in ⟨by decide, by decide⟩ (Nat.le_of_ble_eq_true rfl) (sq_X8_in (v := l1) (lo := 0) (hi := 23) rfl (by decide) (by decide) ?_)
    refine r_if_eq (pc := 16) (tgt := 23) dX8_isHour_16 (by decide) (fun q => ?_) (fun q => ?_)
    · have q := (b2i_z _).mp q
      have K0 := K0.1 q
      refine r_iconst (pc := 23) (v := 0) dX8_isHour_23 (by decide) ?_
      exact s_zret rfl (by decide) dX8_isHour_24 K0
    · have q := b2i_nz q
      have K0 := K0.2 q
      refine r_iconst (pc := 19) (v := 1) dX8_isHour_19 (by decide) ?_
      refine r_goto (pc := 20) (tgt := 24) dX8_isHour_20 (by decide) ?_
      exact s_zret rfl (by decide) dX8_isHour_24 K0
section
variable {K : Sh} {x : Cn} {Q : Int32 → Cn → Prop} {b t n : Nat}
theorem sp_X8_isHour {l1 : Int32} (h1 : kk K b = some (8, 0)) (h2 : gr x b 1 = some t) (h3 : kk K t = some (20, n)) (h4 : vp_in 0 n) (k : Q (b2i (0 < gi x t 0 ∧ 0 ≤ l1 ∧ l1 ≤ 23)) x) : mSI mX8_isHour [.ref b, .int l1] K x Q :=
  v_X8_isHour_0 h1 h2 h3 ⟨h4, fun h => (b2i_k k).2 (fun z => h z.1), fun h => ⟨fun g => (b2i_k k).2 (fun z => g z.2), fun g => (b2i_k k).1 ⟨h, g⟩⟩⟩
end
set_option maxHeartbeats 2000000 in
theorem v_X8_isPlace_0 {K : Sh} {x : Cn} {Q : Int32 → Cn → Prop} {b0 : Nat} {l1 : Int32} {l2 : Int32} {l3 : Int32} {b0_1 : Nat} {n_b0_1 : Nat} (k_b0 : kk K b0 = some (8, 0)) (g_b0_1 : gr x b0 1 = some b0_1) (k_b0_1 : kk K b0_1 = some (20, n_b0_1)) (K0 : vp_in 0 n_b0_1 ∧ ((¬ (0 ≤ l1 ∧ l1 ≤ gi x b0_1 0 - 1) → (Q 0 x)) ∧ ((0 ≤ l1 ∧ l1 ≤ gi x b0_1 0 - 1) → ((¬ (0 < gi x b0_1 0 ∧ 0 ≤ l2 ∧ l2 ≤ 6) → (Q 0 x)) ∧ ((0 < gi x b0_1 0 ∧ 0 ≤ l2 ∧ l2 ≤ 6) → ((¬ (0 < gi x b0_1 0 ∧ 0 ≤ l3 ∧ l3 ≤ 23) → (Q 0 x)) ∧ ((0 < gi x b0_1 0 ∧ 0 ≤ l3 ∧ l3 ≤ 23) → (Q 1 x)))))))) : mSI mX8_isPlace [.ref b0, .int l1, .int l2, .int l3] K x Q := by
  refine s_I (by decide) (by simp [Value.category]) (Nat.le_of_ble_eq_true rfl) ?_
  show mGM mX8_isPlace 0 [some (.ref b0), some (.int l1), some (.int l2), some (.int l3)] [] (hp K x) (PI K Q)
  refine r_aload_n (pc := 0) dX8_isPlace_0 rfl ?_
  refine r_iload_n (pc := 1) dX8_isPlace_1 rfl ?_
  obtain ⟨i_1, K0⟩ := K0
  refine s_VI (pc := 2) mX8_isWeek (ci := 8) (a := b0) (As := [.int l1]) dX8_isPlace_2 lk_X8_57 in_X8_isWeek mo_X8_isWeek ⟨by decide, rfl⟩ ⟨by decide, by decide⟩ (Nat.le_of_ble_eq_true rfl) k_b0 (sp_X8_isWeek k_b0 g_b0_1 k_b0_1 i_1 ?_)
  refine r_if_eq (pc := 5) (tgt := 28) dX8_isPlace_5 (by decide) (fun q => ?_) (fun q => ?_)
  · have q := (b2i_z _).mp q
    have K0 := K0.1 q
    refine r_iconst (pc := 28) (v := 0) dX8_isPlace_28 (by decide) ?_
    exact s_zret rfl (by decide) dX8_isPlace_29 K0
  · have q := b2i_nz q
    have K0 := K0.2 q
    refine r_aload_n (pc := 8) dX8_isPlace_8 rfl ?_
    refine r_iload_n (pc := 9) dX8_isPlace_9 rfl ?_
    refine s_VI (pc := 10) mX8_isDay (ci := 8) (a := b0) (As := [.int l2]) dX8_isPlace_10 lk_X8_61 in_X8_isDay mo_X8_isDay ⟨by decide, rfl⟩ ⟨by decide, by decide⟩ (Nat.le_of_ble_eq_true rfl) k_b0 (sp_X8_isDay k_b0 g_b0_1 k_b0_1 i_1 ?_)
    refine r_if_eq (pc := 13) (tgt := 28) dX8_isPlace_13 (by decide) (fun q => ?_) (fun q => ?_)
    · have q := (b2i_z _).mp q
      have K0 := K0.1 q
      refine r_iconst (pc := 28) (v := 0) dX8_isPlace_28 (by decide) ?_
      exact s_zret rfl (by decide) dX8_isPlace_29 K0
    · have q := b2i_nz q
      have K0 := K0.2 q
      refine r_aload_n (pc := 16) dX8_isPlace_16 rfl ?_
      refine r_iload_n (pc := 17) dX8_isPlace_17 rfl ?_
      refine s_VI (pc := 18) mX8_isHour (ci := 8) (a := b0) (As := [.int l3]) dX8_isPlace_18 lk_X8_64 in_X8_isHour mo_X8_isHour ⟨by decide, rfl⟩ ⟨by decide, by decide⟩ (Nat.le_of_ble_eq_true rfl) k_b0 (sp_X8_isHour k_b0 g_b0_1 k_b0_1 i_1 ?_)
      refine r_if_eq (pc := 21) (tgt := 28) dX8_isPlace_21 (by decide) (fun q => ?_) (fun q => ?_)
      · have q := (b2i_z _).mp q
        have K0 := K0.1 q
        refine r_iconst (pc := 28) (v := 0) dX8_isPlace_28 (by decide) ?_
        exact s_zret rfl (by decide) dX8_isPlace_29 K0
      · have q := b2i_nz q
        have K0 := K0.2 q
        refine r_iconst (pc := 24) (v := 1) dX8_isPlace_24 (by decide) ?_
        refine r_goto (pc := 25) (tgt := 29) dX8_isPlace_25 (by decide) ?_
        exact s_zret rfl (by decide) dX8_isPlace_29 K0
section
variable {K : Sh} {x : Cn} {Q : Int32 → Cn → Prop} {b t n : Nat}
theorem sp_X8_isPlace {l1 l2 l3 : Int32} (h1 : kk K b = some (8, 0)) (h2 : gr x b 1 = some t) (h3 : kk K t = some (20, n)) (h4 : vp_in 0 n) (k : Q (b2i (0 ≤ l1 ∧ l1 ≤ gi x t 0 - 1 ∧ 0 < gi x t 0 ∧ 0 ≤ l2 ∧ l2 ≤ 6 ∧ 0 ≤ l3 ∧ l3 ≤ 23)) x) : mSI mX8_isPlace [.ref b, .int l1, .int l2, .int l3] K x Q :=
  v_X8_isPlace_0 h1 h2 h3 ⟨h4, fun h => (b2i_k k).2 (fun z => h ⟨z.1, z.2.1⟩), fun h => ⟨fun g => (b2i_k k).2 (fun z => g ⟨z.2.2.1, z.2.2.2.1, z.2.2.2.2.1⟩), fun g => ⟨fun f => (b2i_k k).2 (fun z => f ⟨z.2.2.1, z.2.2.2.2.2⟩), fun f => (b2i_k k).1 ⟨h.1, h.2, g.1, g.2.1, g.2.2, f.2⟩⟩⟩⟩
end
set_option maxHeartbeats 2000000 in
theorem v_X8_isByte_0 {K : Sh} {x : Cn} {Q : Int32 → Cn → Prop} {b0 : Nat} {l1 : Int32}  (k_b0 : kk K b0 = some (8, 0)) (K0 : (¬ (gi x b0 11 = 0) → (Q 0 x)) ∧ ((gi x b0 11 = 0) → ((¬ (gi x b0 9) = 3 → (Q 0 x)) ∧ ((gi x b0 9) = 3 → ((¬ (gi x b0 10) = l1 → (Q 0 x)) ∧ ((gi x b0 10) = l1 → (Q 1 x))))))) : mSI mX8_isByte [.ref b0, .int l1] K x Q := by
  refine s_I (by decide) (by simp [Value.category]) (Nat.le_of_ble_eq_true rfl) ?_
  show mGM mX8_isByte 0 [some (.ref b0), some (.int l1)] [] (hp K x) (PI K Q)
  refine r_aload_n (pc := 0) dX8_isByte_0 rfl ?_
  refine s_VI (pc := 1) mX8_good (ci := 8) (a := b0) (As := []) dX8_isByte_1 lk_X8_104 in_X8_good mo_X8_good ⟨by decide, rfl⟩ ⟨by decide, by decide⟩ (Nat.le_of_ble_eq_true rfl) k_b0 (sp_X8_good k_b0 ?_)
  refine r_if_eq (pc := 4) (tgt := 27) dX8_isByte_4 (by decide) (fun q => ?_) (fun q => ?_)
  · have q := (b2i_z _).mp q
    have K0 := K0.1 q
    refine r_iconst (pc := 27) (v := 0) dX8_isByte_27 (by decide) ?_
    exact s_zret rfl (by decide) dX8_isByte_28 K0
  · have q := b2i_nz q
    have K0 := K0.2 q
    refine r_aload_n (pc := 7) dX8_isByte_7 rfl ?_
    refine s_getI (pc := 8) dX8_isByte_8 fl_X8_119 rfl k_b0 ?_
    refine r_iconst (pc := 11) (v := 3) dX8_isByte_11 (by decide) ?_
    refine r_icmp_ne (pc := 12) (tgt := 27) dX8_isByte_12 (by decide) (fun q => ?_) (fun q => ?_)
    · have K0 := K0.1 q
      refine r_iconst (pc := 27) (v := 0) dX8_isByte_27 (by decide) ?_
      exact s_zret rfl (by decide) dX8_isByte_28 K0
    · have K0 := K0.2 q
      refine r_aload_n (pc := 15) dX8_isByte_15 rfl ?_
      refine s_getI (pc := 16) dX8_isByte_16 fl_X8_130 rfl k_b0 ?_
      refine r_iload_n (pc := 19) dX8_isByte_19 rfl ?_
      refine r_icmp_ne (pc := 20) (tgt := 27) dX8_isByte_20 (by decide) (fun q => ?_) (fun q => ?_)
      · have K0 := K0.1 q
        refine r_iconst (pc := 27) (v := 0) dX8_isByte_27 (by decide) ?_
        exact s_zret rfl (by decide) dX8_isByte_28 K0
      · have K0 := K0.2 q
        refine r_iconst (pc := 23) (v := 1) dX8_isByte_23 (by decide) ?_
        refine r_goto (pc := 24) (tgt := 28) dX8_isByte_24 (by decide) ?_
        exact s_zret rfl (by decide) dX8_isByte_28 K0
section
variable {K : Sh} {x : Cn} {Q : Int32 → Cn → Prop} {b t n : Nat}
theorem sp_X8_isByte {l1 : Int32} (h1 : kk K b = some (8, 0)) (k : Q (b2i (gi x b 11 = 0 ∧ gi x b 9 = 3 ∧ gi x b 10 = l1)) x) : mSI mX8_isByte [.ref b, .int l1] K x Q :=
  v_X8_isByte_0 h1 ⟨fun h => (b2i_k k).2 (fun z => h z.1), fun h => ⟨fun g => (b2i_k k).2 (fun z => g z.2.1), fun g => ⟨fun f => (b2i_k k).2 (fun z => f z.2.2), fun f => (b2i_k k).1 ⟨h, g, f⟩⟩⟩⟩
end
set_option maxHeartbeats 2000000 in
theorem v_X8_basisOf_0 {K : Sh} {x : Cn} {Q : Int32 → Cn → Prop} {b0 : Nat} {l1 : Int32} {b0_3 : Nat} {n_b0_3 : Nat} (k_b0 : kk K b0 = some (8, 0)) (g_b0_3 : gr x b0 3 = some b0_3) (k_b0_3 : kk K b0_3 = some (20, n_b0_3)) (K0 : vp_in ((62 + (12 * l1)) + 7) n_b0_3 ∧ (vp_in ((62 + (12 * l1)) + 8) n_b0_3 ∧ (vp_in ((62 + (12 * l1)) + 9) n_b0_3 ∧ (vp_in ((62 + (12 * l1)) + 10) n_b0_3 ∧ (Q ((((gi x b0_3 ((62 + (12 * l1)) + 7 : Int32).toNatClampNeg) ||| (gi x b0_3 ((62 + (12 * l1)) + 8 : Int32).toNatClampNeg)) ||| (gi x b0_3 ((62 + (12 * l1)) + 9 : Int32).toNatClampNeg)) ||| (gi x b0_3 ((62 + (12 * l1)) + 10 : Int32).toNatClampNeg)) x))))) : mSI mX8_basisOf [.ref b0, .int l1] K x Q := by
  refine s_I (by decide) (by simp [Value.category]) (Nat.le_of_ble_eq_true rfl) ?_
  show mGM mX8_basisOf 0 [some (.ref b0), some (.int l1)] [] (hp K x) (PI K Q)
  refine r_aload_n (pc := 0) dX8_basisOf_0 rfl ?_
  refine r_iload_n (pc := 1) dX8_basisOf_1 rfl ?_
  refine r_bipush (pc := 2) (v := 7) dX8_basisOf_2 (by decide) ?_
  obtain ⟨i_1, K0⟩ := K0
  refine s_VI (pc := 4) mX8_one (ci := 8) (a := b0) (As := [.int l1, .int 7]) dX8_basisOf_4 lk_X8_67 in_X8_one mo_X8_one ⟨by decide, rfl⟩ ⟨by decide, by decide⟩ (Nat.le_of_ble_eq_true rfl) k_b0 (sp_X8_one k_b0 g_b0_3 k_b0_3 i_1 ?_)
  refine r_aload_n (pc := 7) dX8_basisOf_7 rfl ?_
  refine r_iload_n (pc := 8) dX8_basisOf_8 rfl ?_
  refine r_bipush (pc := 9) (v := 8) dX8_basisOf_9 (by decide) ?_
  obtain ⟨i_2, K0⟩ := K0
  refine s_VI (pc := 11) mX8_one (ci := 8) (a := b0) (As := [.int l1, .int 8]) dX8_basisOf_11 lk_X8_67 in_X8_one mo_X8_one ⟨by decide, rfl⟩ ⟨by decide, by decide⟩ (Nat.le_of_ble_eq_true rfl) k_b0 (sp_X8_one k_b0 g_b0_3 k_b0_3 i_2 ?_)
  refine r_ior (pc := 14) dX8_basisOf_14 ?_
  refine r_aload_n (pc := 15) dX8_basisOf_15 rfl ?_
  refine r_iload_n (pc := 16) dX8_basisOf_16 rfl ?_
  refine r_bipush (pc := 17) (v := 9) dX8_basisOf_17 (by decide) ?_
  obtain ⟨i_3, K0⟩ := K0
  refine s_VI (pc := 19) mX8_one (ci := 8) (a := b0) (As := [.int l1, .int 9]) dX8_basisOf_19 lk_X8_67 in_X8_one mo_X8_one ⟨by decide, rfl⟩ ⟨by decide, by decide⟩ (Nat.le_of_ble_eq_true rfl) k_b0 (sp_X8_one k_b0 g_b0_3 k_b0_3 i_3 ?_)
  refine r_ior (pc := 22) dX8_basisOf_22 ?_
  refine r_aload_n (pc := 23) dX8_basisOf_23 rfl ?_
  refine r_iload_n (pc := 24) dX8_basisOf_24 rfl ?_
  refine r_bipush (pc := 25) (v := 10) dX8_basisOf_25 (by decide) ?_
  obtain ⟨i_4, K0⟩ := K0
  refine s_VI (pc := 27) mX8_one (ci := 8) (a := b0) (As := [.int l1, .int 10]) dX8_basisOf_27 lk_X8_67 in_X8_one mo_X8_one ⟨by decide, rfl⟩ ⟨by decide, by decide⟩ (Nat.le_of_ble_eq_true rfl) k_b0 (sp_X8_one k_b0 g_b0_3 k_b0_3 i_4 ?_)
  refine r_ior (pc := 30) dX8_basisOf_30 ?_
  exact s_iret rfl dX8_basisOf_31 K0
section
variable {K : Sh} {x : Cn} {Q : Int32 → Cn → Prop} {b t n : Nat}
theorem sp_X8_basisOf {l1 : Int32} (h1 : kk K b = some (8, 0)) (h2 : gr x b 3 = some t) (h3 : kk K t = some (20, n)) (h4 : vp_in ((62 + (12 * l1)) + 7) n) (h5 : vp_in ((62 + (12 * l1)) + 8) n) (h6 : vp_in ((62 + (12 * l1)) + 9) n) (h7 : vp_in ((62 + (12 * l1)) + 10) n) (k : Q (((gi x t ((62 + (12 * l1)) + 7 : Int32).toNatClampNeg ||| gi x t ((62 + (12 * l1)) + 8 : Int32).toNatClampNeg) ||| gi x t ((62 + (12 * l1)) + 9 : Int32).toNatClampNeg) ||| gi x t ((62 + (12 * l1)) + 10 : Int32).toNatClampNeg) x) : mSI mX8_basisOf [.ref b, .int l1] K x Q := v_X8_basisOf_0 h1 h2 h3 ⟨h4, h5, h6, h7, k⟩
end
set_option maxHeartbeats 2000000 in
theorem v_X8_goodOf_0 {K : Sh} {x : Cn} {Q : Int32 → Cn → Prop} {b0 : Nat} {l1 : Int32} {b0_3 : Nat} {n_b0_3 : Nat} (k_b0 : kk K b0 = some (8, 0)) (g_b0_3 : gr x b0 3 = some b0_3) (k_b0_3 : kk K b0_3 = some (20, n_b0_3)) (K0 : vp_in ((62 + (12 * l1)) + 8) n_b0_3 ∧ (vp_in ((62 + (12 * l1)) + 10) n_b0_3 ∧ (Q (nI (cpt ((gi x b0_3 ((62 + (12 * l1)) + 8 : Int32).toNatClampNeg) ||| (gi x b0_3 ((62 + (12 * l1)) + 10 : Int32).toNatClampNeg)))) x))) : mSI mX8_goodOf [.ref b0, .int l1] K x Q := by
  refine s_I (by decide) (by simp [Value.category]) (Nat.le_of_ble_eq_true rfl) ?_
  show mGM mX8_goodOf 0 [some (.ref b0), some (.int l1)] [] (hp K x) (PI K Q)
  refine r_aload_n (pc := 0) dX8_goodOf_0 rfl ?_
  refine r_iload_n (pc := 1) dX8_goodOf_1 rfl ?_
  refine r_bipush (pc := 2) (v := 8) dX8_goodOf_2 (by decide) ?_
  obtain ⟨i_1, K0⟩ := K0
  refine s_VI (pc := 4) mX8_one (ci := 8) (a := b0) (As := [.int l1, .int 8]) dX8_goodOf_4 lk_X8_67 in_X8_one mo_X8_one ⟨by decide, rfl⟩ ⟨by decide, by decide⟩ (Nat.le_of_ble_eq_true rfl) k_b0 (sp_X8_one k_b0 g_b0_3 k_b0_3 i_1 ?_)
  refine r_aload_n (pc := 7) dX8_goodOf_7 rfl ?_
  refine r_iload_n (pc := 8) dX8_goodOf_8 rfl ?_
  refine r_bipush (pc := 9) (v := 10) dX8_goodOf_9 (by decide) ?_
  obtain ⟨i_2, K0⟩ := K0
  refine s_VI (pc := 11) mX8_one (ci := 8) (a := b0) (As := [.int l1, .int 10]) dX8_goodOf_11 lk_X8_67 in_X8_one mo_X8_one ⟨by decide, rfl⟩ ⟨by decide, by decide⟩ (Nat.le_of_ble_eq_true rfl) k_b0 (sp_X8_one k_b0 g_b0_3 k_b0_3 i_2 ?_)
  refine r_ior (pc := 14) dX8_goodOf_14 ?_
  refine s_SI (pc := 15) mX8_bits (As := [.int ((gi x b0_3 ((62 + (12 * l1)) + 8 : Int32).toNatClampNeg) ||| (gi x b0_3 ((62 + (12 * l1)) + 10 : Int32).toNatClampNeg))]) dX8_goodOf_15 lk_X8_296 st_X8_bits mo_X8_bits ⟨by decide, by decide⟩ (Nat.le_of_ble_eq_true rfl) (sp_X8_bits  ?_)
  exact s_iret rfl dX8_goodOf_18 K0
section
variable {K : Sh} {x : Cn} {Q : Int32 → Cn → Prop} {b t n : Nat}
theorem sp_X8_goodOf {l1 : Int32} (h1 : kk K b = some (8, 0)) (h2 : gr x b 3 = some t) (h3 : kk K t = some (20, n)) (h5 : vp_in ((62 + (12 * l1)) + 8) n) (h7 : vp_in ((62 + (12 * l1)) + 10) n) (k : Q (nI (cpt (gi x t ((62 + (12 * l1)) + 8 : Int32).toNatClampNeg ||| gi x t ((62 + (12 * l1)) + 10 : Int32).toNatClampNeg))) x) : mSI mX8_goodOf [.ref b, .int l1] K x Q := v_X8_goodOf_0 h1 h2 h3 ⟨h5, h7, k⟩
end
set_option maxHeartbeats 2000000 in
theorem v_X8_fromNow_0 {K : Sh} {x : Cn} {Q : Int32 → Cn → Prop} {b0 : Nat} {b0_3 : Nat} {n_b0_3 : Nat} (k_b0 : kk K b0 = some (8, 0)) (g_b0_3 : gr x b0 3 = some b0_3) (k_b0_3 : kk K b0_3 = some (20, n_b0_3)) (K0 : vp_in 4 n_b0_3 ∧ (vp_in 0 n_b0_3 ∧ (Q (f_span (gi x b0_3 4) ((gi x b0_3 0) - 1)) x))) : mSI mX8_fromNow [.ref b0] K x Q := by
  refine s_I (by decide) (by simp [Value.category]) (Nat.le_of_ble_eq_true rfl) ?_
  show mGM mX8_fromNow 0 [some (.ref b0)] [] (hp K x) (PI K Q)
  refine r_aload_n (pc := 0) dX8_fromNow_0 rfl ?_
  refine s_getR (pc := 1) dX8_fromNow_1 fl_X8_16 rfl k_b0 g_b0_3 ?_
  refine r_iconst (pc := 4) (v := 4) dX8_fromNow_4 (by decide) ?_
  obtain ⟨i_1, K0⟩ := K0
  refine s_iald (pc := 5) dX8_fromNow_5 k_b0_3 i_1 ?_
  refine r_aload_n (pc := 6) dX8_fromNow_6 rfl ?_
  refine s_getR (pc := 7) dX8_fromNow_7 fl_X8_16 rfl k_b0 g_b0_3 ?_
  refine r_iconst (pc := 10) (v := 0) dX8_fromNow_10 (by decide) ?_
  obtain ⟨i_2, K0⟩ := K0
  refine s_iald (pc := 11) dX8_fromNow_11 k_b0_3 i_2 ?_
  refine r_iconst (pc := 12) (v := 1) dX8_fromNow_12 (by decide) ?_
  refine r_isub (pc := 13) dX8_fromNow_13 ?_
  refine s_SI (pc := 14) mX8_span (As := [.int (gi x b0_3 4), .int ((gi x b0_3 0) - 1)]) dX8_fromNow_14 lk_X8_79 st_X8_span mo_X8_span ⟨by decide, by decide⟩ (Nat.le_of_ble_eq_true rfl) (sp_X8_span  ?_)
  exact s_iret rfl dX8_fromNow_17 K0
section
variable {K : Sh} {x : Cn} {Q : Int32 → Cn → Prop} {b t n : Nat}
theorem sp_X8_fromNow (h1 : kk K b = some (8, 0)) (h2 : gr x b 3 = some t) (h3 : kk K t = some (20, n)) (h4 : vp_in 4 n) (h5 : vp_in 0 n) (k : Q (f_span (gi x t 4) (gi x t 0 - 1)) x) : mSI mX8_fromNow [.ref b] K x Q := v_X8_fromNow_0 h1 h2 h3 ⟨h4, h5, k⟩
end
set_option maxHeartbeats 2000000 in
theorem v_X8_isNew_0 {K : Sh} {x : Cn} {Q : Int32 → Cn → Prop} {b0 : Nat} {l1 : Int32} {b0_3 : Nat} {n_b0_3 : Nat} (k_b0 : kk K b0 = some (8, 0)) (g_b0_3 : gr x b0 3 = some b0_3) (k_b0_3 : kk K b0_3 = some (20, n_b0_3)) (K0 : vp_in ((62 + (12 * l1)) + 4) n_b0_3 ∧ ((¬ (gi x b0_3 ((62 + (12 * l1)) + 4 : Int32).toNatClampNeg) = 1 → (Q 0 x)) ∧ ((gi x b0_3 ((62 + (12 * l1)) + 4 : Int32).toNatClampNeg) = 1 → (Q 1 x)))) : mSI mX8_isNew [.ref b0, .int l1] K x Q := by
  refine s_I (by decide) (by simp [Value.category]) (Nat.le_of_ble_eq_true rfl) ?_
  show mGM mX8_isNew 0 [some (.ref b0), some (.int l1)] [] (hp K x) (PI K Q)
  refine r_aload_n (pc := 0) dX8_isNew_0 rfl ?_
  refine r_iload_n (pc := 1) dX8_isNew_1 rfl ?_
  refine r_iconst (pc := 2) (v := 4) dX8_isNew_2 (by decide) ?_
  obtain ⟨i_1, K0⟩ := K0
  refine s_VI (pc := 3) mX8_one (ci := 8) (a := b0) (As := [.int l1, .int 4]) dX8_isNew_3 lk_X8_67 in_X8_one mo_X8_one ⟨by decide, rfl⟩ ⟨by decide, by decide⟩ (Nat.le_of_ble_eq_true rfl) k_b0 (sp_X8_one k_b0 g_b0_3 k_b0_3 i_1 ?_)
  refine r_iconst (pc := 6) (v := 1) dX8_isNew_6 (by decide) ?_
  refine r_icmp_ne (pc := 7) (tgt := 14) dX8_isNew_7 (by decide) (fun q => ?_) (fun q => ?_)
  · have K0 := K0.1 q
    refine r_iconst (pc := 14) (v := 0) dX8_isNew_14 (by decide) ?_
    exact s_zret rfl (by decide) dX8_isNew_15 K0
  · have K0 := K0.2 q
    refine r_iconst (pc := 10) (v := 1) dX8_isNew_10 (by decide) ?_
    refine r_goto (pc := 11) (tgt := 15) dX8_isNew_11 (by decide) ?_
    exact s_zret rfl (by decide) dX8_isNew_15 K0
section
variable {K : Sh} {x : Cn} {Q : Int32 → Cn → Prop} {b t n : Nat}
theorem sp_X8_isNew {l1 : Int32} (h1 : kk K b = some (8, 0)) (h2 : gr x b 3 = some t) (h3 : kk K t = some (20, n)) (h4 : vp_in ((62 + (12 * l1)) + 4) n) (k : Q (b2i (gi x t ((62 + (12 * l1)) + 4 : Int32).toNatClampNeg = 1)) x) : mSI mX8_isNew [.ref b, .int l1] K x Q := v_X8_isNew_0 h1 h2 h3 ⟨h4, (b2i_k k).2, (b2i_k k).1⟩
end
set_option maxHeartbeats 2000000 in
theorem v_X8_weeksOf_0 {K : Sh} {x : Cn} {Q : Int32 → Cn → Prop} {b0 : Nat} {l1 : Int32} {b0_3 : Nat} {n_b0_3 : Nat} (k_b0 : kk K b0 = some (8, 0)) (g_b0_3 : gr x b0 3 = some b0_3) (k_b0_3 : kk K b0_3 = some (20, n_b0_3)) (K0 : vp_in ((350 + (7 * l1)) + 4) n_b0_3 ∧ (vp_in ((350 + (7 * l1)) + 5) n_b0_3 ∧ (vp_in 4 n_b0_3 ∧ (vp_in 0 n_b0_3 ∧ (Q ((f_span (gi x b0_3 ((350 + (7 * l1)) + 4 : Int32).toNatClampNeg) (gi x b0_3 ((350 + (7 * l1)) + 5 : Int32).toNatClampNeg)) &&& (f_span (gi x b0_3 4) (gi x b0_3 0 - 1))) x))))) : mSI mX8_weeksOf [.ref b0, .int l1] K x Q := by
  refine s_I (by decide) (by simp [Value.category]) (Nat.le_of_ble_eq_true rfl) ?_
  show mGM mX8_weeksOf 0 [some (.ref b0), some (.int l1)] [] (hp K x) (PI K Q)
  refine r_aload_n (pc := 0) dX8_weeksOf_0 rfl ?_
  refine r_iload_n (pc := 1) dX8_weeksOf_1 rfl ?_
  refine r_iconst (pc := 2) (v := 4) dX8_weeksOf_2 (by decide) ?_
  obtain ⟨i_1, K0⟩ := K0
  refine s_VI (pc := 3) mX8_ask0 (ci := 8) (a := b0) (As := [.int l1, .int 4]) dX8_weeksOf_3 lk_X8_284 in_X8_ask0 mo_X8_ask0 ⟨by decide, rfl⟩ ⟨by decide, by decide⟩ (Nat.le_of_ble_eq_true rfl) k_b0 (sp_X8_ask0 k_b0 g_b0_3 k_b0_3 i_1 ?_)
  refine r_aload_n (pc := 6) dX8_weeksOf_6 rfl ?_
  refine r_iload_n (pc := 7) dX8_weeksOf_7 rfl ?_
  refine r_iconst (pc := 8) (v := 5) dX8_weeksOf_8 (by decide) ?_
  obtain ⟨i_2, K0⟩ := K0
  refine s_VI (pc := 9) mX8_ask0 (ci := 8) (a := b0) (As := [.int l1, .int 5]) dX8_weeksOf_9 lk_X8_284 in_X8_ask0 mo_X8_ask0 ⟨by decide, rfl⟩ ⟨by decide, by decide⟩ (Nat.le_of_ble_eq_true rfl) k_b0 (sp_X8_ask0 k_b0 g_b0_3 k_b0_3 i_2 ?_)
  refine s_SI (pc := 12) mX8_span (As := [.int (gi x b0_3 ((350 + (7 * l1)) + 4 : Int32).toNatClampNeg), .int (gi x b0_3 ((350 + (7 * l1)) + 5 : Int32).toNatClampNeg)]) dX8_weeksOf_12 lk_X8_79 st_X8_span mo_X8_span ⟨by decide, by decide⟩ (Nat.le_of_ble_eq_true rfl) (sp_X8_span  ?_)
  refine r_aload_n (pc := 15) dX8_weeksOf_15 rfl ?_
  obtain ⟨i_3, K0⟩ := K0
  obtain ⟨i_4, K0⟩ := K0
  refine s_VI (pc := 16) mX8_fromNow (ci := 8) (a := b0) (As := []) dX8_weeksOf_16 lk_X8_82 in_X8_fromNow mo_X8_fromNow ⟨by decide, rfl⟩ ⟨by decide, by decide⟩ (Nat.le_of_ble_eq_true rfl) k_b0 (sp_X8_fromNow k_b0 g_b0_3 k_b0_3 i_3 i_4 ?_)
  refine r_iand (pc := 19) dX8_weeksOf_19 ?_
  exact s_iret rfl dX8_weeksOf_20 K0
section
variable {K : Sh} {x : Cn} {Q : Int32 → Cn → Prop} {b t n : Nat}
theorem sp_X8_weeksOf {l1 : Int32} (h1 : kk K b = some (8, 0)) (h2 : gr x b 3 = some t) (h3 : kk K t = some (20, n)) (h4 : vp_in ((350 + (7 * l1)) + 4) n) (h5 : vp_in ((350 + (7 * l1)) + 5) n) (h6 : vp_in 4 n) (h7 : vp_in 0 n) (k : Q (f_span (gi x t ((350 + (7 * l1)) + 4 : Int32).toNatClampNeg) (gi x t ((350 + (7 * l1)) + 5 : Int32).toNatClampNeg) &&& f_span (gi x t 4) (gi x t 0 - 1)) x) : mSI mX8_weeksOf [.ref b, .int l1] K x Q := v_X8_weeksOf_0 h1 h2 h3 ⟨h4, h5, h6, h7, k⟩
end
set_option maxHeartbeats 2000000 in
theorem v_X5_holds_0 {K : Sh} {x : Cn} {Q : Int32 → Cn → Prop} {b0 : Nat} {l1 : Int32}  (k_b0 : kk K b0 = some (5, 0)) (K0 : Q (b2i (f_bit (f_held x b0) l1)) x) : mSI mX5_holds [.ref b0, .int l1] K x Q := by
  refine s_I (by decide) (by simp [Value.category]) (Nat.le_of_ble_eq_true rfl) ?_
  show mGM mX5_holds 0 [some (.ref b0), some (.int l1)] [] (hp K x) (PI K Q)
  refine r_aload_n (pc := 0) dX5_holds_0 rfl ?_
  refine s_VI (pc := 1) mX5_heldBits (ci := 5) (a := b0) (As := []) dX5_holds_1 lk_X5_69 in_X5_heldBits mo_X5_heldBits ⟨by decide, rfl⟩ ⟨by decide, by decide⟩ (Nat.le_of_ble_eq_true rfl) k_b0 (sp_X5_heldBits k_b0 ?_)
  refine r_iload_n (pc := 4) dX5_holds_4 rfl ?_
  refine s_SNI (pc := 5) mX7_hasBit (As := [.int (f_held x b0), .int l1]) dX5_holds_5 nl_X5_65 st_X7_hasBit mo_X7_hasBit ⟨by decide, by decide⟩ (Nat.le_of_ble_eq_true rfl) (sp_X7_hasBit  ?_)
  exact s_zret rfl (b2i_01 _) dX5_holds_8 K0
section
variable {K : Sh} {x : Cn} {Q : Int32 → Cn → Prop} {b t n : Nat}
theorem sp_X5_holds {l1 : Int32} (h1 : kk K b = some (5, 0)) (k : Q (b2i (f_bit (f_held x b) l1)) x) : mSI mX5_holds [.ref b, .int l1] K x Q := v_X5_holds_0 h1 k
end
set_option maxHeartbeats 2000000 in
theorem v_X5_fills_0 {K : Sh} {x : Cn} {Q : Int32 → Cn → Prop} {b0 : Nat} {l1 : Int32} {l2 : Int32} {l3 : Int32}  (k_b0 : kk K b0 = some (5, 0)) (K0 : (¬ (gi x b0 1) = l2 → (Q 0 x)) ∧ ((gi x b0 1) = l2 → ((¬ (gi x b0 2) = l3 → (Q 0 x)) ∧ ((gi x b0 2) = l3 → ((¬ (f_bit (f_held x b0) l1) → (Q 0 x)) ∧ ((f_bit (f_held x b0) l1) → (Q 1 x))))))) : mSI mX5_fills [.ref b0, .int l1, .int l2, .int l3] K x Q := by
  refine s_I (by decide) (by simp [Value.category]) (Nat.le_of_ble_eq_true rfl) ?_
  show mGM mX5_fills 0 [some (.ref b0), some (.int l1), some (.int l2), some (.int l3)] [] (hp K x) (PI K Q)
  refine r_aload_n (pc := 0) dX5_fills_0 rfl ?_
  refine s_getI (pc := 1) dX5_fills_1 fl_X5_15 rfl k_b0 ?_
  refine r_iload_n (pc := 4) dX5_fills_4 rfl ?_
  refine r_icmp_ne (pc := 5) (tgt := 28) dX5_fills_5 (by decide) (fun q => ?_) (fun q => ?_)
  · have K0 := K0.1 q
    refine r_iconst (pc := 28) (v := 0) dX5_fills_28 (by decide) ?_
    exact s_zret rfl (by decide) dX5_fills_29 K0
  · have K0 := K0.2 q
    refine r_aload_n (pc := 8) dX5_fills_8 rfl ?_
    refine s_getI (pc := 9) dX5_fills_9 fl_X5_18 rfl k_b0 ?_
    refine r_iload_n (pc := 12) dX5_fills_12 rfl ?_
    refine r_icmp_ne (pc := 13) (tgt := 28) dX5_fills_13 (by decide) (fun q => ?_) (fun q => ?_)
    · have K0 := K0.1 q
      refine r_iconst (pc := 28) (v := 0) dX5_fills_28 (by decide) ?_
      exact s_zret rfl (by decide) dX5_fills_29 K0
    · have K0 := K0.2 q
      refine r_aload_n (pc := 16) dX5_fills_16 rfl ?_
      refine r_iload_n (pc := 17) dX5_fills_17 rfl ?_
      refine s_VI (pc := 18) mX5_holds (ci := 5) (a := b0) (As := [.int l1]) dX5_fills_18 lk_X5_72 in_X5_holds mo_X5_holds ⟨by decide, rfl⟩ ⟨by decide, by decide⟩ (Nat.le_of_ble_eq_true rfl) k_b0 (sp_X5_holds k_b0 ?_)
      refine r_if_eq (pc := 21) (tgt := 28) dX5_fills_21 (by decide) (fun q => ?_) (fun q => ?_)
      · have q := (b2i_z _).mp q
        have K0 := K0.1 q
        refine r_iconst (pc := 28) (v := 0) dX5_fills_28 (by decide) ?_
        exact s_zret rfl (by decide) dX5_fills_29 K0
      · have q := b2i_nz q
        have K0 := K0.2 q
        refine r_iconst (pc := 24) (v := 1) dX5_fills_24 (by decide) ?_
        refine r_goto (pc := 25) (tgt := 29) dX5_fills_25 (by decide) ?_
        exact s_zret rfl (by decide) dX5_fills_29 K0
section
variable {K : Sh} {x : Cn} {Q : Int32 → Cn → Prop} {b t n : Nat}
theorem sp_X5_fills {l1 l2 l3 : Int32} (h1 : kk K b = some (5, 0)) (k : Q (b2i (gi x b 1 = l2 ∧ gi x b 2 = l3 ∧ f_bit (f_held x b) l1)) x) : mSI mX5_fills [.ref b, .int l1, .int l2, .int l3] K x Q :=
  v_X5_fills_0 h1 ⟨fun h => (b2i_k k).2 (fun z => h z.1), fun h => ⟨fun g => (b2i_k k).2 (fun z => g z.2.1), fun g => ⟨fun f => (b2i_k k).2 (fun z => f z.2.2), fun f => (b2i_k k).1 ⟨h, g, f⟩⟩⟩⟩
end
set_option maxHeartbeats 2000000 in
theorem v_X5_basis_0 {K : Sh} {x : Cn} {Q : Int32 → Cn → Prop} {b0 : Nat}  (k_b0 : kk K b0 = some (5, 0)) (K0 : Q (nI (cpt (f_held x b0))) x) : mSI mX5_basis [.ref b0] K x Q := by
  refine s_I (by decide) (by simp [Value.category]) (Nat.le_of_ble_eq_true rfl) ?_
  show mGM mX5_basis 0 [some (.ref b0)] [] (hp K x) (PI K Q)
  refine r_aload_n (pc := 0) dX5_basis_0 rfl ?_
  refine s_VI (pc := 1) mX5_heldBits (ci := 5) (a := b0) (As := []) dX5_basis_1 lk_X5_69 in_X5_heldBits mo_X5_heldBits ⟨by decide, rfl⟩ ⟨by decide, by decide⟩ (Nat.le_of_ble_eq_true rfl) k_b0 (sp_X5_heldBits k_b0 ?_)
  refine s_SI (pc := 4) mJ6_bitCount_0f7a4 (As := [.int (f_held x b0)]) dX5_basis_4 lk_X5_76 st_J6_bitCount_0f7a4 mo_J6_bitCount_0f7a4 ⟨by decide, by decide⟩ (Nat.le_of_ble_eq_true rfl) (sp_bc  ?_)
  exact s_iret rfl dX5_basis_7 K0
section
variable {K : Sh} {x : Cn} {Q : Int32 → Cn → Prop} {b t n : Nat}
theorem sp_X5_basis (h1 : kk K b = some (5, 0)) (k : Q (nI (cpt (f_held x b))) x) : mSI mX5_basis [.ref b] K x Q := v_X5_basis_0 h1 k
end
set_option maxHeartbeats 2000000 in
theorem v_X5_good_0 {K : Sh} {x : Cn} {Q : Int32 → Cn → Prop} {b0 : Nat}  (k_b0 : kk K b0 = some (5, 0)) (K0 : Q (nI (cpt ((gi x b0 8) ||| (gi x b0 10)))) x) : mSI mX5_good [.ref b0] K x Q := by
  refine s_I (by decide) (by simp [Value.category]) (Nat.le_of_ble_eq_true rfl) ?_
  show mGM mX5_good 0 [some (.ref b0)] [] (hp K x) (PI K Q)
  refine r_aload_n (pc := 0) dX5_good_0 rfl ?_
  refine s_getI (pc := 1) dX5_good_1 fl_X5_37 rfl k_b0 ?_
  refine r_aload_n (pc := 4) dX5_good_4 rfl ?_
  refine s_getI (pc := 5) dX5_good_5 fl_X5_43 rfl k_b0 ?_
  refine r_ior (pc := 8) dX5_good_8 ?_
  refine s_SI (pc := 9) mJ6_bitCount_0f7a4 (As := [.int ((gi x b0 8) ||| (gi x b0 10))]) dX5_good_9 lk_X5_76 st_J6_bitCount_0f7a4 mo_J6_bitCount_0f7a4 ⟨by decide, by decide⟩ (Nat.le_of_ble_eq_true rfl) (sp_bc  ?_)
  exact s_iret rfl dX5_good_12 K0
section
variable {K : Sh} {x : Cn} {Q : Int32 → Cn → Prop} {b t n : Nat}
theorem sp_X5_good (h1 : kk K b = some (5, 0)) (k : Q (nI (cpt (gi x b 8 ||| gi x b 10))) x) : mSI mX5_good [.ref b] K x Q := v_X5_good_0 h1 k
end
set_option maxHeartbeats 2000000 in
theorem v_X5_isKeptWith_0 {K : Sh} {x : Cn} {Q : Int32 → Cn → Prop} {b0 : Nat} {l1 : Int32}  (k_b0 : kk K b0 = some (5, 0)) (K0 : ((nI (cpt (f_held x b0))) ≤ 0 → (Q 0 x)) ∧ (¬ (nI (cpt (f_held x b0))) ≤ 0 → (((5 * l1) < (4 * (nI (cpt (f_held x b0)))) → (Q 0 x)) ∧ (¬ (5 * l1) < (4 * (nI (cpt (f_held x b0)))) → (Q 1 x))))) : mSI mX5_isKeptWith [.ref b0, .int l1] K x Q := by
  refine s_I (by decide) (by simp [Value.category]) (Nat.le_of_ble_eq_true rfl) ?_
  show mGM mX5_isKeptWith 0 [some (.ref b0), some (.int l1), none] [] (hp K x) (PI K Q)
  refine r_aload_n (pc := 0) dX5_isKeptWith_0 rfl ?_
  refine s_VI (pc := 1) mX5_basis (ci := 5) (a := b0) (As := []) dX5_isKeptWith_1 lk_X5_81 in_X5_basis mo_X5_basis ⟨by decide, rfl⟩ ⟨by decide, by decide⟩ (Nat.le_of_ble_eq_true rfl) k_b0 (sp_X5_basis k_b0 ?_)
  refine r_istore_n (pc := 4) dX5_isKeptWith_4 (by decide) ?_
  refine r_iload_n (pc := 5) (L := [some (.ref b0), some (.int l1), some (.int (nI (cpt (f_held x b0))))]) dX5_isKeptWith_5 rfl ?_
  refine r_if_le (pc := 6) (tgt := 22) dX5_isKeptWith_6 (by decide) (fun q => ?_) (fun q => ?_)
  · have K0 := K0.1 q
    refine r_iconst (pc := 22) (v := 0) dX5_isKeptWith_22 (by decide) ?_
    exact s_zret rfl (by decide) dX5_isKeptWith_23 K0
  · have K0 := K0.2 q
    refine r_iconst (pc := 9) (v := 5) dX5_isKeptWith_9 (by decide) ?_
    refine r_iload_n (pc := 10) dX5_isKeptWith_10 rfl ?_
    refine r_imul (pc := 11) dX5_isKeptWith_11 ?_
    refine r_iconst (pc := 12) (v := 4) dX5_isKeptWith_12 (by decide) ?_
    refine r_iload_n (pc := 13) dX5_isKeptWith_13 rfl ?_
    refine r_imul (pc := 14) dX5_isKeptWith_14 ?_
    refine r_icmp_lt (pc := 15) (tgt := 22) dX5_isKeptWith_15 (by decide) (fun q => ?_) (fun q => ?_)
    · have K0 := K0.1 q
      refine r_iconst (pc := 22) (v := 0) dX5_isKeptWith_22 (by decide) ?_
      exact s_zret rfl (by decide) dX5_isKeptWith_23 K0
    · have K0 := K0.2 q
      refine r_iconst (pc := 18) (v := 1) dX5_isKeptWith_18 (by decide) ?_
      refine r_goto (pc := 19) (tgt := 23) dX5_isKeptWith_19 (by decide) ?_
      exact s_zret rfl (by decide) dX5_isKeptWith_23 K0
section
variable {K : Sh} {x : Cn} {Q : Int32 → Cn → Prop} {b t n : Nat}
theorem sp_X5_isKeptWith {l1 : Int32} (h1 : kk K b = some (5, 0)) (k : Q (b2i (f_kw (nI (cpt (f_held x b))) l1)) x) : mSI mX5_isKeptWith [.ref b, .int l1] K x Q :=
  v_X5_isKeptWith_0 h1 ⟨fun h => (b2i_k k).2 (fun z => Int32.not_le.mpr z.1 h), fun h => ⟨fun g => (b2i_k k).2 (fun z => Int32.not_lt.mpr z.2 g), fun g => (b2i_k k).1 ⟨Int32.not_le.mp h, Int32.not_lt.mp g⟩⟩⟩
end
set_option maxHeartbeats 2000000 in
theorem v_X5_isSafe_0 {K : Sh} {x : Cn} {Q : Int32 → Cn → Prop} {b0 : Nat}  (k_b0 : kk K b0 = some (5, 0)) (K0 : Q (b2i (f_kw (nI (cpt (f_held x b0))) (nI (cpt (gi x b0 8 ||| gi x b0 10))))) x) : mSI mX5_isSafe [.ref b0] K x Q := by
  refine s_I (by decide) (by simp [Value.category]) (Nat.le_of_ble_eq_true rfl) ?_
  show mGM mX5_isSafe 0 [some (.ref b0)] [] (hp K x) (PI K Q)
  refine r_aload_n (pc := 0) dX5_isSafe_0 rfl ?_
  refine r_aload_n (pc := 1) dX5_isSafe_1 rfl ?_
  refine s_VI (pc := 2) mX5_good (ci := 5) (a := b0) (As := []) dX5_isSafe_2 lk_X5_84 in_X5_good mo_X5_good ⟨by decide, rfl⟩ ⟨by decide, by decide⟩ (Nat.le_of_ble_eq_true rfl) k_b0 (sp_X5_good k_b0 ?_)
  refine s_VI (pc := 5) mX5_isKeptWith (ci := 5) (a := b0) (As := [.int (nI (cpt (gi x b0 8 ||| gi x b0 10)))]) dX5_isSafe_5 lk_X5_87 in_X5_isKeptWith mo_X5_isKeptWith ⟨by decide, rfl⟩ ⟨by decide, by decide⟩ (Nat.le_of_ble_eq_true rfl) k_b0 (sp_X5_isKeptWith k_b0 ?_)
  exact s_zret rfl (b2i_01 _) dX5_isSafe_8 K0
section
variable {K : Sh} {x : Cn} {Q : Int32 → Cn → Prop} {b t n : Nat}
theorem sp_X5_isSafe (h1 : kk K b = some (5, 0)) (k : Q (b2i (f_safe x b)) x) : mSI mX5_isSafe [.ref b] K x Q := v_X5_isSafe_0 h1 k
end
set_option maxHeartbeats 2000000 in
theorem v_X5_isLost_0 {K : Sh} {x : Cn} {Q : Int32 → Cn → Prop} {b0 : Nat}  (k_b0 : kk K b0 = some (5, 0)) (K0 : ((f_kw (nI (cpt (f_held x b0))) ((nI (cpt (gi x b0 8 ||| gi x b0 10))) + (nI (cpt (f_open x b0))))) → (Q 0 x)) ∧ (¬ (f_kw (nI (cpt (f_held x b0))) ((nI (cpt (gi x b0 8 ||| gi x b0 10))) + (nI (cpt (f_open x b0))))) → (Q 1 x))) : mSI mX5_isLost [.ref b0] K x Q := by
  refine s_I (by decide) (by simp [Value.category]) (Nat.le_of_ble_eq_true rfl) ?_
  show mGM mX5_isLost 0 [some (.ref b0)] [] (hp K x) (PI K Q)
  refine r_aload_n (pc := 0) dX5_isLost_0 rfl ?_
  refine r_aload_n (pc := 1) dX5_isLost_1 rfl ?_
  refine s_VI (pc := 2) mX5_good (ci := 5) (a := b0) (As := []) dX5_isLost_2 lk_X5_84 in_X5_good mo_X5_good ⟨by decide, rfl⟩ ⟨by decide, by decide⟩ (Nat.le_of_ble_eq_true rfl) k_b0 (sp_X5_good k_b0 ?_)
  refine r_aload_n (pc := 5) dX5_isLost_5 rfl ?_
  refine s_VI (pc := 6) mX5_openBits (ci := 5) (a := b0) (As := []) dX5_isLost_6 lk_X5_57 in_X5_openBits mo_X5_openBits ⟨by decide, rfl⟩ ⟨by decide, by decide⟩ (Nat.le_of_ble_eq_true rfl) k_b0 (sp_X5_openBits k_b0 ?_)
  refine s_SI (pc := 9) mJ6_bitCount_0f7a4 (As := [.int (f_open x b0)]) dX5_isLost_9 lk_X5_76 st_J6_bitCount_0f7a4 mo_J6_bitCount_0f7a4 ⟨by decide, by decide⟩ (Nat.le_of_ble_eq_true rfl) (sp_bc  ?_)
  refine r_iadd (pc := 12) dX5_isLost_12 ?_
  refine s_VI (pc := 13) mX5_isKeptWith (ci := 5) (a := b0) (As := [.int ((nI (cpt (gi x b0 8 ||| gi x b0 10))) + (nI (cpt (f_open x b0))))]) dX5_isLost_13 lk_X5_87 in_X5_isKeptWith mo_X5_isKeptWith ⟨by decide, rfl⟩ ⟨by decide, by decide⟩ (Nat.le_of_ble_eq_true rfl) k_b0 (sp_X5_isKeptWith k_b0 ?_)
  refine r_if_ne (pc := 16) (tgt := 23) dX5_isLost_16 (by decide) (fun q => ?_) (fun q => ?_)
  · have q := b2i_nz q
    have K0 := K0.1 q
    refine r_iconst (pc := 23) (v := 0) dX5_isLost_23 (by decide) ?_
    exact s_zret rfl (by decide) dX5_isLost_24 K0
  · have q := (b2i_z _).mp q
    have K0 := K0.2 q
    refine r_iconst (pc := 19) (v := 1) dX5_isLost_19 (by decide) ?_
    refine r_goto (pc := 20) (tgt := 24) dX5_isLost_20 (by decide) ?_
    exact s_zret rfl (by decide) dX5_isLost_24 K0
section
variable {K : Sh} {x : Cn} {Q : Int32 → Cn → Prop} {b t n : Nat}
theorem sp_X5_isLost (h1 : kk K b = some (5, 0)) (k : Q (b2i (f_lost x b)) x) : mSI mX5_isLost [.ref b] K x Q := v_X5_isLost_0 h1 ⟨fun h => (b2i_k k).2 (fun z => z h), fun h => (b2i_k k).1 h⟩
end
set_option maxHeartbeats 2000000 in
theorem v_X4_weeksToCome_0 {K : Sh} {x : Cn} {Q : Int32 → Cn → Prop} {b0 : Nat}  (k_b0 : kk K b0 = some (4, 0)) (K0 : (¬ (gi x b0 0 ≤ gi x b0 1) → (Q (f_sb (gi x b0 1) ((gi x b0 0) - 1)) x)) ∧ ((gi x b0 0 ≤ gi x b0 1) → (Q 0 x))) : mSI mX4_weeksToCome [.ref b0] K x Q := by
  refine s_I (by decide) (by simp [Value.category]) (Nat.le_of_ble_eq_true rfl) ?_
  show mGM mX4_weeksToCome 0 [some (.ref b0)] [] (hp K x) (PI K Q)
  refine r_aload_n (pc := 0) dX4_weeksToCome_0 rfl ?_
  refine s_VI (pc := 1) mX4_isOver (ci := 4) (a := b0) (As := []) dX4_weeksToCome_1 lk_X4_64 in_X4_isOver mo_X4_isOver ⟨by decide, rfl⟩ ⟨by decide, by decide⟩ (Nat.le_of_ble_eq_true rfl) k_b0 (sp_X4_isOver k_b0 ?_)
  refine r_if_eq (pc := 4) (tgt := 11) dX4_weeksToCome_4 (by decide) (fun q => ?_) (fun q => ?_)
  · have q := (b2i_z _).mp q
    have K0 := K0.1 q
    refine r_aload_n (pc := 11) dX4_weeksToCome_11 rfl ?_
    refine s_getI (pc := 12) dX4_weeksToCome_12 fl_X4_15 rfl k_b0 ?_
    refine r_aload_n (pc := 15) dX4_weeksToCome_15 rfl ?_
    refine s_getI (pc := 16) dX4_weeksToCome_16 fl_X4_9 rfl k_b0 ?_
    refine r_iconst (pc := 19) (v := 1) dX4_weeksToCome_19 (by decide) ?_
    refine r_isub (pc := 20) dX4_weeksToCome_20 ?_
    refine s_SNI (pc := 21) mX7_spanBits (As := [.int (gi x b0 1), .int ((gi x b0 0) - 1)]) dX4_weeksToCome_21 nl_X4_68 st_X7_spanBits mo_X7_spanBits ⟨by decide, by decide⟩ (Nat.le_of_ble_eq_true rfl) (sp_X7_spanBits  ?_)
    exact s_iret rfl dX4_weeksToCome_24 K0
  · have q := b2i_nz q
    have K0 := K0.2 q
    refine r_iconst (pc := 7) (v := 0) dX4_weeksToCome_7 (by decide) ?_
    refine r_goto (pc := 8) (tgt := 24) dX4_weeksToCome_8 (by decide) ?_
    exact s_iret rfl dX4_weeksToCome_24 K0
section
variable {K : Sh} {x : Cn} {Q : Int32 → Cn → Prop} {b t n : Nat}
theorem sp_X4_weeksToCome (h1 : kk K b = some (4, 0)) (k : Q (f_wtc (gi x b 1) (gi x b 0)) x) : mSI mX4_weeksToCome [.ref b] K x Q :=
  v_X4_weeksToCome_0 h1 ⟨fun h => by unfold f_wtc at k; rwa [if_neg h] at k, fun h => by unfold f_wtc at k; rwa [if_pos h] at k⟩
end
set_option maxHeartbeats 2000000 in
theorem v_X7_isDay_0 {K : Sh} {x : Cn} {Q : Int32 → Cn → Prop} {b0 : Nat} {l1 : Int32} {b0_2 : Nat} (k_b0 : kk K b0 = some (7, 0)) (g_b0_2 : gr x b0 2 = some b0_2) (k_b0_2 : kk K b0_2 = some (4, 0)) (K0 : (¬ (0 < gi x b0_2 0) → (Q 0 x)) ∧ ((0 < gi x b0_2 0) → ((l1 < 0 → (Q 0 x)) ∧ (¬ l1 < 0 → ((7 ≤ l1 → (Q 0 x)) ∧ (¬ 7 ≤ l1 → (Q 1 x))))))) : mSI mX7_isDay [.ref b0, .int l1] K x Q := by
  refine s_I (by decide) (by simp [Value.category]) (Nat.le_of_ble_eq_true rfl) ?_
  show mGM mX7_isDay 0 [some (.ref b0), some (.int l1)] [] (hp K x) (PI K Q)
  refine r_aload_n (pc := 0) dX7_isDay_0 rfl ?_
  refine s_VI (pc := 1) mX7_hasText (ci := 7) (a := b0) (As := []) dX7_isDay_1 lk_X7_121 in_X7_hasText mo_X7_hasText ⟨by decide, rfl⟩ ⟨by decide, by decide⟩ (Nat.le_of_ble_eq_true rfl) k_b0 (sp_X7_hasText k_b0 g_b0_2 k_b0_2 ?_)
  refine r_if_eq (pc := 4) (tgt := 21) dX7_isDay_4 (by decide) (fun q => ?_) (fun q => ?_)
  · have q := (b2i_z _).mp q
    have K0 := K0.1 q
    refine r_iconst (pc := 21) (v := 0) dX7_isDay_21 (by decide) ?_
    exact s_zret rfl (by decide) dX7_isDay_22 K0
  · have q := b2i_nz q
    have K0 := K0.2 q
    refine r_iload_n (pc := 7) dX7_isDay_7 rfl ?_
    refine r_if_lt (pc := 8) (tgt := 21) dX7_isDay_8 (by decide) (fun q => ?_) (fun q => ?_)
    · have K0 := K0.1 q
      refine r_iconst (pc := 21) (v := 0) dX7_isDay_21 (by decide) ?_
      exact s_zret rfl (by decide) dX7_isDay_22 K0
    · have K0 := K0.2 q
      refine r_iload_n (pc := 11) dX7_isDay_11 rfl ?_
      refine r_bipush (pc := 12) (v := 7) dX7_isDay_12 (by decide) ?_
      refine r_icmp_ge (pc := 14) (tgt := 21) dX7_isDay_14 (by decide) (fun q => ?_) (fun q => ?_)
      · have K0 := K0.1 q
        refine r_iconst (pc := 21) (v := 0) dX7_isDay_21 (by decide) ?_
        exact s_zret rfl (by decide) dX7_isDay_22 K0
      · have K0 := K0.2 q
        refine r_iconst (pc := 17) (v := 1) dX7_isDay_17 (by decide) ?_
        refine r_goto (pc := 18) (tgt := 22) dX7_isDay_18 (by decide) ?_
        exact s_zret rfl (by decide) dX7_isDay_22 K0
section
variable {K : Sh} {x : Cn} {Q : Int32 → Cn → Prop} {b t n : Nat}
theorem sp_X7_isDay {l1 : Int32} (h1 : kk K b = some (7, 0)) (h2 : gr x b 2 = some t) (h3 : kk K t = some (4, 0)) (k : Q (b2i (0 < gi x t 0 ∧ 0 ≤ l1 ∧ l1 < 7)) x) : mSI mX7_isDay [.ref b, .int l1] K x Q :=
  v_X7_isDay_0 h1 h2 h3 ⟨fun h => (b2i_k k).2 (fun z => h z.1), fun h => ⟨fun g => (b2i_k k).2 (fun z => Int32.not_le.mpr g z.2.1), fun g => ⟨fun f => (b2i_k k).2 (fun z => Int32.not_lt.mpr f z.2.2), fun f => (b2i_k k).1 ⟨h, Int32.not_lt.mp g, Int32.not_le.mp f⟩⟩⟩⟩
end
set_option maxHeartbeats 2000000 in
theorem v_X7_isHour_0 {K : Sh} {x : Cn} {Q : Int32 → Cn → Prop} {b0 : Nat} {l1 : Int32} {b0_2 : Nat} (k_b0 : kk K b0 = some (7, 0)) (g_b0_2 : gr x b0 2 = some b0_2) (k_b0_2 : kk K b0_2 = some (4, 0)) (K0 : (¬ (0 < gi x b0_2 0) → (Q 0 x)) ∧ ((0 < gi x b0_2 0) → ((l1 < 0 → (Q 0 x)) ∧ (¬ l1 < 0 → ((24 ≤ l1 → (Q 0 x)) ∧ (¬ 24 ≤ l1 → (Q 1 x))))))) : mSI mX7_isHour [.ref b0, .int l1] K x Q := by
  refine s_I (by decide) (by simp [Value.category]) (Nat.le_of_ble_eq_true rfl) ?_
  show mGM mX7_isHour 0 [some (.ref b0), some (.int l1)] [] (hp K x) (PI K Q)
  refine r_aload_n (pc := 0) dX7_isHour_0 rfl ?_
  refine s_VI (pc := 1) mX7_hasText (ci := 7) (a := b0) (As := []) dX7_isHour_1 lk_X7_121 in_X7_hasText mo_X7_hasText ⟨by decide, rfl⟩ ⟨by decide, by decide⟩ (Nat.le_of_ble_eq_true rfl) k_b0 (sp_X7_hasText k_b0 g_b0_2 k_b0_2 ?_)
  refine r_if_eq (pc := 4) (tgt := 21) dX7_isHour_4 (by decide) (fun q => ?_) (fun q => ?_)
  · have q := (b2i_z _).mp q
    have K0 := K0.1 q
    refine r_iconst (pc := 21) (v := 0) dX7_isHour_21 (by decide) ?_
    exact s_zret rfl (by decide) dX7_isHour_22 K0
  · have q := b2i_nz q
    have K0 := K0.2 q
    refine r_iload_n (pc := 7) dX7_isHour_7 rfl ?_
    refine r_if_lt (pc := 8) (tgt := 21) dX7_isHour_8 (by decide) (fun q => ?_) (fun q => ?_)
    · have K0 := K0.1 q
      refine r_iconst (pc := 21) (v := 0) dX7_isHour_21 (by decide) ?_
      exact s_zret rfl (by decide) dX7_isHour_22 K0
    · have K0 := K0.2 q
      refine r_iload_n (pc := 11) dX7_isHour_11 rfl ?_
      refine r_bipush (pc := 12) (v := 24) dX7_isHour_12 (by decide) ?_
      refine r_icmp_ge (pc := 14) (tgt := 21) dX7_isHour_14 (by decide) (fun q => ?_) (fun q => ?_)
      · have K0 := K0.1 q
        refine r_iconst (pc := 21) (v := 0) dX7_isHour_21 (by decide) ?_
        exact s_zret rfl (by decide) dX7_isHour_22 K0
      · have K0 := K0.2 q
        refine r_iconst (pc := 17) (v := 1) dX7_isHour_17 (by decide) ?_
        refine r_goto (pc := 18) (tgt := 22) dX7_isHour_18 (by decide) ?_
        exact s_zret rfl (by decide) dX7_isHour_22 K0
section
variable {K : Sh} {x : Cn} {Q : Int32 → Cn → Prop} {b t n : Nat}
theorem sp_X7_isHour {l1 : Int32} (h1 : kk K b = some (7, 0)) (h2 : gr x b 2 = some t) (h3 : kk K t = some (4, 0)) (k : Q (b2i (0 < gi x t 0 ∧ 0 ≤ l1 ∧ l1 < 24)) x) : mSI mX7_isHour [.ref b, .int l1] K x Q :=
  v_X7_isHour_0 h1 h2 h3 ⟨fun h => (b2i_k k).2 (fun z => h z.1), fun h => ⟨fun g => (b2i_k k).2 (fun z => Int32.not_le.mpr g z.2.1), fun g => ⟨fun f => (b2i_k k).2 (fun z => Int32.not_lt.mpr f z.2.2), fun f => (b2i_k k).1 ⟨h, Int32.not_lt.mp g, Int32.not_le.mp f⟩⟩⟩⟩
end
set_option maxHeartbeats 2000000 in
theorem v_X7_isCell_0 {K : Sh} {x : Cn} {Q : Int32 → Cn → Prop} {b0 : Nat} {l1 : Int32} {l2 : Int32} {l3 : Int32} {b0_2 : Nat} (k_b0 : kk K b0 = some (7, 0)) (g_b0_2 : gr x b0 2 = some b0_2) (k_b0_2 : kk K b0_2 = some (4, 0)) (K0 : (¬ (0 ≤ l1 ∧ l1 < gi x b0_2 0) → (Q 0 x)) ∧ ((0 ≤ l1 ∧ l1 < gi x b0_2 0) → ((¬ (0 < gi x b0_2 0 ∧ 0 ≤ l2 ∧ l2 < 7) → (Q 0 x)) ∧ ((0 < gi x b0_2 0 ∧ 0 ≤ l2 ∧ l2 < 7) → ((¬ (0 < gi x b0_2 0 ∧ 0 ≤ l3 ∧ l3 < 24) → (Q 0 x)) ∧ ((0 < gi x b0_2 0 ∧ 0 ≤ l3 ∧ l3 < 24) → (Q 1 x))))))) : mSI mX7_isCell [.ref b0, .int l1, .int l2, .int l3] K x Q := by
  refine s_I (by decide) (by simp [Value.category]) (Nat.le_of_ble_eq_true rfl) ?_
  show mGM mX7_isCell 0 [some (.ref b0), some (.int l1), some (.int l2), some (.int l3)] [] (hp K x) (PI K Q)
  refine r_aload_n (pc := 0) dX7_isCell_0 rfl ?_
  refine r_iload_n (pc := 1) dX7_isCell_1 rfl ?_
  refine s_VI (pc := 2) mX7_isWeek (ci := 7) (a := b0) (As := [.int l1]) dX7_isCell_2 lk_X7_167 in_X7_isWeek mo_X7_isWeek ⟨by decide, rfl⟩ ⟨by decide, by decide⟩ (Nat.le_of_ble_eq_true rfl) k_b0 (sp_X7_isWeek k_b0 g_b0_2 k_b0_2 ?_)
  refine r_if_eq (pc := 5) (tgt := 28) dX7_isCell_5 (by decide) (fun q => ?_) (fun q => ?_)
  · have q := (b2i_z _).mp q
    have K0 := K0.1 q
    refine r_iconst (pc := 28) (v := 0) dX7_isCell_28 (by decide) ?_
    exact s_zret rfl (by decide) dX7_isCell_29 K0
  · have q := b2i_nz q
    have K0 := K0.2 q
    refine r_aload_n (pc := 8) dX7_isCell_8 rfl ?_
    refine r_iload_n (pc := 9) dX7_isCell_9 rfl ?_
    refine s_VI (pc := 10) mX7_isDay (ci := 7) (a := b0) (As := [.int l2]) dX7_isCell_10 lk_X7_245 in_X7_isDay mo_X7_isDay ⟨by decide, rfl⟩ ⟨by decide, by decide⟩ (Nat.le_of_ble_eq_true rfl) k_b0 (sp_X7_isDay k_b0 g_b0_2 k_b0_2 ?_)
    refine r_if_eq (pc := 13) (tgt := 28) dX7_isCell_13 (by decide) (fun q => ?_) (fun q => ?_)
    · have q := (b2i_z _).mp q
      have K0 := K0.1 q
      refine r_iconst (pc := 28) (v := 0) dX7_isCell_28 (by decide) ?_
      exact s_zret rfl (by decide) dX7_isCell_29 K0
    · have q := b2i_nz q
      have K0 := K0.2 q
      refine r_aload_n (pc := 16) dX7_isCell_16 rfl ?_
      refine r_iload_n (pc := 17) dX7_isCell_17 rfl ?_
      refine s_VI (pc := 18) mX7_isHour (ci := 7) (a := b0) (As := [.int l3]) dX7_isCell_18 lk_X7_195 in_X7_isHour mo_X7_isHour ⟨by decide, rfl⟩ ⟨by decide, by decide⟩ (Nat.le_of_ble_eq_true rfl) k_b0 (sp_X7_isHour k_b0 g_b0_2 k_b0_2 ?_)
      refine r_if_eq (pc := 21) (tgt := 28) dX7_isCell_21 (by decide) (fun q => ?_) (fun q => ?_)
      · have q := (b2i_z _).mp q
        have K0 := K0.1 q
        refine r_iconst (pc := 28) (v := 0) dX7_isCell_28 (by decide) ?_
        exact s_zret rfl (by decide) dX7_isCell_29 K0
      · have q := b2i_nz q
        have K0 := K0.2 q
        refine r_iconst (pc := 24) (v := 1) dX7_isCell_24 (by decide) ?_
        refine r_goto (pc := 25) (tgt := 29) dX7_isCell_25 (by decide) ?_
        exact s_zret rfl (by decide) dX7_isCell_29 K0
section
variable {K : Sh} {x : Cn} {Q : Int32 → Cn → Prop} {b t n : Nat}
theorem sp_X7_isCell {l1 l2 l3 : Int32} (h1 : kk K b = some (7, 0)) (h2 : gr x b 2 = some t) (h3 : kk K t = some (4, 0)) (k : Q (b2i (0 ≤ l1 ∧ l1 < gi x t 0 ∧ 0 < gi x t 0 ∧ 0 ≤ l2 ∧ l2 < 7 ∧ 0 ≤ l3 ∧ l3 < 24)) x) : mSI mX7_isCell [.ref b, .int l1, .int l2, .int l3] K x Q :=
  v_X7_isCell_0 h1 h2 h3 ⟨fun h => (b2i_k k).2 (fun z => h ⟨z.1, z.2.1⟩), fun h => ⟨fun g => (b2i_k k).2 (fun z => g ⟨z.2.2.1, z.2.2.2.1, z.2.2.2.2.1⟩), fun g => ⟨fun f => (b2i_k k).2 (fun z => f ⟨z.2.2.1, z.2.2.2.2.2⟩), fun f => (b2i_k k).1 ⟨h.1, h.2, g.1, g.2.1, g.2.2, f.2⟩⟩⟩⟩
end
end
/-! 23.world.lean.txt -/
section
/-! the shape behind both constructors -/
def skd (j : Nat) : Nat × Nat := if j = 0 then (4, 0) else if j ≤ 2 then (20, 24) else if j = 3 then (23, 24) else if j = 4 then (24, 24) else if j = 5 then (20, 25) else if j < 30 then (5, 0) else (0, 0)
def kwf (a : Nat) : Nat × Nat := if a = 0 then (7, 0) else if a = 1 then (21, 1200) else if a < 56 then skd (a - 2) else if a = 56 then (1, 0) else if a = 57 then (20, 48) else if a = 58 then (22, 10) else if a = 59 then (3, 0) else if a < 114 then skd (a - 60) else if a = 114 then (1, 0) else if a = 115 then (20, 48) else if a = 116 then (21, 0) else if a = 117 then (2, 0) else if a < 172 then skd (a - 118) else if a = 172 then (20, 56) else if a ≤ 174 then (20, 24) else if a = 175 then (6, 0) else if a = 176 then (21, 2400) else if a < 717 then skd ((a - 177) % 54) else if a = 717 then (8, 0) else if a ≤ 719 then (20, 518) else if a = 720 then (21, 1200) else if a = 721 then (20, 7) else if a ≤ 723 then (20, 24) else if a = 724 then (20, 5180) else (21, 3000)
def KW : Sh := (726, kwf)
/-- where seasons lie -/
def Isea (q : Nat) : Prop := q = 2 ∨ q = 60 ∨ q = 118 ∨ ∃ i, i < 10 ∧ q = 177 + 54 * i
theorem ksea {q : Nat} (h : Isea q) : ∀ j, j < 54 → kk KW (q + j) = some (skd j) := by
  rcases h with rfl | rfl | rfl | ⟨i, hi, rfl⟩
  · decide +kernel
  · decide +kernel
  · decide +kernel
  · have : ∀ i, i < 10 → ∀ j, j < 54 → kk KW (177 + 54 * i + j) = some (skd j) := by decide +kernel
    exact this i hi
theorem Isea.lt {q : Nat} (h : Isea q) : 2 ≤ q ∧ q + 54 ≤ 717 := by
  rcases h with rfl | rfl | rfl | ⟨i, hi, rfl⟩ <;> omega
section KS
variable {q : Nat}
theorem ks0 (h : Isea q) : kk KW q = some (4, 0) := ksea h 0 (by decide)
theorem ks1 (h : Isea q) : kk KW (q + 1) = some (20, 24) := ksea h 1 (by decide)
theorem ks2 (h : Isea q) : kk KW (q + 2) = some (20, 24) := ksea h 2 (by decide)
theorem ks3 (h : Isea q) : kk KW (q + 3) = some (23, 24) := ksea h 3 (by decide)
theorem ks4 (h : Isea q) : kk KW (q + 4) = some (24, 24) := ksea h 4 (by decide)
theorem ks5 (h : Isea q) : kk KW (q + 5) = some (20, 25) := ksea h 5 (by decide)
theorem ks6 (h : Isea q) {j : Nat} (hj : j < 24) : kk KW (q + 6 + j) = some (5, 0) := by
  have := ksea h (6 + j) (by omega)
  rw [Nat.add_assoc, this]
  unfold skd
  rw [if_neg (by omega), if_neg (by omega), if_neg (by omega), if_neg (by omega), if_neg (by omega), if_pos (by omega)]
theorem ks30 (h : Isea q) {j : Nat} (hj : j < 24) : kk KW (q + 30 + j) = some (0, 0) := by
  have := ksea h (30 + j) (by omega)
  rw [Nat.add_assoc, this]
  unfold skd
  rw [if_neg (by omega), if_neg (by omega), if_neg (by omega), if_neg (by omega), if_neg (by omega), if_neg (by omega)]
end KS
/-! the told row as the state of all -/
abbrev TT : Type := Nat → Int32
def so (T : TT) (s k : Nat) : Int32 := T (62 + 12 * s + k)
def ao (T : TT) (a k : Nat) : Int32 := T (350 + 7 * a + k)
def bas (T : TT) (s : Nat) : Int32 := ((so T s 7 ||| so T s 8) ||| so T s 9) ||| so T s 10
/-- a series of the row is sound: C carriers, W weeks -/
def Wse (T : TT) (C W s : Nat) : Prop := (∃ c, c < C ∧ so T s 0 = nI c) ∧ (∃ d, d < 7 ∧ so T s 1 = nI d) ∧ (∃ h, h < 24 ∧ so T s 2 = nI h) ∧ (so T s 3 = 0 ∨ so T s 3 = 1) ∧ (so T s 4 = 0 ∨ so T s 4 = 1) ∧ (∃ f l, f ≤ l ∧ l < W ∧ so T s 5 = nI f ∧ so T s 6 = nI l) ∧ (∀ i, i < 32 → ∀ k j, k < 5 → j < 5 → tb (so T s (7 + k)) i = true → tb (so T s (7 + j)) i = true → k = j) ∧ ∀ i k, k < 5 → tb (so T s (7 + k)) i = true → i < W
def Was (T : TT) (C W a : Nat) : Prop := (∃ c, c < C ∧ ao T a 0 = nI c) ∧ (∃ d, d < 7 ∧ ao T a 1 = nI d) ∧ (∃ h, h < 24 ∧ ao T a 2 = nI h) ∧ (ao T a 3 = 0 ∨ ao T a 3 = 1) ∧ (∃ f l, f + 4 ≤ l ∧ l < W ∧ ao T a 4 = nI f ∧ ao T a 5 = nI l) ∧ ∃ b, b ≤ 9 ∧ ao T a 6 = nI b
/-- the row is sound: W weeks, C carriers, S series, A asks, now N -/
def WF (T : TT) (W C S A N : Nat) : Prop := T 0 = nI W ∧ ((W = 0 ∧ C = 0) ∨ 5 ≤ W) ∧ W ≤ 30 ∧ T 1 = nI C ∧ C ≤ 8 ∧ T 2 = nI S ∧ S ≤ 24 ∧ T 3 = nI A ∧ A ≤ 24 ∧ T 4 = nI N ∧ N ≤ W ∧ (∀ h, h < 24 → ∃ a b, a ≤ 10 ∧ b ≤ 10 ∧ T (6 + 2 * h) = nI a ∧ T (7 + 2 * h) = nI b) ∧ (∀ s, s < S → Wse T C W s) ∧ ∀ a, a < A → Was T C W a
/-! a season of the landed one shows the row -/
def SER (x : Cn) (p : Nat) (T : TT) (s : Nat) : Prop := (∀ k, k < 12 → k ≠ 7 → gi x p k = so T s k) ∧ gi x p 7 = bas T s ||| so T s 11
def ASR (x : Cn) (p : Nat) (T : TT) (a : Nat) : Prop := ∀ k, k < 7 → gi x p k = ao T a k
def SRf (x : Cn) (q : Nat) : Prop := gr x q 5 = some (q + 1) ∧ gr x q 6 = some (q + 2) ∧ gr x q 7 = some (q + 3) ∧ gr x q 8 = some (q + 4) ∧ gr x q 9 = some (q + 5) ∧ (∀ s, s < 24 → ∃ j, j < 24 ∧ gr x (q + 3) s = some (q + 6 + j)) ∧ (∀ s t, s < 24 → t < 24 → gr x (q + 3) s = gr x (q + 3) t → s = t) ∧ (∀ s, s < 24 → ∃ j, j < 24 ∧ gr x (q + 4) s = some (q + 30 + j)) ∧ ∀ s t, s < 24 → t < 24 → gr x (q + 4) s = gr x (q + 4) t → s = t
def SVl (x : Cn) (q : Nat) (T : TT) (S A : Nat) : Prop := gi x q 0 = T 0 ∧ gi x q 1 = T 4 ∧ gi x q 2 = T 5 ∧ gi x q 3 = T 2 ∧ gi x q 4 = T 3 ∧ (∀ h, h < 24 → gi x (q + 1) h = T (6 + 2 * h) ∧ gi x (q + 2) h = T (7 + 2 * h)) ∧ (∀ s p, s < S → gr x (q + 3) s = some p → SER x p T s) ∧ ∀ a p, a < A → gr x (q + 4) a = some p → ASR x p T a
/-- all of it -/
def SEA (x : Cn) (q : Nat) (T : TT) (W C S A N : Nat) : Prop := Isea q ∧ SRf x q ∧ SVl x q T S A ∧ WF T W C S A N
/-! bits of a series -/
theorem tb_bas (T : TT) (s i : Nat) : tb (bas T s) i = (((tb (so T s 7) i || tb (so T s 8) i) || tb (so T s 9) i) || tb (so T s 10) i) := by
  unfold bas
  rw [tb_or, tb_or, tb_or]
theorem SER.held {x : Cn} {p : Nat} {T : TT} {C W s : Nat} (h : SER x p T s) (w : Wse T C W s) : f_held x p = bas T s := by
  obtain ⟨-, -, -, -, -, -, hd, -⟩ := w
  unfold f_held
  rw [h.2, h.1 11 (by decide) (by decide)]
  apply tb_ext
  intro i hi
  rw [tb_and, tb_or, tb_not _ hi, tb_bas]
  have d0 := hd i hi 0 4 (by decide) (by decide)
  have d1 := hd i hi 1 4 (by decide) (by decide)
  have d2 := hd i hi 2 4 (by decide) (by decide)
  have d3 := hd i hi 3 4 (by decide) (by decide)
  simp only [Nat.add_zero, Nat.reduceAdd] at d0 d1 d2 d3
  cases h7 : tb (so T s 7) i <;> cases h8 : tb (so T s 8) i <;> cases h9 : tb (so T s 9) i <;> cases h10 : tb (so T s 10) i <;> cases h11 : tb (so T s 11) i <;> simp_all
theorem SER.opn {x : Cn} {p : Nat} {T : TT} {C W s : Nat} (h : SER x p T s) (w : Wse T C W s) : f_open x p = so T s 7 := by
  obtain ⟨-, -, -, -, -, -, hd, -⟩ := w
  unfold f_open
  rw [h.2, h.1 8 (by decide) (by decide), h.1 9 (by decide) (by decide), h.1 10 (by decide) (by decide), h.1 11 (by decide) (by decide)]
  apply tb_ext
  intro i hi
  rw [tb_and, tb_or, tb_not _ hi, tb_bas, tb_or, tb_or, tb_or]
  have d1 := hd i hi 0 1 (by decide) (by decide)
  have d2 := hd i hi 0 2 (by decide) (by decide)
  have d3 := hd i hi 0 3 (by decide) (by decide)
  have d4 := hd i hi 0 4 (by decide) (by decide)
  simp only [Nat.add_zero, Nat.reduceAdd] at d1 d2 d3 d4
  cases h7 : tb (so T s 7) i <;> cases h8 : tb (so T s 8) i <;> cases h9 : tb (so T s 9) i <;> cases h10 : tb (so T s 10) i <;> cases h11 : tb (so T s 11) i <;> simp_all
/-! places in the rows -/
theorem ix1 (s : Nat) {v : Int32} (k : Nat) (hk : v = nI k) : ((62 + (12 * nI s)) + v) = nI (62 + 12 * s + k) := by
  rw [hk, show (62 : Int32) = nI 62 by decide, show (12 : Int32) = nI 12 by decide, pk_mul, nI_add, nI_add]
theorem ix2 (s : Nat) {v : Int32} (k : Nat) (hk : v = nI k) : ((350 + (7 * nI s)) + v) = nI (350 + 7 * s + k) := by
  rw [hk, show (350 : Int32) = nI 350 by decide, show (7 : Int32) = nI 7 by decide, pk_mul, nI_add, nI_add]
theorem ic1 {s : Nat} (hs : s < 24) {v : Int32} (k : Nat) (hk : v = nI k) (h12 : k < 12) : (((62 + (12 * nI s)) + v) : Int32).toNatClampNeg = 62 + 12 * s + k := by rw [ix1 s k hk, nI_clamp (by omega)]
theorem ic2 {s : Nat} (hs : s < 24) {v : Int32} (k : Nat) (hk : v = nI k) (h12 : k < 7) : (((350 + (7 * nI s)) + v) : Int32).toNatClampNeg = 350 + 7 * s + k := by rw [ix2 s k hk, nI_clamp (by omega)]
theorem iv1 {s : Nat} (hs : s < 24) {v : Int32} (k : Nat) (hk : v = nI k) (h12 : k < 12) : vp_in (((62 + (12 * nI s)) + v) : Int32) 518 := by rw [ix1 s k hk]; exact vp_in_nI (by omega) (by decide)
theorem iv2 {s : Nat} (hs : s < 24) {v : Int32} (k : Nat) (hk : v = nI k) (h12 : k < 7) : vp_in (((350 + (7 * nI s)) + v) : Int32) 518 := by rw [ix2 s k hk]; exact vp_in_nI (by omega) (by decide)
theorem iv0 {v : Int32} (k N : Nat) (hk : v = nI k) (h : k < N) (hN : N < 2 ^ 31) : vp_in v N := by rw [hk]; exact vp_in_nI h hN
/-! the references of the reference itself: t is the row at hand -/
def MRf (x : Cn) (t : Nat) : Prop := gr x 717 1 = some 718 ∧ gr x 717 2 = some 719 ∧ gr x 717 3 = some t ∧ gr x 717 4 = some 720 ∧ gr x 717 15 = some 721 ∧ gr x 717 16 = some 722 ∧ gr x 717 17 = some 723 ∧ gr x 717 20 = some 724 ∧ gr x 717 21 = some 725
theorem km : kk KW 717 = some (8, 0) := by decide
theorem km1 : kk KW 718 = some (20, 518) := by decide
theorem km2 : kk KW 719 = some (20, 518) := by decide
/-- an int within 0 .. n-1 -/
theorem inN {v : Int32} {n : Nat} (hn : n < 2 ^ 31) (h : 0 ≤ v ∧ v < nI n) : ∃ j, j < n ∧ v = nI j := by
  obtain ⟨j, hj, rfl⟩ := nI_of (Int32.not_lt.mpr h.1)
  exact ⟨j, (nI_ltI hj hn).mp h.2, rfl⟩
theorem inN' {v : Int32} {n : Nat} (hn : n < 2 ^ 31) : (0 ≤ v ∧ v ≤ nI n - 1) ↔ (0 ≤ v ∧ v < nI n) := by
  cases n with
  | zero =>
    constructor
    · intro h
      have h1 : v ≤ -1 := h.2
      exact absurd (Int32.le_trans h.1 h1) (by decide)
    · intro h
      exact absurd h.2 (Int32.not_lt.mpr h.1)
  | succ n =>
    rw [nI_pred]
    constructor
    · intro h
      refine ⟨h.1, ?_⟩
      obtain ⟨j, hj, rfl⟩ := nI_of (Int32.not_lt.mpr h.1)
      have := (nI_leI hj (by omega)).mp h.2
      exact nI_lt (by omega) hn
    · intro h
      refine ⟨h.1, ?_⟩
      obtain ⟨j, hj, rfl⟩ := nI_of (Int32.not_lt.mpr h.1)
      have := (nI_ltI hj hn).mp h.2
      exact nI_le (by omega) (by omega)
end
/-! 24.rows.lean.txt -/
section
/-! reads of the reference's rows, by number of series or ask -/
def l24 (v : Int32) (n : Nat) : Prop := 0 ≤ v ∧ v < 24 ∧ n = 518
def l12 (v : Int32) : Prop := 0 ≤ v ∧ v < 12
def l7 (v : Int32) : Prop := 0 ≤ v ∧ v < 7
theorem l24_nI {s n : Nat} (h : s < 24) (hn : n = 518) : l24 (nI s) n := ⟨nI_pos' (by omega), nI_lt h (by decide), hn⟩
theorem l24_of {v : Int32} {n : Nat} (h : l24 v n) : ∃ s, s < 24 ∧ v = nI s ∧ n = 518 := by
  obtain ⟨h1, h2, h3⟩ := h
  obtain ⟨j, hj, e⟩ := inN (n := 24) (by decide) ⟨h1, h2⟩
  exact ⟨j, hj, e, h3⟩
theorem l12_of {v : Int32} (h : l12 v) : ∃ s, s < 12 ∧ v = nI s := inN (n := 12) (by decide) h
theorem l7_of {v : Int32} (h : l7 v) : ∃ s, s < 7 ∧ v = nI s := inN (n := 7) (by decide) h
section SRX
variable {K : Sh} {x : Cn} {Q : Int32 → Cn → Prop} {b t n : Nat}
theorem sr_X8_one {l1 l2 : Int32} (h1 : kk K b = some (8, 0)) (h2 : gr x b 3 = some t) (h3 : kk K t = some (20, n)) (h4 : l24 l1 n) (h5 : l12 l2) (k : Q (so (gi x t) l1.toNatClampNeg l2.toNatClampNeg) x) : mSI mX8_one [.ref b, .int l1, .int l2] K x Q := by
  obtain ⟨s, hs, rfl, rfl⟩ := l24_of h4
  obtain ⟨j, hj, rfl⟩ := l12_of h5
  refine sp_X8_one h1 h2 h3 (iv1 hs j rfl hj) ?_
  rw [ic1 hs j rfl hj]
  rw [nI_clamp (by omega), nI_clamp (by omega)] at k
  exact k
theorem sr_X8_ask0 {l1 l2 : Int32} (h1 : kk K b = some (8, 0)) (h2 : gr x b 3 = some t) (h3 : kk K t = some (20, n)) (h4 : l24 l1 n) (h5 : l7 l2) (k : Q (ao (gi x t) l1.toNatClampNeg l2.toNatClampNeg) x) : mSI mX8_ask0 [.ref b, .int l1, .int l2] K x Q := by
  obtain ⟨s, hs, rfl, rfl⟩ := l24_of h4
  obtain ⟨j, hj, rfl⟩ := l7_of h5
  refine sp_X8_ask0 h1 h2 h3 (iv2 hs j rfl hj) ?_
  rw [ic2 hs j rfl hj]
  rw [nI_clamp (by omega), nI_clamp (by omega)] at k
  exact k
theorem sr_X8_basisOf {l1 : Int32} (h1 : kk K b = some (8, 0)) (h2 : gr x b 3 = some t) (h3 : kk K t = some (20, n)) (h4 : l24 l1 n) (k : Q (bas (gi x t) l1.toNatClampNeg) x) : mSI mX8_basisOf [.ref b, .int l1] K x Q := by
  obtain ⟨s, hs, rfl, rfl⟩ := l24_of h4
  refine sp_X8_basisOf h1 h2 h3 (iv1 hs 7 (by decide) (by decide)) (iv1 hs 8 (by decide) (by decide)) (iv1 hs 9 (by decide) (by decide)) (iv1 hs 10 (by decide) (by decide)) ?_
  rw [ic1 hs 7 (by decide) (by decide), ic1 hs 8 (by decide) (by decide), ic1 hs 9 (by decide) (by decide), ic1 hs 10 (by decide) (by decide)]
  rw [nI_clamp (by omega)] at k
  exact k
theorem sr_X8_goodOf {l1 : Int32} (h1 : kk K b = some (8, 0)) (h2 : gr x b 3 = some t) (h3 : kk K t = some (20, n)) (h4 : l24 l1 n) (k : Q (nI (cpt (so (gi x t) l1.toNatClampNeg 8 ||| so (gi x t) l1.toNatClampNeg 10))) x) : mSI mX8_goodOf [.ref b, .int l1] K x Q := by
  obtain ⟨s, hs, rfl, rfl⟩ := l24_of h4
  refine sp_X8_goodOf h1 h2 h3 (iv1 hs 8 (by decide) (by decide)) (iv1 hs 10 (by decide) (by decide)) ?_
  rw [ic1 hs 8 (by decide) (by decide), ic1 hs 10 (by decide) (by decide)]
  rw [nI_clamp (by omega)] at k
  exact k
theorem sr_X8_isNew {l1 : Int32} (h1 : kk K b = some (8, 0)) (h2 : gr x b 3 = some t) (h3 : kk K t = some (20, n)) (h4 : l24 l1 n) (k : Q (b2i (so (gi x t) l1.toNatClampNeg 4 = 1)) x) : mSI mX8_isNew [.ref b, .int l1] K x Q := by
  obtain ⟨s, hs, rfl, rfl⟩ := l24_of h4
  refine sp_X8_isNew h1 h2 h3 (iv1 hs 4 (by decide) (by decide)) ?_
  rw [ic1 hs 4 (by decide) (by decide)]
  rw [nI_clamp (by omega)] at k
  exact k
theorem sr_X8_weeksOf {l1 : Int32} (h1 : kk K b = some (8, 0)) (h2 : gr x b 3 = some t) (h3 : kk K t = some (20, n)) (h4 : l24 l1 n) (k : Q (f_span (ao (gi x t) l1.toNatClampNeg 4) (ao (gi x t) l1.toNatClampNeg 5) &&& f_span (gi x t 4) (gi x t 0 - 1)) x) : mSI mX8_weeksOf [.ref b, .int l1] K x Q := by
  obtain ⟨s, hs, rfl, rfl⟩ := l24_of h4
  refine sp_X8_weeksOf h1 h2 h3 (iv2 hs 4 (by decide) (by decide)) (iv2 hs 5 (by decide) (by decide)) (iv0 4 518 (by decide) (by decide) (by decide)) (iv0 0 518 (by decide) (by decide) (by decide)) ?_
  rw [ic2 hs 4 (by decide) (by decide), ic2 hs 5 (by decide) (by decide)]
  rw [nI_clamp (by omega)] at k
  exact k
end SRX
/-! sums and sets over the first n numbers -/
def sumT (f : Nat → Int32) : Nat → Int32
  | 0 => 0
  | n + 1 => sumT f n + f n
def orT (f : Nat → Bool) : Nat → Int32
  | 0 => 0
  | n + 1 => orT f n ||| (if f n = true then (1 : Int32) <<< (nI n &&& 31) else 0)
theorem sumT_congr {f g : Nat → Int32} : ∀ n, (∀ i, i < n → f i = g i) → sumT f n = sumT g n := by
  intro n
  induction n with
  | zero => intro _; rfl
  | succ n ih =>
    intro h
    simp only [sumT]
    rw [ih (fun i hi => h i (by omega)), h n (by omega)]
theorem orT_congr {f g : Nat → Bool} : ∀ n, (∀ i, i < n → f i = g i) → orT f n = orT g n := by
  intro n
  induction n with
  | zero => intro _; rfl
  | succ n ih =>
    intro h
    simp only [orT]
    rw [ih (fun i hi => h i (by omega)), h n (by omega)]
end
/-! 25.load.lean.txt -/
section
abbrev cB (T : TT) (s w : Nat) (d h k b : Int32) : Prop := ¬ nI s = b ∧ so T s 1 = d ∧ so T s 2 = h ∧ (k ≤ 0 ∨ so T s 3 = k - 1) ∧ tb (bas T s) w = true
/-- LOAD: of a kind (0 all, 1 in, 2 out), but one -/
def ldB (T : TT) (S w : Nat) (d h k b : Int32) : Int32 := sumT (fun s => if cB T s w d h k b then 1 else 0) S
theorem ldB_t {T : TT} {s w : Nat} {d h k b : Int32} (z : cB T s w d h k b) : ldB T (s + 1) w d h k b = ldB T s w d h k b + 1 := by
  show sumT _ s + (if cB T s w d h k b then 1 else 0) = _
  rw [if_pos z]
  rfl
theorem ldB_f {T : TT} {s w : Nat} {d h k b : Int32} (z : ¬ cB T s w d h k b) : ldB T (s + 1) w d h k b = ldB T s w d h k b := by
  show sumT _ s + (if cB T s w d h k b then 1 else 0) = _
  rw [if_neg z, Int32.add_zero]
  rfl
theorem SEA.ser {x : Cn} {q : Nat} {T : TT} {W C S A N s : Nat} (E : SEA x q T W C S A N) (hs : s < S) : ∃ p, gr x (q + 3) s = some p ∧ kk KW p = some (5, 0) ∧ SER x p T s ∧ f_held x p = bas T s ∧ f_open x p = so T s 7 ∧ Wse T C W s := by
  obtain ⟨h1, ⟨-, -, -, -, -, h2, -⟩, ⟨-, -, -, -, -, -, h3, -⟩, ⟨-, -, -, -, -, -, hS, -, -, -, -, -, h4, -⟩⟩ := E
  obtain ⟨j, hj, e⟩ := h2 s (by omega)
  have hse := h3 s _ hs e
  exact ⟨_, e, ks6 h1 hj, hse, hse.held (h4 s hs), hse.opn (h4 s hs), h4 s hs⟩
theorem SEA.ask {x : Cn} {q : Nat} {T : TT} {W C S A N s : Nat} (E : SEA x q T W C S A N) (hs : s < A) : ∃ p, gr x (q + 4) s = some p ∧ kk KW p = some (0, 0) ∧ ASR x p T s ∧ Was T C W s := by
  obtain ⟨h1, ⟨-, -, -, -, -, -, -, h2, -⟩, ⟨-, -, -, -, -, -, -, h3⟩, ⟨-, -, -, -, -, -, -, -, hA, -, -, -, -, h4⟩⟩ := E
  obtain ⟨j, hj, e⟩ := h2 s (by omega)
  exact ⟨_, e, ks30 h1 hj, h3 s _ hs e, h4 s hs⟩
theorem SEA.nums {x : Cn} {q : Nat} {T : TT} {W C S A N : Nat} (E : SEA x q T W C S A N) : gi x q 0 = nI W ∧ gi x q 1 = nI N ∧ gi x q 3 = nI S ∧ gi x q 4 = nI A ∧ W ≤ 30 ∧ C ≤ 8 ∧ S ≤ 24 ∧ A ≤ 24 ∧ N ≤ W := by
  obtain ⟨h1, -, ⟨v0, v1, -, v3, v4, -⟩, ⟨w0, -, w1, -, w2, w3, w4, w5, w6, w7, w8, -⟩⟩ := E
  exact ⟨v0.trans w0, v1.trans w7, v3.trans w3, v4.trans w5, w1, w2, w4, w6, w8⟩
set_option maxHeartbeats 2000000 in
theorem v_X4_loadOf_0 {K : Sh} {x : Cn} {Q : Int32 → Cn → Prop} {b0 : Nat} {l1 : Int32} {l2 : Int32} {l3 : Int32}   (K0 : GI mX4_loadOf 6 [some (.ref b0), some (.int l1), some (.int l2), some (.int l3), some (.int 0), some (.int 0)] [] K x Q) : mSI mX4_loadOf [.ref b0, .int l1, .int l2, .int l3] K x Q := by
  refine s_I (by decide) (by simp [Value.category]) (Nat.le_of_ble_eq_true rfl) ?_
  show mGM mX4_loadOf 0 [some (.ref b0), some (.int l1), some (.int l2), some (.int l3), none, none] [] (hp K x) (PI K Q)
  refine r_iconst (pc := 0) (v := 0) dX4_loadOf_0 (by decide) ?_
  refine r_istore (pc := 1) dX4_loadOf_1 (by decide) ?_
  refine r_iconst (pc := 3) (L := [some (.ref b0), some (.int l1), some (.int l2), some (.int l3), some (.int 0), none]) (v := 0) dX4_loadOf_3 (by decide) ?_
  refine r_istore (pc := 4) dX4_loadOf_4 (by decide) ?_
  exact r_le (L' := [some (.ref b0), some (.int l1), some (.int l2), some (.int l3), some (.int 0), some (.int 0)]) ⟨rfl, ⟨rfl, ⟨rfl, ⟨rfl, ⟨rfl, ⟨rfl, trivial⟩⟩⟩⟩⟩⟩ K0
set_option maxHeartbeats 2000000 in
theorem v_X4_loadOf_6 {K : Sh} {x : Cn} {Q : Int32 → Cn → Prop} {b0 : Nat} {l1 : Int32} {l2 : Int32} {l3 : Int32} {l4 : Int32} {l5 : Int32} {b0_7 : Nat} {n_b0_7 : Nat} (k_b0 : kk K b0 = some (4, 0)) (g_b0_7 : gr x b0 7 = some b0_7) (k_b0_7 : kk K b0_7 = some (23, n_b0_7)) (K0 : ((gi x b0 3) ≤ l5 → (Q l4 x)) ∧ (¬ (gi x b0 3) ≤ l5 → (vp_in l5 n_b0_7 ∧ (∃ c_3 : Nat, gr x b0_7 ((l5 : Int32).toNatClampNeg) = some c_3 ∧ (kk K c_3 = some (5, 0) ∧ ((¬ (gi x c_3 1 = l2 ∧ gi x c_3 2 = l3 ∧ f_bit (f_held x c_3) l1) → (GI mX4_loadOf 6 [some (.ref b0), some (.int l1), some (.int l2), some (.int l3), some (.int l4), some (.int (l5 + 1))] [] K x Q)) ∧ ((gi x c_3 1 = l2 ∧ gi x c_3 2 = l3 ∧ f_bit (f_held x c_3) l1) → (GI mX4_loadOf 6 [some (.ref b0), some (.int l1), some (.int l2), some (.int l3), some (.int (l4 + 1)), some (.int (l5 + 1))] [] K x Q)))))))) : GI mX4_loadOf 6 [some (.ref b0), some (.int l1), some (.int l2), some (.int l3), some (.int l4), some (.int l5)] [] K x Q := by
  show mGM mX4_loadOf 6 [some (.ref b0), some (.int l1), some (.int l2), some (.int l3), some (.int l4), some (.int l5)] [] (hp K x) (PI K Q)
  refine r_iload (pc := 6) dX4_loadOf_6 rfl ?_
  refine r_aload_n (pc := 8) dX4_loadOf_8 rfl ?_
  refine s_getI (pc := 9) dX4_loadOf_9 fl_X4_21 rfl k_b0 ?_
  refine r_icmp_ge (pc := 12) (tgt := 40) dX4_loadOf_12 (by decide) (fun q => ?_) (fun q => ?_)
  · have K0 := K0.1 q
    refine r_iload (pc := 40) dX4_loadOf_40 rfl ?_
    exact s_iret rfl dX4_loadOf_42 K0
  · have K0 := K0.2 q
    refine r_aload_n (pc := 15) dX4_loadOf_15 rfl ?_
    refine s_getR (pc := 16) dX4_loadOf_16 fl_X4_36 rfl k_b0 g_b0_7 ?_
    refine r_iload (pc := 19) dX4_loadOf_19 rfl ?_
    obtain ⟨i_2, K0⟩ := K0
    obtain ⟨c_3, g_4, K0⟩ := K0
    refine s_aald (pc := 21) dX4_loadOf_21 (by decide) rfl k_b0_7 i_2 g_4 ?_
    refine r_iload_n (pc := 22) dX4_loadOf_22 rfl ?_
    refine r_iload_n (pc := 23) dX4_loadOf_23 rfl ?_
    refine r_iload_n (pc := 24) dX4_loadOf_24 rfl ?_
    obtain ⟨e_5, K0⟩ := K0
    refine s_VI (pc := 25) mX5_fills (ci := 5) (a := c_3) (As := [.int l1, .int l2, .int l3]) dX4_loadOf_25 lk_X4_71 in_X5_fills mo_X5_fills ⟨by decide, rfl⟩ ⟨by decide, by decide⟩ (Nat.le_of_ble_eq_true rfl) e_5 (sp_X5_fills e_5 ?_)
    refine r_if_eq (pc := 28) (tgt := 34) dX4_loadOf_28 (by decide) (fun q => ?_) (fun q => ?_)
    · have q := (b2i_z _).mp q
      have K0 := K0.1 q
      refine r_iinc (pc := 34) (v := l5 + 1) dX4_loadOf_34 rfl rfl (by decide) ?_
      refine r_goto (pc := 37) (L := [some (.ref b0), some (.int l1), some (.int l2), some (.int l3), some (.int l4), some (.int (l5 + 1))]) (tgt := 6) dX4_loadOf_37 (by decide) ?_
      exact r_le (L' := [some (.ref b0), some (.int l1), some (.int l2), some (.int l3), some (.int l4), some (.int (l5 + 1))]) ⟨rfl, ⟨rfl, ⟨rfl, ⟨rfl, ⟨rfl, ⟨rfl, trivial⟩⟩⟩⟩⟩⟩ K0
    · have q := b2i_nz q
      have K0 := K0.2 q
      refine r_iinc (pc := 31) (v := l4 + 1) dX4_loadOf_31 rfl rfl (by decide) ?_
      refine r_iinc (pc := 34) (L := [some (.ref b0), some (.int l1), some (.int l2), some (.int l3), some (.int (l4 + 1)), some (.int l5)]) (v := l5 + 1) dX4_loadOf_34 rfl rfl (by decide) ?_
      refine r_goto (pc := 37) (L := [some (.ref b0), some (.int l1), some (.int l2), some (.int l3), some (.int (l4 + 1)), some (.int (l5 + 1))]) (tgt := 6) dX4_loadOf_37 (by decide) ?_
      exact r_le (L' := [some (.ref b0), some (.int l1), some (.int l2), some (.int l3), some (.int (l4 + 1)), some (.int (l5 + 1))]) ⟨rfl, ⟨rfl, ⟨rfl, ⟨rfl, ⟨rfl, ⟨rfl, trivial⟩⟩⟩⟩⟩⟩ K0
section
variable {x : Cn} {Q : Int32 → Cn → Prop} {q : Nat} {T : TT} {W C S A N : Nat}
theorem lp_X4_loadOf (E : SEA x q T W C S A N) {w : Nat} {d h : Int32} (hw : w < 32) (k : Q (ldB T S w d h 0 (-1)) x) : ∀ (n s : Nat) (acc : Int32), s + n = S → acc = ldB T s w d h 0 (-1) → GI mX4_loadOf 6 [some (.ref q), some (.int (nI w)), some (.int d), some (.int h), some (.int acc), some (.int (nI s))] [] KW x Q := by
  have hn := E.nums
  intro n
  induction n with
  | zero =>
    intro s acc hs ha
    refine v_X4_loadOf_6 (ks0 E.1) E.2.1.2.2.1 (ks3 E.1) ⟨fun _ => ?_, fun z => ?_⟩
    · rw [ha, show s = S by omega]
      exact k
    · exact absurd (by rw [hn.2.2.1]; exact nI_le (by omega) (by omega)) z
  | succ n ih =>
    intro s acc hs ha
    refine v_X4_loadOf_6 (ks0 E.1) E.2.1.2.2.1 (ks3 E.1) ⟨fun z => ?_, fun _ => ?_⟩
    · rw [hn.2.2.1] at z
      exact absurd z (nI_ge (by omega) (by omega))
    · obtain ⟨p, e1, e2, e3, e4, -, -⟩ := E.ser (s := s) (by omega)
      refine ⟨vp_in_nI (by omega) (by decide), p, by rw [nI_clamp (by omega)]; exact e1, e2, ?_⟩
      rw [e3.1 1 (by decide) (by decide), e3.1 2 (by decide) (by decide), e4, f_bit_tb _ hw, nI_1]
      have hm : ¬ nI s = -1 := fun z => absurd (show (0 : Int32) ≤ -1 by rw [← z]; exact nI_pos' (by omega)) (by decide)
      refine ⟨fun z => ih (s + 1) acc (by omega) ?_, fun z => ih (s + 1) (acc + 1) (by omega) ?_⟩
      · rw [ldB_f (fun g => z ⟨g.2.1, g.2.2.1, g.2.2.2.2⟩)]
        exact ha
      · rw [ldB_t ⟨hm, z.1, z.2.1, Or.inl (by decide), z.2.2⟩, ha]
theorem sp_X4_loadOf (E : SEA x q T W C S A N) {w : Nat} {d h : Int32} (hw : w < 32) (k : Q (ldB T S w d h 0 (-1)) x) : mSI mX4_loadOf [.ref q, .int (nI w), .int d, .int h] KW x Q := v_X4_loadOf_0 (lp_X4_loadOf E hw k S 0 0 (by omega) rfl)
end
set_option maxHeartbeats 2000000 in
theorem v_X4_loadIn_0 {K : Sh} {x : Cn} {Q : Int32 → Cn → Prop} {b0 : Nat} {l1 : Int32} {l2 : Int32} {l3 : Int32}   (K0 : GI mX4_loadIn 6 [some (.ref b0), some (.int l1), some (.int l2), some (.int l3), some (.int 0), some (.int 0)] [] K x Q) : mSI mX4_loadIn [.ref b0, .int l1, .int l2, .int l3] K x Q := by
  refine s_I (by decide) (by simp [Value.category]) (Nat.le_of_ble_eq_true rfl) ?_
  show mGM mX4_loadIn 0 [some (.ref b0), some (.int l1), some (.int l2), some (.int l3), none, none] [] (hp K x) (PI K Q)
  refine r_iconst (pc := 0) (v := 0) dX4_loadIn_0 (by decide) ?_
  refine r_istore (pc := 1) dX4_loadIn_1 (by decide) ?_
  refine r_iconst (pc := 3) (L := [some (.ref b0), some (.int l1), some (.int l2), some (.int l3), some (.int 0), none]) (v := 0) dX4_loadIn_3 (by decide) ?_
  refine r_istore (pc := 4) dX4_loadIn_4 (by decide) ?_
  exact r_le (L' := [some (.ref b0), some (.int l1), some (.int l2), some (.int l3), some (.int 0), some (.int 0)]) ⟨rfl, ⟨rfl, ⟨rfl, ⟨rfl, ⟨rfl, ⟨rfl, trivial⟩⟩⟩⟩⟩⟩ K0
set_option maxHeartbeats 2000000 in
theorem v_X4_loadIn_6 {K : Sh} {x : Cn} {Q : Int32 → Cn → Prop} {b0 : Nat} {l1 : Int32} {l2 : Int32} {l3 : Int32} {l4 : Int32} {l5 : Int32} {b0_7 : Nat} {n_b0_7 : Nat} (k_b0 : kk K b0 = some (4, 0)) (g_b0_7 : gr x b0 7 = some b0_7) (k_b0_7 : kk K b0_7 = some (23, n_b0_7)) (K0 : ((gi x b0 3) ≤ l5 → (Q l4 x)) ∧ (¬ (gi x b0 3) ≤ l5 → (vp_in l5 n_b0_7 ∧ (∃ c_3 : Nat, gr x b0_7 ((l5 : Int32).toNatClampNeg) = some c_3 ∧ (kk K c_3 = some (5, 0) ∧ ((¬ (gi x c_3 3) = 0 → (GI mX4_loadIn 6 [some (.ref b0), some (.int l1), some (.int l2), some (.int l3), some (.int l4), some (.int (l5 + 1))] [] K x Q)) ∧ ((gi x c_3 3) = 0 → ((¬ (gi x c_3 1 = l2 ∧ gi x c_3 2 = l3 ∧ f_bit (f_held x c_3) l1) → (GI mX4_loadIn 6 [some (.ref b0), some (.int l1), some (.int l2), some (.int l3), some (.int l4), some (.int (l5 + 1))] [] K x Q)) ∧ ((gi x c_3 1 = l2 ∧ gi x c_3 2 = l3 ∧ f_bit (f_held x c_3) l1) → (GI mX4_loadIn 6 [some (.ref b0), some (.int l1), some (.int l2), some (.int l3), some (.int (l4 + 1)), some (.int (l5 + 1))] [] K x Q)))))))))) : GI mX4_loadIn 6 [some (.ref b0), some (.int l1), some (.int l2), some (.int l3), some (.int l4), some (.int l5)] [] K x Q := by
  show mGM mX4_loadIn 6 [some (.ref b0), some (.int l1), some (.int l2), some (.int l3), some (.int l4), some (.int l5)] [] (hp K x) (PI K Q)
  refine r_iload (pc := 6) dX4_loadIn_6 rfl ?_
  refine r_aload_n (pc := 8) dX4_loadIn_8 rfl ?_
  refine s_getI (pc := 9) dX4_loadIn_9 fl_X4_21 rfl k_b0 ?_
  refine r_icmp_ge (pc := 12) (tgt := 53) dX4_loadIn_12 (by decide) (fun q => ?_) (fun q => ?_)
  · have K0 := K0.1 q
    refine r_iload (pc := 53) dX4_loadIn_53 rfl ?_
    exact s_iret rfl dX4_loadIn_55 K0
  · have K0 := K0.2 q
    refine r_aload_n (pc := 15) dX4_loadIn_15 rfl ?_
    refine s_getR (pc := 16) dX4_loadIn_16 fl_X4_36 rfl k_b0 g_b0_7 ?_
    refine r_iload (pc := 19) dX4_loadIn_19 rfl ?_
    obtain ⟨i_2, K0⟩ := K0
    obtain ⟨c_3, g_4, K0⟩ := K0
    refine s_aald (pc := 21) dX4_loadIn_21 (by decide) rfl k_b0_7 i_2 g_4 ?_
    obtain ⟨e_5, K0⟩ := K0
    refine s_getI (pc := 22) dX4_loadIn_22 fl_X4_75 rfl e_5 ?_
    refine r_if_ne (pc := 25) (tgt := 47) dX4_loadIn_25 (by decide) (fun q => ?_) (fun q => ?_)
    · have K0 := K0.1 q
      refine r_iinc (pc := 47) (v := l5 + 1) dX4_loadIn_47 rfl rfl (by decide) ?_
      refine r_goto (pc := 50) (L := [some (.ref b0), some (.int l1), some (.int l2), some (.int l3), some (.int l4), some (.int (l5 + 1))]) (tgt := 6) dX4_loadIn_50 (by decide) ?_
      exact r_le (L' := [some (.ref b0), some (.int l1), some (.int l2), some (.int l3), some (.int l4), some (.int (l5 + 1))]) ⟨rfl, ⟨rfl, ⟨rfl, ⟨rfl, ⟨rfl, ⟨rfl, trivial⟩⟩⟩⟩⟩⟩ K0
    · have K0 := K0.2 q
      refine r_aload_n (pc := 28) dX4_loadIn_28 rfl ?_
      refine s_getR (pc := 29) dX4_loadIn_29 fl_X4_36 rfl k_b0 g_b0_7 ?_
      refine r_iload (pc := 32) dX4_loadIn_32 rfl ?_
      refine s_aald (pc := 34) dX4_loadIn_34 (by decide) rfl k_b0_7 i_2 g_4 ?_
      refine r_iload_n (pc := 35) dX4_loadIn_35 rfl ?_
      refine r_iload_n (pc := 36) dX4_loadIn_36 rfl ?_
      refine r_iload_n (pc := 37) dX4_loadIn_37 rfl ?_
      refine s_VI (pc := 38) mX5_fills (ci := 5) (a := c_3) (As := [.int l1, .int l2, .int l3]) dX4_loadIn_38 lk_X4_71 in_X5_fills mo_X5_fills ⟨by decide, rfl⟩ ⟨by decide, by decide⟩ (Nat.le_of_ble_eq_true rfl) e_5 (sp_X5_fills e_5 ?_)
      refine r_if_eq (pc := 41) (tgt := 47) dX4_loadIn_41 (by decide) (fun q => ?_) (fun q => ?_)
      · have q := (b2i_z _).mp q
        have K0 := K0.1 q
        refine r_iinc (pc := 47) (v := l5 + 1) dX4_loadIn_47 rfl rfl (by decide) ?_
        refine r_goto (pc := 50) (L := [some (.ref b0), some (.int l1), some (.int l2), some (.int l3), some (.int l4), some (.int (l5 + 1))]) (tgt := 6) dX4_loadIn_50 (by decide) ?_
        exact r_le (L' := [some (.ref b0), some (.int l1), some (.int l2), some (.int l3), some (.int l4), some (.int (l5 + 1))]) ⟨rfl, ⟨rfl, ⟨rfl, ⟨rfl, ⟨rfl, ⟨rfl, trivial⟩⟩⟩⟩⟩⟩ K0
      · have q := b2i_nz q
        have K0 := K0.2 q
        refine r_iinc (pc := 44) (v := l4 + 1) dX4_loadIn_44 rfl rfl (by decide) ?_
        refine r_iinc (pc := 47) (L := [some (.ref b0), some (.int l1), some (.int l2), some (.int l3), some (.int (l4 + 1)), some (.int l5)]) (v := l5 + 1) dX4_loadIn_47 rfl rfl (by decide) ?_
        refine r_goto (pc := 50) (L := [some (.ref b0), some (.int l1), some (.int l2), some (.int l3), some (.int (l4 + 1)), some (.int (l5 + 1))]) (tgt := 6) dX4_loadIn_50 (by decide) ?_
        exact r_le (L' := [some (.ref b0), some (.int l1), some (.int l2), some (.int l3), some (.int (l4 + 1)), some (.int (l5 + 1))]) ⟨rfl, ⟨rfl, ⟨rfl, ⟨rfl, ⟨rfl, ⟨rfl, trivial⟩⟩⟩⟩⟩⟩ K0
section
variable {x : Cn} {Q : Int32 → Cn → Prop} {q : Nat} {T : TT} {W C S A N : Nat}
theorem lp_X4_loadIn (E : SEA x q T W C S A N) {w : Nat} {d h : Int32} (hw : w < 32) (k : Q (ldB T S w d h 1 (-1)) x) : ∀ (n s : Nat) (acc : Int32), s + n = S → acc = ldB T s w d h 1 (-1) → GI mX4_loadIn 6 [some (.ref q), some (.int (nI w)), some (.int d), some (.int h), some (.int acc), some (.int (nI s))] [] KW x Q := by
  have hn := E.nums
  intro n
  induction n with
  | zero =>
    intro s acc hs ha
    refine v_X4_loadIn_6 (ks0 E.1) E.2.1.2.2.1 (ks3 E.1) ⟨fun _ => ?_, fun z => ?_⟩
    · rw [ha, show s = S by omega]
      exact k
    · exact absurd (by rw [hn.2.2.1]; exact nI_le (by omega) (by omega)) z
  | succ n ih =>
    intro s acc hs ha
    refine v_X4_loadIn_6 (ks0 E.1) E.2.1.2.2.1 (ks3 E.1) ⟨fun z => ?_, fun _ => ?_⟩
    · rw [hn.2.2.1] at z
      exact absurd z (nI_ge (by omega) (by omega))
    · obtain ⟨p, e1, e2, e3, e4, -, -⟩ := E.ser (s := s) (by omega)
      refine ⟨vp_in_nI (by omega) (by decide), p, by rw [nI_clamp (by omega)]; exact e1, e2, ?_⟩
      rw [e3.1 1 (by decide) (by decide), e3.1 2 (by decide) (by decide), e3.1 3 (by decide) (by decide), e4, f_bit_tb _ hw, nI_1]
      have hm : ¬ nI s = -1 := fun z => absurd (show (0 : Int32) ≤ -1 by rw [← z]; exact nI_pos' (by omega)) (by decide)
      have hk : ((1 : Int32) ≤ 0 ∨ so T s 3 = 1 - 1) ↔ so T s 3 = 0 := ⟨fun z => z.elim (fun z => absurd z (by decide)) (fun z => z), fun z => Or.inr z⟩
      refine ⟨fun z => ih (s + 1) acc (by omega) ?_, fun z1 => ⟨fun z => ih (s + 1) acc (by omega) ?_, fun z => ih (s + 1) (acc + 1) (by omega) ?_⟩⟩
      · rw [ldB_f (fun g => z (hk.mp g.2.2.2.1))]
        exact ha
      · rw [ldB_f (fun g => z ⟨g.2.1, g.2.2.1, g.2.2.2.2⟩)]
        exact ha
      · rw [ldB_t ⟨hm, z.1, z.2.1, hk.mpr z1, z.2.2⟩, ha]
theorem sp_X4_loadIn (E : SEA x q T W C S A N) {w : Nat} {d h : Int32} (hw : w < 32) (k : Q (ldB T S w d h 1 (-1)) x) : mSI mX4_loadIn [.ref q, .int (nI w), .int d, .int h] KW x Q := v_X4_loadIn_0 (lp_X4_loadIn E hw k S 0 0 (by omega) rfl)
end
set_option maxHeartbeats 2000000 in
theorem v_X8_loadBut_0 {K : Sh} {x : Cn} {Q : Int32 → Cn → Prop} {b0 : Nat} {l1 : Int32} {l2 : Int32} {l3 : Int32} {l4 : Int32} {l5 : Int32}   (K0 : GI mX8_loadBut 6 [some (.ref b0), some (.int l1), some (.int l2), some (.int l3), some (.int l4), some (.int l5), some (.int 0), some (.int 0)] [] K x Q) : mSI mX8_loadBut [.ref b0, .int l1, .int l2, .int l3, .int l4, .int l5] K x Q := by
  refine s_I (by decide) (by simp [Value.category]) (Nat.le_of_ble_eq_true rfl) ?_
  show mGM mX8_loadBut 0 [some (.ref b0), some (.int l1), some (.int l2), some (.int l3), some (.int l4), some (.int l5), none, none] [] (hp K x) (PI K Q)
  refine r_iconst (pc := 0) (v := 0) dX8_loadBut_0 (by decide) ?_
  refine r_istore (pc := 1) dX8_loadBut_1 (by decide) ?_
  refine r_iconst (pc := 3) (L := [some (.ref b0), some (.int l1), some (.int l2), some (.int l3), some (.int l4), some (.int l5), some (.int 0), none]) (v := 0) dX8_loadBut_3 (by decide) ?_
  refine r_istore (pc := 4) dX8_loadBut_4 (by decide) ?_
  exact r_le (L' := [some (.ref b0), some (.int l1), some (.int l2), some (.int l3), some (.int l4), some (.int l5), some (.int 0), some (.int 0)]) ⟨rfl, ⟨rfl, ⟨rfl, ⟨rfl, ⟨rfl, ⟨rfl, ⟨rfl, ⟨rfl, trivial⟩⟩⟩⟩⟩⟩⟩⟩ K0
set_option maxHeartbeats 2000000 in
theorem v_X8_loadBut_6 {K : Sh} {x : Cn} {Q : Int32 → Cn → Prop} {b0 : Nat} {l1 : Int32} {l2 : Int32} {l3 : Int32} {l4 : Int32} {l5 : Int32} {l6 : Int32} {l7 : Int32} {b0_3 : Nat} {n_b0_3 : Nat} (k_b0 : kk K b0 = some (8, 0)) (g_b0_3 : gr x b0 3 = some b0_3) (k_b0_3 : kk K b0_3 = some (20, n_b0_3)) (K0 : vp_in 2 n_b0_3 ∧ (((gi x b0_3 2) ≤ l7 → (Q l6 x)) ∧ (¬ (gi x b0_3 2) ≤ l7 → ((l7 = l5 → (GI mX8_loadBut 6 [some (.ref b0), some (.int l1), some (.int l2), some (.int l3), some (.int l4), some (.int l5), some (.int l6), some (.int (l7 + 1))] [] K x Q)) ∧ (¬ l7 = l5 → ((l24 l7 n_b0_3) ∧ ((¬ (so (gi x b0_3) (l7 : Int32).toNatClampNeg 1) = l2 → (GI mX8_loadBut 6 [some (.ref b0), some (.int l1), some (.int l2), some (.int l3), some (.int l4), some (.int l5), some (.int l6), some (.int (l7 + 1))] [] K x Q)) ∧ ((so (gi x b0_3) (l7 : Int32).toNatClampNeg 1) = l2 → ((¬ (so (gi x b0_3) (l7 : Int32).toNatClampNeg 2) = l3 → (GI mX8_loadBut 6 [some (.ref b0), some (.int l1), some (.int l2), some (.int l3), some (.int l4), some (.int l5), some (.int l6), some (.int (l7 + 1))] [] K x Q)) ∧ ((so (gi x b0_3) (l7 : Int32).toNatClampNeg 2) = l3 → ((l4 ≤ 0 → ((¬ (f_has (bas (gi x b0_3) (l7 : Int32).toNatClampNeg) l1) → (GI mX8_loadBut 6 [some (.ref b0), some (.int l1), some (.int l2), some (.int l3), some (.int l4), some (.int l5), some (.int (l6 + 0)), some (.int (l7 + 1))] [] K x Q)) ∧ ((f_has (bas (gi x b0_3) (l7 : Int32).toNatClampNeg) l1) → (GI mX8_loadBut 6 [some (.ref b0), some (.int l1), some (.int l2), some (.int l3), some (.int l4), some (.int l5), some (.int (l6 + 1)), some (.int (l7 + 1))] [] K x Q)))) ∧ (¬ l4 ≤ 0 → (((so (gi x b0_3) (l7 : Int32).toNatClampNeg 3) = (l4 - 1) → ((¬ (f_has (bas (gi x b0_3) (l7 : Int32).toNatClampNeg) l1) → (GI mX8_loadBut 6 [some (.ref b0), some (.int l1), some (.int l2), some (.int l3), some (.int l4), some (.int l5), some (.int (l6 + 0)), some (.int (l7 + 1))] [] K x Q)) ∧ ((f_has (bas (gi x b0_3) (l7 : Int32).toNatClampNeg) l1) → (GI mX8_loadBut 6 [some (.ref b0), some (.int l1), some (.int l2), some (.int l3), some (.int l4), some (.int l5), some (.int (l6 + 1)), some (.int (l7 + 1))] [] K x Q)))) ∧ (¬ (so (gi x b0_3) (l7 : Int32).toNatClampNeg 3) = (l4 - 1) → (GI mX8_loadBut 6 [some (.ref b0), some (.int l1), some (.int l2), some (.int l3), some (.int l4), some (.int l5), some (.int l6), some (.int (l7 + 1))] [] K x Q))))))))))))))) : GI mX8_loadBut 6 [some (.ref b0), some (.int l1), some (.int l2), some (.int l3), some (.int l4), some (.int l5), some (.int l6), some (.int l7)] [] K x Q := by
  show mGM mX8_loadBut 6 [some (.ref b0), some (.int l1), some (.int l2), some (.int l3), some (.int l4), some (.int l5), some (.int l6), some (.int l7)] [] (hp K x) (PI K Q)
  refine r_iload (pc := 6) dX8_loadBut_6 rfl ?_
  refine r_aload_n (pc := 8) dX8_loadBut_8 rfl ?_
  refine s_getR (pc := 9) dX8_loadBut_9 fl_X8_16 rfl k_b0 g_b0_3 ?_
  refine r_iconst (pc := 12) (v := 2) dX8_loadBut_12 (by decide) ?_
  obtain ⟨i_1, K0⟩ := K0
  refine s_iald (pc := 13) dX8_loadBut_13 k_b0_3 i_1 ?_
  refine r_icmp_ge (pc := 14) (tgt := 97) dX8_loadBut_14 (by decide) (fun q => ?_) (fun q => ?_)
  · have K0 := K0.1 q
    refine r_iload (pc := 97) dX8_loadBut_97 rfl ?_
    exact s_iret rfl dX8_loadBut_99 K0
  · have K0 := K0.2 q
    refine r_iload (pc := 17) dX8_loadBut_17 rfl ?_
    refine r_iload (pc := 19) dX8_loadBut_19 rfl ?_
    refine r_icmp_eq (pc := 21) (tgt := 91) dX8_loadBut_21 (by decide) (fun q => ?_) (fun q => ?_)
    · have K0 := K0.1 q
      refine r_iinc (pc := 91) (v := l7 + 1) dX8_loadBut_91 rfl rfl (by decide) ?_
      refine r_goto (pc := 94) (L := [some (.ref b0), some (.int l1), some (.int l2), some (.int l3), some (.int l4), some (.int l5), some (.int l6), some (.int (l7 + 1))]) (tgt := 6) dX8_loadBut_94 (by decide) ?_
      exact r_le (L' := [some (.ref b0), some (.int l1), some (.int l2), some (.int l3), some (.int l4), some (.int l5), some (.int l6), some (.int (l7 + 1))]) ⟨rfl, ⟨rfl, ⟨rfl, ⟨rfl, ⟨rfl, ⟨rfl, ⟨rfl, ⟨rfl, trivial⟩⟩⟩⟩⟩⟩⟩⟩ K0
    · have K0 := K0.2 q
      refine r_aload_n (pc := 24) dX8_loadBut_24 rfl ?_
      refine r_iload (pc := 25) dX8_loadBut_25 rfl ?_
      refine r_iconst (pc := 27) (v := 1) dX8_loadBut_27 (by decide) ?_
      obtain ⟨p_4, K0⟩ := K0
      refine s_VI (pc := 28) mX8_one (ci := 8) (a := b0) (As := [.int l7, .int 1]) dX8_loadBut_28 lk_X8_67 in_X8_one mo_X8_one ⟨by decide, rfl⟩ ⟨by decide, by decide⟩ (Nat.le_of_ble_eq_true rfl) k_b0 (sr_X8_one k_b0 g_b0_3 k_b0_3 p_4 ⟨by decide, by decide⟩ ?_)
      refine r_iload_n (pc := 31) dX8_loadBut_31 rfl ?_
      refine r_icmp_ne (pc := 32) (tgt := 91) dX8_loadBut_32 (by decide) (fun q => ?_) (fun q => ?_)
      · have K0 := K0.1 q
        refine r_iinc (pc := 91) (v := l7 + 1) dX8_loadBut_91 rfl rfl (by decide) ?_
        refine r_goto (pc := 94) (L := [some (.ref b0), some (.int l1), some (.int l2), some (.int l3), some (.int l4), some (.int l5), some (.int l6), some (.int (l7 + 1))]) (tgt := 6) dX8_loadBut_94 (by decide) ?_
        exact r_le (L' := [some (.ref b0), some (.int l1), some (.int l2), some (.int l3), some (.int l4), some (.int l5), some (.int l6), some (.int (l7 + 1))]) ⟨rfl, ⟨rfl, ⟨rfl, ⟨rfl, ⟨rfl, ⟨rfl, ⟨rfl, ⟨rfl, trivial⟩⟩⟩⟩⟩⟩⟩⟩ K0
      · have K0 := K0.2 q
        refine r_aload_n (pc := 35) dX8_loadBut_35 rfl ?_
        refine r_iload (pc := 36) dX8_loadBut_36 rfl ?_
        refine r_iconst (pc := 38) (v := 2) dX8_loadBut_38 (by decide) ?_
        refine s_VI (pc := 39) mX8_one (ci := 8) (a := b0) (As := [.int l7, .int 2]) dX8_loadBut_39 lk_X8_67 in_X8_one mo_X8_one ⟨by decide, rfl⟩ ⟨by decide, by decide⟩ (Nat.le_of_ble_eq_true rfl) k_b0 (sr_X8_one k_b0 g_b0_3 k_b0_3 p_4 ⟨by decide, by decide⟩ ?_)
        refine r_iload_n (pc := 42) dX8_loadBut_42 rfl ?_
        refine r_icmp_ne (pc := 43) (tgt := 91) dX8_loadBut_43 (by decide) (fun q => ?_) (fun q => ?_)
        · have K0 := K0.1 q
          refine r_iinc (pc := 91) (v := l7 + 1) dX8_loadBut_91 rfl rfl (by decide) ?_
          refine r_goto (pc := 94) (L := [some (.ref b0), some (.int l1), some (.int l2), some (.int l3), some (.int l4), some (.int l5), some (.int l6), some (.int (l7 + 1))]) (tgt := 6) dX8_loadBut_94 (by decide) ?_
          exact r_le (L' := [some (.ref b0), some (.int l1), some (.int l2), some (.int l3), some (.int l4), some (.int l5), some (.int l6), some (.int (l7 + 1))]) ⟨rfl, ⟨rfl, ⟨rfl, ⟨rfl, ⟨rfl, ⟨rfl, ⟨rfl, ⟨rfl, trivial⟩⟩⟩⟩⟩⟩⟩⟩ K0
        · have K0 := K0.2 q
          refine r_iload (pc := 46) dX8_loadBut_46 rfl ?_
          refine r_if_le (pc := 48) (tgt := 68) dX8_loadBut_48 (by decide) (fun q => ?_) (fun q => ?_)
          · have K0 := K0.1 q
            refine r_iload (pc := 68) dX8_loadBut_68 rfl ?_
            refine r_aload_n (pc := 70) dX8_loadBut_70 rfl ?_
            refine r_iload (pc := 71) dX8_loadBut_71 rfl ?_
            refine s_VI (pc := 73) mX8_basisOf (ci := 8) (a := b0) (As := [.int l7]) dX8_loadBut_73 lk_X8_71 in_X8_basisOf mo_X8_basisOf ⟨by decide, rfl⟩ ⟨by decide, by decide⟩ (Nat.le_of_ble_eq_true rfl) k_b0 (sr_X8_basisOf k_b0 g_b0_3 k_b0_3 p_4 ?_)
            refine r_iload_n (pc := 76) dX8_loadBut_76 rfl ?_
            refine s_SI (pc := 77) mX8_has (As := [.int (bas (gi x b0_3) (l7 : Int32).toNatClampNeg), .int l1]) dX8_loadBut_77 lk_X8_75 st_X8_has mo_X8_has ⟨by decide, by decide⟩ (Nat.le_of_ble_eq_true rfl) (sp_X8_has  ?_)
            refine r_if_eq (pc := 80) (tgt := 87) dX8_loadBut_80 (by decide) (fun q => ?_) (fun q => ?_)
            · have q := (b2i_z _).mp q
              have K0 := K0.1 q
              refine r_iconst (pc := 87) (v := 0) dX8_loadBut_87 (by decide) ?_
              refine r_iadd (pc := 88) dX8_loadBut_88 ?_
              refine r_istore (pc := 89) dX8_loadBut_89 (by decide) ?_
              refine r_iinc (pc := 91) (L := [some (.ref b0), some (.int l1), some (.int l2), some (.int l3), some (.int l4), some (.int l5), some (.int (l6 + 0)), some (.int l7)]) (v := l7 + 1) dX8_loadBut_91 rfl rfl (by decide) ?_
              refine r_goto (pc := 94) (L := [some (.ref b0), some (.int l1), some (.int l2), some (.int l3), some (.int l4), some (.int l5), some (.int (l6 + 0)), some (.int (l7 + 1))]) (tgt := 6) dX8_loadBut_94 (by decide) ?_
              exact r_le (L' := [some (.ref b0), some (.int l1), some (.int l2), some (.int l3), some (.int l4), some (.int l5), some (.int (l6 + 0)), some (.int (l7 + 1))]) ⟨rfl, ⟨rfl, ⟨rfl, ⟨rfl, ⟨rfl, ⟨rfl, ⟨rfl, ⟨rfl, trivial⟩⟩⟩⟩⟩⟩⟩⟩ K0
            · have q := b2i_nz q
              have K0 := K0.2 q
              refine r_iconst (pc := 83) (v := 1) dX8_loadBut_83 (by decide) ?_
              refine r_goto (pc := 84) (tgt := 88) dX8_loadBut_84 (by decide) ?_
              refine r_iadd (pc := 88) dX8_loadBut_88 ?_
              refine r_istore (pc := 89) dX8_loadBut_89 (by decide) ?_
              refine r_iinc (pc := 91) (L := [some (.ref b0), some (.int l1), some (.int l2), some (.int l3), some (.int l4), some (.int l5), some (.int (l6 + 1)), some (.int l7)]) (v := l7 + 1) dX8_loadBut_91 rfl rfl (by decide) ?_
              refine r_goto (pc := 94) (L := [some (.ref b0), some (.int l1), some (.int l2), some (.int l3), some (.int l4), some (.int l5), some (.int (l6 + 1)), some (.int (l7 + 1))]) (tgt := 6) dX8_loadBut_94 (by decide) ?_
              exact r_le (L' := [some (.ref b0), some (.int l1), some (.int l2), some (.int l3), some (.int l4), some (.int l5), some (.int (l6 + 1)), some (.int (l7 + 1))]) ⟨rfl, ⟨rfl, ⟨rfl, ⟨rfl, ⟨rfl, ⟨rfl, ⟨rfl, ⟨rfl, trivial⟩⟩⟩⟩⟩⟩⟩⟩ K0
          · have K0 := K0.2 q
            refine r_aload_n (pc := 51) dX8_loadBut_51 rfl ?_
            refine r_iload (pc := 52) dX8_loadBut_52 rfl ?_
            refine r_iconst (pc := 54) (v := 3) dX8_loadBut_54 (by decide) ?_
            refine s_VI (pc := 55) mX8_one (ci := 8) (a := b0) (As := [.int l7, .int 3]) dX8_loadBut_55 lk_X8_67 in_X8_one mo_X8_one ⟨by decide, rfl⟩ ⟨by decide, by decide⟩ (Nat.le_of_ble_eq_true rfl) k_b0 (sr_X8_one k_b0 g_b0_3 k_b0_3 p_4 ⟨by decide, by decide⟩ ?_)
            refine r_iload (pc := 58) dX8_loadBut_58 rfl ?_
            refine r_iconst (pc := 60) (v := 1) dX8_loadBut_60 (by decide) ?_
            refine r_isub (pc := 61) dX8_loadBut_61 ?_
            refine r_icmp_eq (pc := 62) (tgt := 68) dX8_loadBut_62 (by decide) (fun q => ?_) (fun q => ?_)
            · have K0 := K0.1 q
              refine r_iload (pc := 68) dX8_loadBut_68 rfl ?_
              refine r_aload_n (pc := 70) dX8_loadBut_70 rfl ?_
              refine r_iload (pc := 71) dX8_loadBut_71 rfl ?_
              refine s_VI (pc := 73) mX8_basisOf (ci := 8) (a := b0) (As := [.int l7]) dX8_loadBut_73 lk_X8_71 in_X8_basisOf mo_X8_basisOf ⟨by decide, rfl⟩ ⟨by decide, by decide⟩ (Nat.le_of_ble_eq_true rfl) k_b0 (sr_X8_basisOf k_b0 g_b0_3 k_b0_3 p_4 ?_)
              refine r_iload_n (pc := 76) dX8_loadBut_76 rfl ?_
              refine s_SI (pc := 77) mX8_has (As := [.int (bas (gi x b0_3) (l7 : Int32).toNatClampNeg), .int l1]) dX8_loadBut_77 lk_X8_75 st_X8_has mo_X8_has ⟨by decide, by decide⟩ (Nat.le_of_ble_eq_true rfl) (sp_X8_has  ?_)
              refine r_if_eq (pc := 80) (tgt := 87) dX8_loadBut_80 (by decide) (fun q => ?_) (fun q => ?_)
              · have q := (b2i_z _).mp q
                have K0 := K0.1 q
                refine r_iconst (pc := 87) (v := 0) dX8_loadBut_87 (by decide) ?_
                refine r_iadd (pc := 88) dX8_loadBut_88 ?_
                refine r_istore (pc := 89) dX8_loadBut_89 (by decide) ?_
                refine r_iinc (pc := 91) (L := [some (.ref b0), some (.int l1), some (.int l2), some (.int l3), some (.int l4), some (.int l5), some (.int (l6 + 0)), some (.int l7)]) (v := l7 + 1) dX8_loadBut_91 rfl rfl (by decide) ?_
                refine r_goto (pc := 94) (L := [some (.ref b0), some (.int l1), some (.int l2), some (.int l3), some (.int l4), some (.int l5), some (.int (l6 + 0)), some (.int (l7 + 1))]) (tgt := 6) dX8_loadBut_94 (by decide) ?_
                exact r_le (L' := [some (.ref b0), some (.int l1), some (.int l2), some (.int l3), some (.int l4), some (.int l5), some (.int (l6 + 0)), some (.int (l7 + 1))]) ⟨rfl, ⟨rfl, ⟨rfl, ⟨rfl, ⟨rfl, ⟨rfl, ⟨rfl, ⟨rfl, trivial⟩⟩⟩⟩⟩⟩⟩⟩ K0
              · have q := b2i_nz q
                have K0 := K0.2 q
                refine r_iconst (pc := 83) (v := 1) dX8_loadBut_83 (by decide) ?_
                refine r_goto (pc := 84) (tgt := 88) dX8_loadBut_84 (by decide) ?_
                refine r_iadd (pc := 88) dX8_loadBut_88 ?_
                refine r_istore (pc := 89) dX8_loadBut_89 (by decide) ?_
                refine r_iinc (pc := 91) (L := [some (.ref b0), some (.int l1), some (.int l2), some (.int l3), some (.int l4), some (.int l5), some (.int (l6 + 1)), some (.int l7)]) (v := l7 + 1) dX8_loadBut_91 rfl rfl (by decide) ?_
                refine r_goto (pc := 94) (L := [some (.ref b0), some (.int l1), some (.int l2), some (.int l3), some (.int l4), some (.int l5), some (.int (l6 + 1)), some (.int (l7 + 1))]) (tgt := 6) dX8_loadBut_94 (by decide) ?_
                exact r_le (L' := [some (.ref b0), some (.int l1), some (.int l2), some (.int l3), some (.int l4), some (.int l5), some (.int (l6 + 1)), some (.int (l7 + 1))]) ⟨rfl, ⟨rfl, ⟨rfl, ⟨rfl, ⟨rfl, ⟨rfl, ⟨rfl, ⟨rfl, trivial⟩⟩⟩⟩⟩⟩⟩⟩ K0
            · have K0 := K0.2 q
              refine r_goto (pc := 65) (tgt := 91) dX8_loadBut_65 (by decide) ?_
              refine r_iinc (pc := 91) (v := l7 + 1) dX8_loadBut_91 rfl rfl (by decide) ?_
              refine r_goto (pc := 94) (L := [some (.ref b0), some (.int l1), some (.int l2), some (.int l3), some (.int l4), some (.int l5), some (.int l6), some (.int (l7 + 1))]) (tgt := 6) dX8_loadBut_94 (by decide) ?_
              exact r_le (L' := [some (.ref b0), some (.int l1), some (.int l2), some (.int l3), some (.int l4), some (.int l5), some (.int l6), some (.int (l7 + 1))]) ⟨rfl, ⟨rfl, ⟨rfl, ⟨rfl, ⟨rfl, ⟨rfl, ⟨rfl, ⟨rfl, trivial⟩⟩⟩⟩⟩⟩⟩⟩ K0
section
variable {x : Cn} {Q : Int32 → Cn → Prop} {q : Nat} {T : TT} {W C S A N : Nat}
theorem lp_X8_loadBut {t : Nat} (M : MRf x t) (ht : kk KW t = some (20, 518)) (hS : gi x t 2 = nI S) (h24 : S ≤ 24) {w : Nat} {d h kd b : Int32} (hw : w < 32) (k : Q (ldB (gi x t) S w d h kd b) x) : ∀ (n s : Nat) (acc : Int32), s + n = S → acc = ldB (gi x t) s w d h kd b → GI mX8_loadBut 6 [some (.ref 717), some (.int (nI w)), some (.int d), some (.int h), some (.int kd), some (.int b), some (.int acc), some (.int (nI s))] [] KW x Q := by
  intro n
  induction n with
  | zero =>
    intro s acc hs ha
    refine v_X8_loadBut_6 km M.2.2.1 ht ⟨iv0 2 518 (by decide) (by decide) (by decide), fun _ => ?_, fun z => ?_⟩
    · rw [ha, show s = S by omega]
      exact k
    · exact absurd (by rw [hS]; exact nI_le (by omega) (by omega)) z
  | succ n ih =>
    intro s acc hs ha
    have next0 : ¬ cB (gi x t) s w d h kd b → GI mX8_loadBut 6 [some (.ref 717), some (.int (nI w)), some (.int d), some (.int h), some (.int kd), some (.int b), some (.int acc), some (.int (nI s + 1))] [] KW x Q := by
      intro z
      rw [nI_1]
      refine ih (s + 1) acc (by omega) ?_
      rw [ldB_f z]
      exact ha
    have next1 : cB (gi x t) s w d h kd b → GI mX8_loadBut 6 [some (.ref 717), some (.int (nI w)), some (.int d), some (.int h), some (.int kd), some (.int b), some (.int (acc + 1)), some (.int (nI s + 1))] [] KW x Q := by
      intro z
      rw [nI_1]
      refine ih (s + 1) (acc + 1) (by omega) ?_
      rw [ldB_t z, ha]
    refine v_X8_loadBut_6 km M.2.2.1 ht ⟨iv0 2 518 (by decide) (by decide) (by decide), fun z => ?_, fun _ => ?_⟩
    · rw [hS] at z
      exact absurd z (nI_ge (by omega) (by omega))
    · rw [nI_clamp (show s < 2 ^ 31 by omega), f_has_tb _ hw, Int32.add_zero]
      refine ⟨fun z => next0 (fun g => g.1 z), fun z1 => ⟨l24_nI (by omega) rfl, fun z => next0 (fun g => z g.2.1), fun z2 => ⟨fun z => next0 (fun g => z g.2.2.1), fun z3 => ⟨fun z4 => ⟨fun z => next0 (fun g => z g.2.2.2.2), fun z => next1 ⟨z1, z2, z3, Or.inl z4, z⟩⟩, fun z4 => ⟨fun z5 => ⟨fun z => next0 (fun g => z g.2.2.2.2), fun z => next1 ⟨z1, z2, z3, Or.inr z5, z⟩⟩, fun z5 => next0 (fun g => g.2.2.2.1.elim z4 z5)⟩⟩⟩⟩⟩
theorem sp_X8_loadBut {t : Nat} (M : MRf x t) (ht : kk KW t = some (20, 518)) (hS : gi x t 2 = nI S) (h24 : S ≤ 24) {w : Nat} {d h kd b : Int32} (hw : w < 32) (k : Q (ldB (gi x t) S w d h kd b) x) : mSI mX8_loadBut [.ref 717, .int (nI w), .int d, .int h, .int kd, .int b] KW x Q := v_X8_loadBut_0 (lp_X8_loadBut M ht hS h24 hw k S 0 0 (by omega) rfl)
end
end
/-! 26.alloc.lean.txt -/
section
/-! making cells -/
def nw (h : HP) (q : Nat × Nat) : HP := (h.1 + 1, fun a => if a = h.1 then q else h.2.1 a, fun a k => if a = h.1 then 0 else h.2.2.1 a k, fun a k => if a = h.1 then none else h.2.2.2 a k)
def WFh (h : HP) : Prop := ∀ a k b, rR h a k = some b → b < h.1
def adN {α : Type} (ad : Nat → α) (n : Nat) (q : α) : Nat → α := fun a => if a = n then q else ad a
theorem adN_s {α : Type} (ad : Nat → α) (n : Nat) (q : α) : adN ad n q n = q := if_pos rfl
theorem adN_n {α : Type} (ad : Nat → α) {n a : Nat} (q : α) (h : a ≠ n) : adN ad n q a = ad a := if_neg h
theorem kd_nw (h : HP) (q : Nat × Nat) : kd (nw h q) h.1 = some q := by
  unfold kd
  rw [if_pos (show h.1 < (nw h q).1 from Nat.lt_succ_self _)]
  exact congrArg some (if_pos rfl)
def FF : MP := fun _ _ => False
theorem mEnt_nw {ad ad' : Nat → Nat} {ca ca' : Nat → ClassId} {h : HP} {q : Nat × Nat} {a : Nat} (hw : WFh h) (ha : a < h.1) (e : ∀ a, a ≠ h.1 → ad' a = ad a) (ec : ca' a = ca a) : mEnt ad' ca' (nw h q) a = mEnt ad ca h a := by
  have hne : ¬ a = h.1 := by omega
  have e1 : (nw h q).2.1 a = h.2.1 a := if_neg hne
  have e2 : rI (nw h q) a = rI h a := by funext k; exact if_neg hne
  have e3 : ∀ k, (rR (nw h q) a k).map ad' = (rR h a k).map ad := by
    intro k
    have : rR (nw h q) a k = rR h a k := if_neg hne
    rw [this]
    cases hb : rR h a k with
    | none => rfl
    | some b =>
      have := hw a k b hb
      show some (ad' b) = some (ad b)
      rw [e b (by omega)]
  have e4 : ∀ ci, mfv ad' (nw h q) ci a = mfv ad h ci a := by
    intro ci
    funext k
    unfold mfv
    rw [e2, e3]
  unfold mEnt
  rw [e1, e2, e4, ec]
  congr 1
  congr 1
  congr 7
  funext k
  exact e3 k
theorem mWl_nw {ad ad' : Nat → Nat} {ca ca' : Nat → ClassId} {h : HP} {q : Nat × Nat} (hw : WFh h) (e : ∀ a, a ≠ h.1 → ad' a = ad a) (ec : ∀ a, a ≠ h.1 → ca' a = ca a) : mWl ad' ca' (nw h q) = mWl ad ca h ++ [(ad' h.1, mEnt ad' ca' (nw h q) h.1)] := by
  unfold mWl
  show (List.range (h.1 + 1)).map _ = _
  rw [List.range_succ, List.map_append]
  congr 1
  apply List.map_congr_left
  intro a ha
  have ha := List.mem_range.mp ha
  rw [e a (by omega), mEnt_nw hw ha e (ec a (by omega))]
theorem mcv_ad {ad ad' : Nat → Nat} {v : Value} (h : ∀ b, v = .ref b → ad' b = ad b) : mcv ad' v = mcv ad v := by
  cases v with
  | ref b => show Value.ref _ = Value.ref _; rw [h b rfl]
  | _ => rfl
theorem mLoc.ad {ad ad' : Nat → Nat} {nL : Nat} {L : List (Option Value)} {ls : Array Slot} (h : mLoc ad nL L ls) (e : ∀ b, some (.ref b) ∈ L → ad' b = ad b) : mLoc ad' nL L ls := by
  refine ⟨⟨h.1.1, h.1.2.1, fun q hq => ?_⟩, h.2⟩
  obtain ⟨v, hv, eq⟩ := mAsc_of hq
  obtain ⟨i, w⟩ := q
  subst eq
  rw [mcv_ad (fun b hb => e b (by subst hb; exact List.mem_of_getElem? hv))]
  exact h.at hv
theorem mSt_ad {ad ad' : Nat → Nat} {st : List Value} (e : ∀ b, Value.ref b ∈ st → ad' b = ad b) : st.map (mcv ad') = st.map (mcv ad) := by
  apply List.map_congr_left
  intro v hv
  exact mcv_ad (fun b hb => e b (by subst hb; exact hv))
theorem mCx_ad {B : BT} {c c' : Nat × Nat} {ad ad' : Nat → Nat} {M : MR} {P : MP} (X : mCx B c ad M P) (hc : c'.1 ≤ B.2.2.2.1.cells ∧ c'.2 ≤ B.2.2.2.1.slots) (e : ∀ a, mSB ≤ a → ad' a = ad a) : mCx B c' ad' M FF := by
  obtain ⟨p, l, e0, R, s, m, args, below, meth, cd, Q, D, A⟩ := B
  obtain ⟨x1, x2, x3, x4, x5, x6, x7, ⟨x8, x9, x10, x11⟩, x12, x13, -⟩ := X
  exact ⟨x1, x2, x3, x4, x5, x6, x7, ⟨x8, x9, hc.1, hc.2⟩, x12.ad e, x13, fun _ _ _ _ _ _ z => absurd z (fun z => z)⟩
section MAL
variable {B : BT} {c : Nat × Nat} {ad : Nat → Nat} {M : MR} {P : MP} {pc : Nat} {L : List (Option Value)} {st : List Value} {h : HP}
theorem g_new {ci i : Nat} (X : mCx B c ad M P) (d : decode M.2.1 pc = .ok (.new i, 3)) (hl : Cond.classLink M.1.cls i (mCn ci) ∈ mTb) (hi : Cond.instantiable (mCn ci) (mNF ci) ∈ mTb) (hn : Cond.initialized (mCn ci) ∈ mTb) (hci : ci < 9) (hw : WFh h) (hsb : h.1 < mSB) (hL : ∀ b, some (.ref b) ∈ L → b ≠ h.1) (hS : ∀ b, Value.ref b ∈ st → b ≠ h.1) (hc : c.1 + 1 ≤ B.2.2.2.1.cells ∧ c.2 + mNF ci ≤ B.2.2.2.1.slots)
    (k : ∀ ad', (∀ a, a ≠ h.1 → ad' a = ad a) → mG B (c.1 + 1, c.2 + mNF ci) ad' M.2.2.1 (pc + 3) L (.ref h.1 :: st) (nw h (ci, 0))) : mG B c ad M.2.2.1 pc L st h := by
  obtain ⟨p, l, e0, R, s, m, args, below, meth, cd, Q, D, A⟩ := B
  intro H locs ls h1 h2 h3
  obtain ⟨x1, x2, x3, x4, x5, x6, x7, ⟨x8, x9, x10, x11⟩, x12, x13, -⟩ := X
  obtain ⟨ca, hP, hD, hT⟩ := h1
  have hfs : ∀ j, j < mNF ci → defaultValue (mTy ci j) = vp_V ((List.range (mNF ci)).map (mfv ad (nw h (ci, 0)) ci h.1)) j := by
    intro j hj
    have e1 : rI (nw h (ci, 0)) h.1 j = 0 := if_pos rfl
    have e2 : rR (nw h (ci, 0)) h.1 j = none := if_pos rfl
    unfold vp_V
    rw [List.getD_eq_getElem?_getD, mfs_at hj]
    show _ = mfv ad (nw h (ci, 0)) ci h.1 j
    unfold mfv
    rw [e1, e2]
    have hty : ∀ ci, ci < 9 → ∀ j, j < mNF ci → defaultValue (mTy ci j) = if mIs (mTy ci j) = true then .int 0 else va_rf none := by decide +kernel
    exact hty ci hci j hj
  refine va_new (cl := vwCl) (ci := ci) (fs := (List.range (mNF ci)).map (mfv ad (nw h (ci, 0)) ci h.1)) x1 x2 x5 (mIn hci) (mTy ci) (mTyOk hci) x4 (x5 _ hl) (x5 _ hi) (x5 _ hn) x6 hP hD h2 x7 (mCl_at hci) hfs hc.1 hc.2 d (fun q H1 q1 q2 q3 => ?_)
  have ead : ∀ a, a ≠ h.1 → (adN ad h.1 q) a = ad a := fun a ha => adN_n _ _ ha
  have k1 := k (adN ad h.1 q) ead
  have hent : mEnt (adN ad h.1 q) ca (nw h (ci, 0)) h.1 = .inr (ci, (List.range (mNF ci)).map (mfv ad (nw h (ci, 0)) ci h.1)) := by
    have hkd := kd_nw h (ci, 0)
    rw [mEnt_obj hkd hci]
    congr 3
    funext j
    unfold mfv
    rw [show rR (nw h (ci, 0)) h.1 j = none from if_pos rfl]
    rfl
  have hWl := mWl_nw (ad := ad) (ad' := adN ad h.1 q) (ca := ca) (ca' := ca) (q := (ci, 0)) hw ead (fun _ _ => rfl)
  rw [hent, adN_s] at hWl
  rw [← hWl] at q1 q2
  have := k1 H1 locs ls ⟨ca, q1, q2, fun a ha h9 => ?_⟩ q3 (h3.ad (fun b hb => ead b (hL b hb)))
  · rw [List.map_cons, mSt_ad (fun b hb => ead b (hS b hb)), show mcv (adN ad h.1 q) (.ref h.1) = .ref q by show Value.ref _ = _; rw [adN_s]] at this
    exact this
  · have ha : a < h.1 + 1 := ha
    by_cases hq : a = h.1
    · have : (nw h (ci, 0)).2.1 a = (ci, 0) := if_pos hq
      rw [this] at h9
      exact absurd h9 (by show ¬ 9 ≤ ci; omega)
    · have e9 : (nw h (ci, 0)).2.1 a = h.2.1 a := if_neg hq
      rw [e9] at h9 ⊢
      exact hT a (by omega) h9
theorem mRep_arr {D : va_G} {A : Nat → Prop} {s : State} {ca : Nat → ClassId} {H1 : Heap} {q cA kn N : Nat} {a0 : vp_A} (hw : WFh h) (hT : ∀ a, a < h.1 → 9 ≤ (h.2.1 a).1 → ArrOfT s (ca a) (mAty (h.2.1 a).1) ∧ va_RA s (ca a) (mAty (h.2.1 a).1)) (hk : ¬ kn < 9) (ha : (kn < 22 ∧ a0 = (N, .inl (fun _ => 0))) ∨ (¬ kn < 22 ∧ a0 = (N, .inr (.inr (.inr (.inr (fun _ => none))))))) (hA : ArrOfT s cA (mAty kn) ∧ va_RA s cA (mAty kn)) (q1 : va_P D vwCl (mWl ad ca h ++ [(q, .inl (cA, a0))]) H1) (q2 : va_D A (mWl ad ca h ++ [(q, .inl (cA, a0))])) : mRep D A s (adN ad h.1 q) (nw h (kn, N)) H1 := by
  have ead : ∀ a, a ≠ h.1 → (adN ad h.1 q) a = ad a := fun a ha => adN_n _ _ ha
  have hkd := kd_nw h (kn, N)
  have hWl := mWl_nw (ad := ad) (ad' := adN ad h.1 q) (ca := ca) (ca' := adN ca h.1 cA) (q := (kn, N)) hw ead (fun a ha => adN_n _ _ ha)
  have hent : mEnt (adN ad h.1 q) (adN ca h.1 cA) (nw h (kn, N)) h.1 = .inl (cA, a0) := by
    rcases ha with ⟨h22, rfl⟩ | ⟨h22, rfl⟩
    · rw [mEnt_int hkd hk h22, adN_s]
      congr 4
      funext k
      exact if_pos rfl
    · rw [mEnt_ref hkd h22, adN_s]
      congr 7
      funext k
      rw [show rR (nw h (kn, N)) h.1 k = none from if_pos rfl]
      rfl
  rw [hent, adN_s] at hWl
  refine ⟨adN ca h.1 cA, by rw [hWl]; exact q1, by rw [hWl]; exact q2, fun a ha h9 => ?_⟩
  have ha : a < h.1 + 1 := ha
  by_cases hq : a = h.1
  · have e9 : (nw h (kn, N)).2.1 a = (kn, N) := if_pos hq
    rw [e9, show adN ca h.1 cA a = cA from if_pos hq]
    exact hA
  · have e9 : (nw h (kn, N)).2.1 a = h.2.1 a := if_neg hq
    rw [e9] at h9 ⊢
    rw [show adN ca h.1 cA a = ca a from if_neg hq]
    exact hT a (by omega) h9
theorem va_K_last {D : va_G} {s : State} {cA : ClassId} {ty : FieldType} (hK : va_K D vwCl ([] ++ [(cA, ty)]) s) : ArrOfT s cA ty ∧ va_RA s cA ty := hK.2 0 (cA, ty) rfl
theorem g_newa {at9 : ArrayType} {kn N : Nat} {v : Int32} (X : mCx B c ad M P) (d : decode M.2.1 pc = .ok (.newarray at9, 2)) (hat : (at9 = .int ∧ kn = 20) ∨ (at9 = .byte ∧ kn = 21)) (hwd : Cond.arrayClass (newarray.typeOf at9) ∈ mTb) (hv : v = nI N) (hN : N ≤ 100000) (hw : WFh h) (hsb : h.1 < mSB) (hL : ∀ b, some (.ref b) ∈ L → b ≠ h.1) (hS : ∀ b, Value.ref b ∈ st → b ≠ h.1) (hc : c.1 + 1 ≤ B.2.2.2.1.cells ∧ c.2 + N ≤ B.2.2.2.1.slots)
    (k : ∀ ad', (∀ a, a ≠ h.1 → ad' a = ad a) → mG B (c.1 + 1, c.2 + N) ad' M.2.2.1 (pc + 2) L (.ref h.1 :: st) (nw h (kn, N))) : mG B c ad M.2.2.1 pc L (.int v :: st) h := by
  obtain ⟨p, l, e0, R, s, m, args, below, meth, cd, Q, D, A⟩ := B
  intro H locs ls h1 h2 h3
  obtain ⟨x1, x2, x3, x4, x5, x6, x7, ⟨x8, x9, x10, x11⟩, x12, x13, -⟩ := X
  obtain ⟨ca, hP, hD, hT⟩ := h1
  have ead : ∀ q, ∀ a, a ≠ h.1 → (adN ad h.1 q) a = ad a := fun q a ha => adN_n _ _ ha
  have fin : ∀ (q : Nat) (cA : ClassId) (H1 : Heap) (a0 : vp_A), a0 = (N, .inl (fun _ => 0)) → ¬ kn < 9 → kn < 22 → ArrOfT s cA (mAty kn) ∧ va_RA s cA (mAty kn) → va_P D vwCl (mWl ad ca h ++ [(q, .inl (cA, a0))]) H1 → va_D A (mWl ad ca h ++ [(q, .inl (cA, a0))]) → va_S A s.heap H1 locs → W p l e0 R s m args below meth cd H1 locs (c.1 + 1) (c.2 + N) Q (F0 m (pc + 2) ls (.ref q :: st.map (mcv ad))) := by
    intro q cA H1 a0 ea h9 h22 hA q1 q2 q3
    have := k (adN ad h.1 q) (ead q) H1 locs ls (mRep_arr hw hT h9 (Or.inl ⟨h22, ea⟩) hA q1 q2) q3 (h3.ad (fun b hb => ead q b (hL b hb)))
    rw [List.map_cons, mSt_ad (fun b hb => ead q b (hS b hb)), show mcv (adN ad h.1 q) (.ref h.1) = .ref q by show Value.ref _ = _; rw [adN_s]] at this
    exact this
  subst hv
  rcases hat with ⟨rfl, rfl⟩ | ⟨rfl, rfl⟩
  · exact va_newa (atype := .int) (ty := .int) (N' := N) (a0 := (N, .inl (fun _ => 0))) x1 x2 (x5 _ hwd) rfl x6 hP hD h2 x7 (fun cA => rfl) (nI_pos (by omega)) (nI_clamp (by omega)) (by show N * 4 ≤ _; omega) hc.1 hc.2 d (fun q cA H1 q0 q1 q2 q3 => fin q cA H1 _ rfl (by decide) (by decide) (va_K_last q0) q1 q2 q3)
  · exact va_newa (atype := .byte) (ty := .byte) (N' := N) (a0 := (N, .inl (fun _ => 0))) x1 x2 (x5 _ hwd) rfl x6 hP hD h2 x7 (fun cA => rfl) (nI_pos (by omega)) (nI_clamp (by omega)) (by show N * 1 ≤ _; omega) hc.1 hc.2 d (fun q cA H1 q0 q1 q2 q3 => fin q cA H1 _ rfl (by decide) (by decide) (va_K_last q0) q1 q2 q3)
theorem g_anew {C : String} {kn N i : Nat} {v : Int32} (X : mCx B c ad M P) (d : decode M.2.1 pc = .ok (.anewarray i, 3)) (hl : Cond.classLink M.1.cls i C ∈ mTb) (hC : (C = RX4 ∧ kn = 22) ∨ (C = RX5 ∧ kn = 23) ∨ (C = RX0 ∧ kn = 24)) (hv : v = nI N) (hN : N ≤ 100000) (hw : WFh h) (hsb : h.1 < mSB) (hL : ∀ b, some (.ref b) ∈ L → b ≠ h.1) (hS : ∀ b, Value.ref b ∈ st → b ≠ h.1) (hc : c.1 + 1 ≤ B.2.2.2.1.cells ∧ c.2 + N ≤ B.2.2.2.1.slots)
    (k : ∀ ad', (∀ a, a ≠ h.1 → ad' a = ad a) → mG B (c.1 + 1, c.2 + N) ad' M.2.2.1 (pc + 3) L (.ref h.1 :: st) (nw h (kn, N))) : mG B c ad M.2.2.1 pc L (.int v :: st) h := by
  obtain ⟨p, l, e0, R, s, m, args, below, meth, cd, Q, D, A⟩ := B
  intro H locs ls h1 h2 h3
  obtain ⟨x1, x2, x3, x4, x5, x6, x7, ⟨x8, x9, x10, x11⟩, x12, x13, -⟩ := X
  obtain ⟨ca, hP, hD, hT⟩ := h1
  have ead : ∀ q, ∀ a, a ≠ h.1 → (adN ad h.1 q) a = ad a := fun q a ha => adN_n _ _ ha
  have hao : va_AO C s := by
    rcases hC with ⟨rfl, -⟩ | ⟨rfl, -⟩ | ⟨rfl, -⟩
    · exact x12.2.2.2.2.1
    · exact x12.2.2.2.2.2.1
    · exact x12.2.2.2.2.2.2
  have hty : ¬ kn < 22 ∧ mAty kn = .object C := by
    rcases hC with ⟨rfl, rfl⟩ | ⟨rfl, rfl⟩ | ⟨rfl, rfl⟩ <;> exact ⟨by decide, rfl⟩
  subst hv
  refine va_newq (N' := N) x1 x2 x4 (x5 _ hl) hao x6 hP hD h2 x7 (nI_pos (by omega)) (nI_clamp (by omega)) (by omega) hc.1 hc.2 d (fun q cA H1 q0 q1 q2 q3 => ?_)
  have := k (adN ad h.1 q) (ead q) H1 locs ls (mRep_arr (N := N) hw hT (by omega) (Or.inr ⟨hty.1, rfl⟩) (by rw [hty.2]; exact va_K_last q0) q1 q2) q3 (h3.ad (fun b hb => ead q b (hL b hb)))
  rw [List.map_cons, mSt_ad (fun b hb => ead q b (hS b hb)), show mcv (adN ad h.1 q) (.ref h.1) = .ref q by show Value.ref _ = _; rw [adN_s]] at this
  exact this
theorem g_objInit {i a : Nat} (X : mCx B c ad M P) (d : decode M.2.1 pc = .ok (.invokespecial i, 3)) (hl : Cond.methodLink M.1.cls i objectInit ∈ mTb) (hi : Cond.instanceMethod objectInit ∈ mTb) (hcd : Cond.code objectInit ⟨#[0xb1]⟩ 1 none ∈ mTb) (hR : 1 ≤ M.2.2.2.2.1 ∧ 21 ≤ M.2.2.2.2.2) (hst : (st.map fun v => v.category).sum ≤ 8) (k : mG B c ad M.2.2.1 (pc + 3) L st h) : mG B c ad M.2.2.1 pc L (.ref a :: st) h := by
  obtain ⟨p, l, e0, R, s, m, args, below, meth, cd, Q, D, A⟩ := B
  intro H locs ls h1 h2 h3
  obtain ⟨x1, x2, x3, x4, x5, x6, x7, ⟨x8, x9, x10, x11⟩, x12, x13, -⟩ := X
  refine W.objInit x1 x2 x4 (x5 _ hl) (x5 _ hi) (x5 _ hcd) rfl (h3.1.1.trans x3.symm) (a := ad a) (rest := st.map (mcv ad)) rfl d (Nat.le_trans hR.1 x8) ?_ (k H locs ls h1 h2 h3)
  show 2 * 0 + _ + 12 ≤ R.locals
  rw [mCats]
  have : 21 ≤ R.locals := Nat.le_trans hR.2 x9
  omega
end MAL
end
/-! 27.make.lean.txt -/
section
/-! methods that make cells -/
def mQN (D : va_G) (ad : Nat → Nat) (h : HP) (sz : Nat) (P : HP → Prop) : Array Value → State → Outcome → State → Prop := fun _ st o t => (∃ (h' : HP) (ad' : Nat → Nat), o = .returned none ∧ P h' ∧ (∀ a, a < h.1 ∨ mSB ≤ a → ad' a = ad a) ∧ mRep D (mAH ad h sz) t ad' h' t.heap) ∧ va_F (mAH ad h sz) st t
def mRmN (N : MR) (mc ms : Nat) : Room := { frames := N.2.2.2.2.1, cells := mc, slots := ms, locals := N.2.2.2.2.2 }
def mSpN (N : MR) (a : List Value) (h : HP) (mc ms : Nat) (P : HP → Prop) : Prop := ∀ (l : Launch) (D : va_G) (ad : Nat → Nat) (sz : Nat), Met l N.1 (mWs N) (mRmN N mc ms) (va_Pc (a.map (mcv ad)) (mPH D ad h sz)) (mQN D ad h sz P) mc ms (mAH ad h sz)
theorem mSpN_mono {M : MR} {a : List Value} {h : HP} {mc ms : Nat} {P P' : HP → Prop} (k : mSpN M a h mc ms P) (hP : ∀ h', P h' → P' h') : mSpN M a h mc ms P' := by
  intro l D ad sz p e ha hc hk s m args below hf happ hpre hz
  obtain ⟨k2, o, h1, h2, h3, ⟨⟨h', ad', e1, e2, e3⟩, e4⟩, e5⟩ := k l D ad sz p e ha hc hk s m args below hf happ hpre hz
  exact ⟨k2, o, h1, h2, h3, ⟨⟨h', ad', e1, hP h' e2, e3⟩, e4⟩, e5⟩
/-- a method that makes none -/
theorem mSpN_0 {M : MR} {a : List Value} {h : HP} {P : HP → Prop} (k : mSp M a h (fun v h' => v = none ∧ P h')) : mSpN M a h 0 0 P := by
  intro l D ad sz p e ha hc hk s m args below hf happ hpre hz
  obtain ⟨k2, o, h1, h2, h3, ⟨⟨v, h', e1, ⟨rfl, e2⟩, e3⟩, e4⟩, e5⟩ := k l D ad sz p e ha hc hk s m args below hf happ hpre hz
  exact ⟨k2, o, h1, h2, h3, ⟨⟨h', ad, e1, e2, fun _ _ => rfl, e3⟩, e4⟩, e5⟩
theorem mSpN_of {M : MR} {a : List Value} {h : HP} {mc ms : Nat} {P : HP → Prop} (hp : plainName M.1.cls = true) (hcat : ∀ v ∈ a, v.category = 1) (hn : a.length ≤ M.2.2.1) (hret : M.2.2.2.1 = none)
    (k : ∀ (B : BT) (ad : Nat → Nat), mCx B (0, 0) ad M FF → B.2.2.2.1.cells = mc → B.2.2.2.1.slots = ms → (∀ (ad' : Nat → Nat) (h' : HP) (pc : Nat) (L : List (Option Value)), P h' → (∀ a, a < h.1 ∨ mSB ≤ a → ad' a = ad a) → decode M.2.1 pc = .ok (.return_, 1) → mG B (mc, ms) ad' M.2.2.1 pc L [] h') → mG B (0, 0) ad M.2.2.1 0 (mEnL a M.2.2.1) [] h) : mSpN M a h mc ms P := by
  intro l D ad sz
  obtain ⟨y, cc, nL, ret, fr, lo⟩ := M
  refine Met.ofW (cc := cc) (maxL := nL) (ret := ret) hp rfl ?_
  intro p e s m args below meth c s₁ B hml hv
  obtain ⟨rfl, hsz, hR, hK, hS⟩ := hv
  have hlocks := B.notSynchronized
  subst hsz
  have hts := atoms_spec (ws := mWs (y, cc, nL, ret, fr, lo)) B.pre
  rw [lg_entry_eq]
  refine k (p, l, e, (headSpec (mWs (y, cc, nL, ret, fr, lo)) (mRmN (y, cc, nL, ret, fr, lo) mc ms)).room, s, m, (a.map (mcv ad)).toArray, below, meth, c, MQ below (mQN D ad h s.heap.size P) (a.map (mcv ad)).toArray s mc ms (mAH ad h s.heap.size), D, mAH ad h s.heap.size) ad
    ⟨B.exec, B.bytes, hml, findClass_of_methodNamed B.named, fun w hw => hts w (List.mem_cons_of_mem _ hw), hK, fun q hq => Or.inr hq, ⟨Nat.le_refl _, Nat.le_refl _, Nat.zero_le _, Nat.zero_le _⟩, hS, (name_of_methodNamed B.named B.method).1, fun _ _ _ _ _ _ z => absurd z (fun z => z)⟩ rfl rfl ?_ s.heap [] _ (hR.self _) va_S.rf (mLoc_entry hcat hn)
  intro ad' h' pc L hP had hd H locs ls hR' hS' hl
  exact W.vret B.exec B.bytes (B.returns.trans hret) (fun t ht hW => ⟨⟨h', ad', rfl, hP, had, by rw [ht]; exact hR'.moved hW.alike⟩, hS'.F ht⟩) hS'.2.2 hd
section MCN
variable {p : Program} {l : Launch} {e : Env} {R : Room} {s : State} {m : MethodId} {args : Array Value} {below : List Frame} {meth : Method} {cd : Code} {H : Heap} {locs : List Loc} {cells slots : Nat} {Q : State → Prop}
theorem mContN {D : va_G} {A : Nat → Prop} {ad : Nat → Nat} {h : HP} {P' : HP → Prop} {mc ms : Nat} {av : Array Value} {pc : Nat} {ls : Array Slot} {st0 rest : List Value} (hr : va_Run p l e R s m args below meth cd H locs cells slots mc ms (F0 m pc ls st0) rest (mQN D ad h H.size P' av) (mAH ad h H.size)) (hS : va_S A s.heap H locs) (hA : ∀ q, mAH ad h H.size q → A q)
    (kk : ∀ (h' : HP) (ad' : Nat → Nat) (H1 : Heap) (locs1 : List Loc), P' h' → (∀ a, a < h.1 ∨ mSB ≤ a → ad' a = ad a) → mRep D A s ad' h' H1 → va_S A s.heap H1 locs1 → W p l e R s m args below meth cd H1 locs1 (cells + mc) (slots + ms) Q (F0 m (pc + 3) ls rest)) : W p l e R s m args below meth cd H locs cells slots Q (F0 m pc ls st0) := by
  intro T hT X
  obtain ⟨v, st₀, t, T', L, h0, X', hL, e1, e2, ⟨⟨h', ad', hv, hp, had, hb⟩, hz, hk⟩, st⟩ := hr T hT X
  cases hv
  rw [h0] at hz hk
  have hal : s.vm.Alike t.vm := by rw [← e2]; exact X'.warmed.alike
  obtain ⟨t2, a1, b1⟩ := kk h' ad' T'.heap (locs ++ L) hp had (by rw [e1]; exact (hb.moved hal.symm).weaken hA)
    ⟨Nat.le_trans hS.1 (by rw [e1]; exact hz), fun q h1 h2 => by rw [e1, hk q (Nat.lt_of_lt_of_le h1 hS.1) (fun z => h2 (hA q z))]; exact hS.2.1 q h1 h2, fun q hq => by
      rcases List.mem_append.mp hq with h | h
      · exact hS.2.2 q h
      · exact hA _ (hL q h)⟩ T' rfl X'
  exact ⟨t2, st t2 a1, b1⟩
end MCN
section MCI
variable {B : BT} {c : Nat × Nat} {ad : Nat → Nat} {M : MR} {P : MP} {pc : Nat} {L : List (Option Value)} {st : List Value} {h : HP}
theorem g_callI (N : MR) {idx a mc ms : Nat} (X : mCx B c ad M P) (d : decode M.2.1 pc = .ok (.invokespecial idx, 3)) (hl : Cond.methodLink M.1.cls idx N.1 ∈ mTb ∨ ∃ host, (M.1.cls, idx, N.1, host) ∈ mNst) (hi : Cond.instanceMethod N.1 ∈ mTb) (mo : mMo N 0) (hnm : N.1.name = "<init>") (hret : N.2.2.2.1 = none) (hR : N.2.2.2.2.1 + 1 ≤ M.2.2.2.2.1 ∧ 8 + (N.2.2.1 + 11) + N.2.2.2.2.2 ≤ M.2.2.2.2.2) (hst : (st.map fun v => v.category).sum ≤ 8) (hc : c.1 + mc ≤ B.2.2.2.1.cells ∧ c.2 + ms ≤ B.2.2.2.1.slots) (hL : ∀ b, some (.ref b) ∈ L → b < h.1 ∨ mSB ≤ b) (hS : ∀ b, Value.ref b ∈ st → b < h.1 ∨ mSB ≤ b)
    (k : mSpN N [.ref a] h mc ms (fun h' => ∀ ad', (∀ b, b < h.1 ∨ mSB ≤ b → ad' b = ad b) → mG B (c.1 + mc, c.2 + ms) ad' M.2.2.1 (pc + 3) L st h')) : mG B c ad M.2.2.1 pc L (.ref a :: st) h := by
  obtain ⟨p, l, e0, R, s, m, args, below, meth, cd, Q, D, A⟩ := B
  intro H locs ls h1 h2 h3
  obtain ⟨x1, x2, x3, x4, x5, x6, x7, ⟨x8, x9, x10, x11⟩, x12, x13, -⟩ := X
  obtain ⟨y, cc, nL, ret, fr, lo⟩ := N
  have hret : ret = none := hret
  subst hret
  have hA := h1.free h2 x7
  have hM := k l D ad H.size
  have hpre : PreS s H (va_Pc ([Value.ref a].map (mcv ad)) (mPH D ad h H.size)) (.ref (ad a) :: []) := ⟨mBlind, fun U hU hW => ⟨rfl, by rw [hU], by rw [hU]; exact (h1.weaken (fun _ _ => trivial)).moved hW.alike, va_K.moved hW.alike x6, x12.go h2 hA hU hW⟩⟩
  have fin : ∀ (h' : HP) (ad' : Nat → Nat) (H1 : Heap) (locs1 : List Loc), (∀ ad', (∀ b, b < h.1 ∨ mSB ≤ b → ad' b = ad b) → mG (p, l, e0, R, s, m, args, below, meth, cd, Q, D, A) (c.1 + mc, c.2 + ms) ad' M.2.2.1 (pc + 3) L st h') → (∀ a, a < h.1 ∨ mSB ≤ a → ad' a = ad a) → mRep D A s ad' h' H1 → va_S A s.heap H1 locs1 → W p l e0 R s m args below meth cd H1 locs1 (c.1 + mc) (c.2 + ms) Q (F0 m (pc + 3) ls (st.map (mcv ad))) := by
    intro h' ad' H1 locs1 q1 q2 q3 q4
    have := q1 ad' q2 H1 locs1 ls q3 q4 (h3.ad (fun b hb => q2 b (hL b hb)))
    rwa [mSt_ad (fun b hb => q2 b (hS b hb))] at this
  rcases hl with hl | ⟨host, hl⟩
  · have cw : CallB R s args M.1.cls idx y cc nL none (mWs (y, cc, nL, none, fr, lo)) (mRmN (y, cc, nL, none, fr, lo) mc ms) mc ms 0 ∧ y.name = "<init>" ∧ (Cond.instanceMethod y).before args s = true := ⟨callB_of 0 x5 (mGoodWs mo.2.1) rfl rfl rfl (x5 _ mo.1) (x5 _ hl) ⟨mo.2.2.1.1, mo.2.2.1.2, mo.2.2.2⟩ ⟨Nat.le_trans hR.1 x8, Nat.le_trans hR.2 x9⟩, hnm, x5 _ hi⟩
    exact mContN (rest := st.map (mcv ad)) (va_runI (As := []) (rm := mRmN (y, cc, nL, none, fr, lo) mc ms) ⟨x1, x2, x3, x4, x5⟩ hM cw hpre rfl rfl h3.1.1 rfl (lv_room (by rw [mCats]; exact hst)) d hc) h2 hA fin
  · have cw : va_CN R s args M.1.cls idx y host cc nL none (mWs (y, cc, nL, none, fr, lo)) (mRmN (y, cc, nL, none, fr, lo) mc ms) mc ms 0 ∧ y.name = "<init>" ∧ (Cond.instanceMethod y).before args s = true := ⟨va_cnB 0 x5 (mGoodWs mo.2.1) rfl rfl rfl (x12.2.1 (M.1.cls, idx, y, host) hl) (x5 _ mo.1) ⟨mo.2.2.1.1, mo.2.2.1.2, mo.2.2.2⟩ ⟨Nat.le_trans hR.1 x8, Nat.le_trans hR.2 x9⟩, hnm, x5 _ hi⟩
    exact mContN (rest := st.map (mcv ad)) (va_runIN (As := []) (rm := mRmN (y, cc, nL, none, fr, lo) mc ms) ⟨x1, x2, x3, x4, x5⟩ hM cw hpre rfl rfl h3.1.1 rfl (lv_room (by rw [mCats]; exact hst)) d hc) h2 hA fin
end MCI
end
/-! 28.strings.lean.txt -/
section
/-! String constants: length() and charAt(k) -/
section MST
variable {B : BT} {c : Nat × Nat} {ad : Nat → Nat} {M : MR} {P : MP} {pc : Nat} {L : List (Option Value)} {st : List Value} {h : HP}
theorem g_getsC {i : Nat} (X : mCx B c ad M P) (d : decode M.2.1 pc = .ok (.getstatic i, 3)) (F : Cond.fieldLink M.1.cls i "java/lang/String" "COMPACT_STRINGS" "Z" ∈ mTb) (k : mG B c ad M.2.2.1 (pc + 3) L (.int 1 :: st) h) : mG B c ad M.2.2.1 pc L st h := by
  obtain ⟨p, l, e0, R, s, m, args, below, meth, cd, Q, D, A⟩ := B
  exact fun H locs ls h1 h2 h3 => va_gets X.1 X.2.1 X.2.2.2.2.2.2.2.2.1.1 h2 X.2.2.2.1 (X.2.2.2.2.1 _ F) (fun _ q => q) d (k H locs ls h1 h2 h3)
theorem g_getsF {i : Nat} (X : mCx B c ad M P) (d : decode M.2.1 pc = .ok (.getstatic i, 3)) (F : Cond.fieldLink M.1.cls i mFm.1 mFm.2.1 mFm.2.2 ∈ mTb) (k1 : mG B c ad M.2.2.1 (pc + 3) L (.null :: st) h) (k2 : mG B c ad M.2.2.1 (pc + 3) L (.ref (mSB + 900) :: st) h) : mG B c ad M.2.2.1 pc L st h := by
  obtain ⟨p, l, e0, R, s, m, args, below, meth, cd, Q, D, A⟩ := B
  intro H locs ls h1 h2 h3
  rcases X.2.2.2.2.2.2.2.2.1.2.2.2.1 with z | z
  · exact va_gets X.1 X.2.1 z h2 X.2.2.2.1 (X.2.2.2.2.1 _ F) (fun _ q => q) d (k1 H locs ls h1 h2 h3)
  · exact va_gets X.1 X.2.1 z h2 X.2.2.2.1 (X.2.2.2.2.1 _ F) (fun _ q => q) d (k2 H locs ls h1 h2 h3)
theorem g_strV {i j : Nat} {q : String × Nat × String × List Int32} (X : mCx B c ad M P) (d : decode M.2.1 pc = .ok (.getfield i, 3)) (F : Cond.fieldLink M.1.cls i "java/lang/String" "value" "[B" ∈ mTb) (hj : mS[j]? = some q) (k : mG B c ad M.2.2.1 (pc + 3) L (.ref (mSB + 100 + j) :: st) h) : mG B c ad M.2.2.1 pc L (.ref (mSB + j) :: st) h := by
  obtain ⟨p, l, e0, R, s, m, args, below, meth, cd, Q, D, A⟩ := B
  exact fun H locs ls h1 h2 h3 => vk_getf X.1 X.2.1 (X.2.2.2.2.2.2.2.2.1.2.2.1 j q hj).2.2.2.1 h2 X.2.2.2.1 (X.2.2.2.2.1 _ F) (fun _ q => q) d (k H locs ls h1 h2 h3)
theorem g_strC {i j : Nat} {q : String × Nat × String × List Int32} (X : mCx B c ad M P) (d : decode M.2.1 pc = .ok (.getfield i, 3)) (F : Cond.fieldLink M.1.cls i "java/lang/String" "coder" "B" ∈ mTb) (hj : mS[j]? = some q) (k : mG B c ad M.2.2.1 (pc + 3) L (.int 0 :: st) h) : mG B c ad M.2.2.1 pc L (.ref (mSB + j) :: st) h := by
  obtain ⟨p, l, e0, R, s, m, args, below, meth, cd, Q, D, A⟩ := B
  exact fun H locs ls h1 h2 h3 => vk_getf X.1 X.2.1 (X.2.2.2.2.2.2.2.2.1.2.2.1 j q hj).2.2.1 h2 X.2.2.2.1 (X.2.2.2.2.1 _ F) (fun _ q => q) d (k H locs ls h1 h2 h3)
theorem g_slen {j : Nat} {q : String × Nat × String × List Int32} (X : mCx B c ad M P) (d : decode M.2.1 pc = .ok (.arraylength, 1)) (hj : mS[j]? = some q) (k : mG B c ad M.2.2.1 (pc + 1) L (.int (nI q.2.2.2.length) :: st) h) : mG B c ad M.2.2.1 pc L (.ref (mSB + 100 + j) :: st) h := by
  obtain ⟨p, l, e0, R, s, m, args, below, meth, cd, Q, D, A⟩ := B
  intro H locs ls h1 h2 h3
  obtain ⟨cell, c1, c2, c3, c4, c5, c6, c7⟩ := ((X.2.2.2.2.2.2.2.2.1.2.2.1 j q hj).2.2.2.2).kept h2.2.1
  exact W.alen (n := Int32.ofNat q.2.2.2.length) X.1 X.2.1 c1 c2 c5 rfl rfl d (k H locs ls h1 h2 h3)
theorem g_sald {j n : Nat} {q : String × Nat × String × List Int32} (X : mCx B c ad M P) (d : decode M.2.1 pc = .ok (.baload, 1)) (hj : mS[j]? = some q) (hn : n < q.2.2.2.length) (hl : q.2.2.2.length < 2 ^ 31) (k : mG B c ad M.2.2.1 (pc + 1) L (.int (q.2.2.2.getD n 0) :: st) h) : mG B c ad M.2.2.1 pc L (.int (nI n) :: .ref (mSB + 100 + j) :: st) h := by
  obtain ⟨p, l, e0, R, s, m, args, below, meth, cd, Q, D, A⟩ := B
  intro H locs ls h1 h2 h3
  obtain ⟨cell, c1, c2, c3, c4, c5, c6, c7⟩ := ((X.2.2.2.2.2.2.2.2.1.2.2.1 j q hj).2.2.2.2).kept h2.2.1
  have hc : (nI n).toNatClampNeg = n := nI_clamp (by omega)
  exact W.bald (v := .int (q.2.2.2.getD n 0)) X.1 X.2.1 c1 c2 c3 (by rw [hc]; intro z; exact z.elim (nI_pos (by omega)) (fun z => by omega)) (by rw [hc]; exact c6 n hn) rfl rfl d (k H locs ls h1 h2 h3)
theorem g_callVs (N : MR) {j idx : Nat} {q : String × Nat × String × List Int32} {As : List Value} (X : mCx B c ad M P) (d : decode M.2.1 pc = .ok (.invokevirtual idx, 3)) (hl : Cond.methodLink M.1.cls idx N.1 ∈ mTb) (hi : Cond.instanceMethod N.1 ∈ mTb ∧ Cond.selects N.1.cls N.1 N.1 ∈ mTb) (mo : mMo N As.length) (hj : mS[j]? = some q) (hci : N.1.cls = "java/lang/String") (hR : N.2.2.2.2.1 + 1 ≤ M.2.2.2.2.1 ∧ 8 + (N.2.2.1 + 11) + N.2.2.2.2.2 ≤ M.2.2.2.2.2) (hst : (st.map fun v => v.category).sum ≤ 8)
    (k : mSp N (.ref (mSB + j) :: As) h (fun v h' => mG B c ad M.2.2.1 (pc + 3) L (v.toList ++ st) h')) : mG B c ad M.2.2.1 pc L (As.reverse ++ .ref (mSB + j) :: st) h := by
  obtain ⟨p, l, e0, R, s, m, args, below, meth, cd, Q, D, A⟩ := B
  intro H locs ls h1 h2 h3
  obtain ⟨x1, x2, x3, x4, x5, x6, x7, ⟨x8, x9, x10, x11⟩, x12, x13, -⟩ := X
  have hA := h1.free h2 x7
  have hM := k l D ad H.size
  have cw : CallW R s args M.1.cls N.1.cls idx N.1 N.2.1 N.2.2.1 N.2.2.2.1 (mWs N) (mRm N) 0 0 As.length := ⟨callB_of As.length x5 (mGoodWs mo.2.1) rfl rfl rfl (x5 _ mo.1) (x5 _ hl) ⟨mo.2.2.1.1, mo.2.2.1.2, mo.2.2.2⟩ ⟨Nat.le_trans hR.1 x8, Nat.le_trans hR.2 x9⟩, x5 _ hi.1, x5 _ hi.2⟩
  obtain ⟨cell, c1, c2, c3, c4⟩ := ((x12.2.2.1 j q hj).2.1).kept h2.2.1
  have hrecv : ∃ cellB : Cell, H[ad (mSB + j)]? = some cellB ∧ cellB.vm.isStatics = false ∧ s.vm.findClass N.1.cls = some cellB.cls := ⟨cell, c1, c2, by rw [hci]; exact c3⟩
  refine mCont (rest := st.map (mcv ad)) (va_runV (As := As.map (mcv ad)) (rm := mRm N) ⟨x1, x2, x3, x4, x5⟩ hM cw ⟨mBlind, hrecv, fun U hU hW => ⟨rfl, by rw [hU], by rw [hU]; exact (h1.weaken (fun _ _ => trivial)).moved hW.alike, va_K.moved hW.alike x6, x12.go h2 hA hU hW⟩⟩ rfl (by simp) h3.1.1 (by show List.map _ _ = _; simp [mcv]) (lv_room (by rw [mCats]; exact hst)) d ⟨x10, x11⟩) h2 hA (fun v h' H1 locs1 q1 q2 q3 => ?_)
  have := q1 H1 locs1 ls q2 q3 h3
  rw [mStMap] at this
  exact this
theorem r_getsC {i : Nat} (d : decode M.2.1 pc = .ok (.getstatic i, 3)) (F : Cond.fieldLink M.1.cls i "java/lang/String" "COMPACT_STRINGS" "Z" ∈ mTb) (k : mGM M (pc + 3) L (.int 1 :: st) h P) : mGM M pc L st h P := fun B c ad X => g_getsC X d F (k B c ad X)
theorem r_getsF {i : Nat} (d : decode M.2.1 pc = .ok (.getstatic i, 3)) (F : Cond.fieldLink M.1.cls i mFm.1 mFm.2.1 mFm.2.2 ∈ mTb) (k1 : mGM M (pc + 3) L (.null :: st) h P) (k2 : mGM M (pc + 3) L (.ref (mSB + 900) :: st) h P) : mGM M pc L st h P := fun B c ad X => g_getsF X d F (k1 B c ad X) (k2 B c ad X)
theorem r_strV {i j : Nat} {q : String × Nat × String × List Int32} (d : decode M.2.1 pc = .ok (.getfield i, 3)) (F : Cond.fieldLink M.1.cls i "java/lang/String" "value" "[B" ∈ mTb) (hj : mS[j]? = some q) (k : mGM M (pc + 3) L (.ref (mSB + 100 + j) :: st) h P) : mGM M pc L (.ref (mSB + j) :: st) h P := fun B c ad X => g_strV X d F hj (k B c ad X)
theorem r_strC {i j : Nat} {q : String × Nat × String × List Int32} (d : decode M.2.1 pc = .ok (.getfield i, 3)) (F : Cond.fieldLink M.1.cls i "java/lang/String" "coder" "B" ∈ mTb) (hj : mS[j]? = some q) (k : mGM M (pc + 3) L (.int 0 :: st) h P) : mGM M pc L (.ref (mSB + j) :: st) h P := fun B c ad X => g_strC X d F hj (k B c ad X)
theorem r_slen {j : Nat} {q : String × Nat × String × List Int32} (d : decode M.2.1 pc = .ok (.arraylength, 1)) (hj : mS[j]? = some q) (k : mGM M (pc + 1) L (.int (nI q.2.2.2.length) :: st) h P) : mGM M pc L (.ref (mSB + 100 + j) :: st) h P := fun B c ad X => g_slen X d hj (k B c ad X)
theorem r_sald {j n : Nat} {q : String × Nat × String × List Int32} (d : decode M.2.1 pc = .ok (.baload, 1)) (hj : mS[j]? = some q) (hn : n < q.2.2.2.length) (hl : q.2.2.2.length < 2 ^ 31) (k : mGM M (pc + 1) L (.int (q.2.2.2.getD n 0) :: st) h P) : mGM M pc L (.int (nI n) :: .ref (mSB + 100 + j) :: st) h P := fun B c ad X => g_sald X d hj hn hl (k B c ad X)
end MST
section MSU
variable {M : MR} {P : MP} {pc : Nat} {L : List (Option Value)} {st : List Value} {K : Sh} {x : Cn} {Q : Int32 → Cn → Prop} {j : Nat} {q : String × Nat × String × List Int32}
theorem s_VIs (N : MR) {idx : Nat} {As : List Value} (d : decode M.2.1 pc = .ok (.invokevirtual idx, 3)) (hl : Cond.methodLink M.1.cls idx N.1 ∈ mTb) (hi : Cond.instanceMethod N.1 ∈ mTb ∧ Cond.selects N.1.cls N.1 N.1 ∈ mTb) (mo : mMo N As.length) (hj : mS[j]? = some q) (hci : N.1.cls = "java/lang/String") (hR : N.2.2.2.2.1 + 1 ≤ M.2.2.2.2.1 ∧ 8 + (N.2.2.1 + 11) + N.2.2.2.2.2 ≤ M.2.2.2.2.2) (hst : (st.map fun v => v.category).sum ≤ 8)
    (k : mSI N (.ref (mSB + j) :: As) K x (fun r y => mGM M (pc + 3) L (.int r :: st) (hp K y) P)) : mGM M pc L (As.reverse ++ .ref (mSB + j) :: st) (hp K x) P := fun B c ad X => g_callVs N X d hl hi mo hj hci hR hst (mSp_mono k (by rintro _ _ ⟨r, y, rfl, rfl, z⟩; exact z B c ad X))
theorem sw_38 : Cond.fieldLink RJ0 38 "java/lang/String" "COMPACT_STRINGS" "Z" ∈ mTb := mTb_2 183 rfl rfl
theorem sw_9 : Cond.fieldLink RJ0 9 "java/lang/String" "value" "[B" ∈ mTb := mTb_8 153 rfl rfl
theorem sw_15 : Cond.fieldLink RJ0 15 "java/lang/String" "coder" "B" ∈ mTb := mTb_8 154 rfl rfl
theorem sw_1053 : Cond.fieldLink RJ0 1053 mFm.1 mFm.2.1 mFm.2.2 ∈ mTb := mTb_2 199 rfl rfl
theorem mS_ok : ∀ q ∈ mS, q.2.2.2.length < 200 ∧ ∀ b ∈ q.2.2.2, ((b &&& 255).toUInt32 % 65536).toInt32 = b ∧ 0 ≤ b ∧ b ≤ 127 := by decide +kernel
theorem sp_coder (hj : mS[j]? = some q) (k : Q 0 x) : mSI mJ0_coder_7d493 [.ref (mSB + j)] K x Q := by
  refine s_I (by decide) (by simp [Value.category]) (Nat.le_of_ble_eq_true rfl) ?_
  show mGM mJ0_coder_7d493 0 [some (.ref (mSB + j))] [] (hp K x) (PI K Q)
  refine r_getsC (pc := 0) dJ0_coder_7d493_0 sw_38 ?_
  refine r_if_eq (pc := 3) (tgt := 13) dJ0_coder_7d493_3 (by decide) (fun z => absurd z (by decide)) (fun _ => ?_)
  refine r_aload_n (pc := 6) dJ0_coder_7d493_6 rfl ?_
  refine r_strC (pc := 7) dJ0_coder_7d493_7 sw_15 hj ?_
  refine r_goto (pc := 10) (tgt := 14) dJ0_coder_7d493_10 (by decide) ?_
  exact s_nret (ty := .byte) rfl rfl dJ0_coder_7d493_14 k
theorem sp_isLatin1 (hj : mS[j]? = some q) (k : Q 1 x) : mSI mJ0_isLatin1_aae02 [.ref (mSB + j)] K x Q := by
  refine s_I (by decide) (by simp [Value.category]) (Nat.le_of_ble_eq_true rfl) ?_
  show mGM mJ0_isLatin1_aae02 0 [some (.ref (mSB + j))] [] (hp K x) (PI K Q)
  refine r_getsC (pc := 0) dJ0_isLatin1_aae02_0 sw_38 ?_
  refine r_if_eq (pc := 3) (tgt := 17) dJ0_isLatin1_aae02_3 (by decide) (fun z => absurd z (by decide)) (fun _ => ?_)
  refine r_aload_n (pc := 6) dJ0_isLatin1_aae02_6 rfl ?_
  refine r_strC (pc := 7) dJ0_isLatin1_aae02_7 sw_15 hj ?_
  refine r_if_ne (pc := 10) (tgt := 17) dJ0_isLatin1_aae02_10 (by decide) (fun z => absurd rfl z) (fun _ => ?_)
  refine r_iconst (pc := 13) (v := 1) dJ0_isLatin1_aae02_13 (by decide) ?_
  refine r_goto (pc := 14) (tgt := 18) dJ0_isLatin1_aae02_14 (by decide) ?_
  exact s_zret rfl (by decide) dJ0_isLatin1_aae02_18 k
theorem sp_len (hj : mS[j]? = some q) (k : Q (nI q.2.2.2.length) x) : mSI mJ0_length_8abf5 [.ref (mSB + j)] K x Q := by
  have hq := (mS_ok q (List.mem_of_getElem? hj)).1
  refine s_I (by decide) (by simp [Value.category]) (Nat.le_of_ble_eq_true rfl) ?_
  show mGM mJ0_length_8abf5 0 [some (.ref (mSB + j))] [] (hp K x) (PI K Q)
  refine r_aload_n (pc := 0) dJ0_length_8abf5_0 rfl ?_
  refine r_strV (pc := 1) dJ0_length_8abf5_1 sw_9 hj ?_
  refine r_slen (pc := 4) dJ0_length_8abf5_4 hj ?_
  refine r_aload_n (pc := 5) dJ0_length_8abf5_5 rfl ?_
  refine s_VIs (pc := 6) mJ0_coder_7d493 (As := []) dJ0_length_8abf5_6 lk_J0_335 in_J0_coder_7d493 mo_J0_coder_7d493 hj rfl ⟨by decide, by decide⟩ (Nat.le_of_ble_eq_true rfl) (sp_coder hj ?_)
  refine r_ishr (pc := 9) dJ0_length_8abf5_9 ?_
  rw [pk_shrN (n := q.2.2.2.length) (by omega) ((0 : Int32) &&& 31) 0 (by decide)]
  refine s_iret rfl dJ0_length_8abf5_10 ?_
  rw [Nat.pow_zero, Nat.div_one]
  exact k
theorem sp_J3_check {a b : Int32} {v : Value} (hv : v.category = 1) (h1 : ¬ a < 0) (h2 : a < b) (k : Q a x) : mSI mJ3_checkIndex_8e157 [.int a, .int b, v] K x Q := by
  refine s_I (by decide) (by simp [Value.category]; cases v <;> simp_all [Value.category]) (Nat.le_of_ble_eq_true rfl) ?_
  show mGM mJ3_checkIndex_8e157 0 [some (.int a), some (.int b), some v] [] (hp K x) (PI K Q)
  refine r_iload_n (pc := 0) dJ3_checkIndex_8e157_0 rfl ?_
  refine r_if_lt (pc := 1) (tgt := 9) dJ3_checkIndex_8e157_1 (by decide) (fun z => absurd z h1) (fun _ => ?_)
  refine r_iload_n (pc := 4) dJ3_checkIndex_8e157_4 rfl ?_
  refine r_iload_n (pc := 5) dJ3_checkIndex_8e157_5 rfl ?_
  refine r_icmp_lt (pc := 6) (tgt := 16) dJ3_checkIndex_8e157_6 (by decide) (fun _ => ?_) (fun z => absurd h2 z)
  refine r_iload_n (pc := 16) dJ3_checkIndex_8e157_16 rfl ?_
  exact s_iret rfl dJ3_checkIndex_8e157_17 k
theorem sp_J0_check {Q : Cn → Prop} {a b : Int32} (h1 : ¬ a < 0) (h2 : a < b) (k : Q x) : mSV mJ0_checkIndex_df160 [.int a, .int b] K x Q := by
  refine s_V (by decide) (by simp [Value.category]) (Nat.le_of_ble_eq_true rfl) ?_
  show mGM mJ0_checkIndex_df160 0 [some (.int a), some (.int b)] [] (hp K x) (PV K Q)
  refine r_iload_n (pc := 0) dJ0_checkIndex_df160_0 rfl ?_
  refine r_iload_n (pc := 1) dJ0_checkIndex_df160_1 rfl ?_
  have fin : ∀ v : Value, v.category = 1 → mGM mJ0_checkIndex_df160 5 [some (.int a), some (.int b)] [v, .int b, .int a] (hp K x) (PV K Q) := by
    intro v hv
    refine s_SI (pc := 5) mJ3_checkIndex_8e157 (As := [.int a, .int b, v]) dJ0_checkIndex_df160_5 lk_J0_1059 st_J3_checkIndex_8e157 mo_J3_checkIndex_8e157 ⟨by decide, by decide⟩ (Nat.le_of_ble_eq_true rfl) (sp_J3_check hv h1 h2 ?_)
    refine r_pop (pc := 8) dJ0_checkIndex_df160_8 rfl ?_
    exact s_ret rfl dJ0_checkIndex_df160_9 k
  exact r_getsF (pc := 2) dJ0_checkIndex_df160_2 sw_1053 (fin .null rfl) (fin _ rfl)
theorem s_SV (N : MR) {idx : Nat} {As : List Value} (d : decode M.2.1 pc = .ok (.invokestatic idx, 3)) (hl : Cond.methodLink M.1.cls idx N.1 ∈ mTb) (hi : Cond.static N.1 ∈ mTb) (mo : mMo N As.length) (hR : N.2.2.2.2.1 + 1 ≤ M.2.2.2.2.1 ∧ 8 + (N.2.2.1 + 11) + N.2.2.2.2.2 ≤ M.2.2.2.2.2) (hst : (st.map fun v => v.category).sum ≤ 8)
    (k : mSV N As K x (fun y => mGM M (pc + 3) L st (hp K y) P)) : mGM M pc L (As.reverse ++ st) (hp K x) P := r_callS N d hl hi mo hR hst (mSp_mono k (by rintro _ _ ⟨y, rfl, rfl, z⟩; exact z))
theorem sp_J1_charAt {n : Nat} (hj : mS[j]? = some q) (hn : n < q.2.2.2.length) (k : Q (q.2.2.2.getD n 0) x) : mSI mJ1_charAt_3b067 [.ref (mSB + 100 + j), .int (nI n)] K x Q := by
  have hq := (mS_ok q (List.mem_of_getElem? hj)).1
  have hb := (mS_ok q (List.mem_of_getElem? hj)).2 (q.2.2.2.getD n 0) (by rw [List.getD_eq_getElem?_getD, List.getElem?_eq_getElem hn]; exact List.getElem_mem hn)
  refine s_I (by decide) (by simp [Value.category]) (Nat.le_of_ble_eq_true rfl) ?_
  show mGM mJ1_charAt_3b067 0 [some (.ref (mSB + 100 + j)), some (.int (nI n))] [] (hp K x) (PI K Q)
  refine r_iload_n (pc := 0) dJ1_charAt_3b067_0 rfl ?_
  refine r_aload_n (pc := 1) dJ1_charAt_3b067_1 rfl ?_
  refine r_slen (pc := 2) dJ1_charAt_3b067_2 hj ?_
  refine s_SV (pc := 3) mJ0_checkIndex_df160 (As := [.int (nI n), .int (nI q.2.2.2.length)]) dJ1_charAt_3b067_3 lk_J1_9 st_J0_checkIndex_df160 mo_J0_checkIndex_df160 ⟨by decide, by decide⟩ (Nat.le_of_ble_eq_true rfl) (sp_J0_check (nI_pos (by omega)) (nI_lt hn (by omega)) ?_)
  refine r_aload_n (pc := 6) dJ1_charAt_3b067_6 rfl ?_
  refine r_iload_n (pc := 7) dJ1_charAt_3b067_7 rfl ?_
  refine r_sald (pc := 8) dJ1_charAt_3b067_8 hj hn (by omega) ?_
  refine r_sipush (pc := 9) (v := 255) dJ1_charAt_3b067_9 (by decide) ?_
  refine r_iand (pc := 12) dJ1_charAt_3b067_12 ?_
  refine r_i2c (pc := 13) dJ1_charAt_3b067_13 ?_
  refine s_nret (ty := .char) rfl (pk_nc _) dJ1_charAt_3b067_14 ?_
  rw [hb.1]
  exact k
theorem sp_ch {n : Nat} (hj : mS[j]? = some q) (hn : n < q.2.2.2.length) (k : Q (q.2.2.2.getD n 0) x) : mSI mJ0_charAt_5068e [.ref (mSB + j), .int (nI n)] K x Q := by
  have hb := (mS_ok q (List.mem_of_getElem? hj)).2 (q.2.2.2.getD n 0) (by rw [List.getD_eq_getElem?_getD, List.getElem?_eq_getElem hn]; exact List.getElem_mem hn)
  refine s_I (by decide) (by simp [Value.category]) (Nat.le_of_ble_eq_true rfl) ?_
  show mGM mJ0_charAt_5068e 0 [some (.ref (mSB + j)), some (.int (nI n))] [] (hp K x) (PI K Q)
  refine r_aload_n (pc := 0) dJ0_charAt_5068e_0 rfl ?_
  refine s_VIs (pc := 1) mJ0_isLatin1_aae02 (As := []) dJ0_charAt_5068e_1 lk_J0_492 in_J0_isLatin1_aae02 mo_J0_isLatin1_aae02 hj rfl ⟨by decide, by decide⟩ (Nat.le_of_ble_eq_true rfl) (sp_isLatin1 hj ?_)
  refine r_if_eq (pc := 4) (tgt := 16) dJ0_charAt_5068e_4 (by decide) (fun z => absurd z (by decide)) (fun _ => ?_)
  refine r_aload_n (pc := 7) dJ0_charAt_5068e_7 rfl ?_
  refine r_strV (pc := 8) dJ0_charAt_5068e_8 sw_9 hj ?_
  refine r_iload_n (pc := 11) dJ0_charAt_5068e_11 rfl ?_
  refine s_SI (pc := 12) mJ1_charAt_3b067 (As := [.ref (mSB + 100 + j), .int (nI n)]) dJ0_charAt_5068e_12 lk_J0_495 st_J1_charAt_3b067 mo_J1_charAt_3b067 ⟨by decide, by decide⟩ (Nat.le_of_ble_eq_true rfl) (sp_J1_charAt hj hn ?_)
  refine s_nret (ty := .char) rfl ?_ dJ0_charAt_5068e_15 k
  have := pk_nc (q.2.2.2.getD n 0 &&& 255)
  rwa [hb.1] at this
end MSU
end
/-! 29.weeksLoaded.lean.txt -/
section
/-! weeks with so much load, all at once -/
def cnt (f : Nat → Bool) : Nat → Nat
  | 0 => 0
  | n + 1 => cnt f n + (if f n = true then 1 else 0)
theorem cnt_le (f : Nat → Bool) : ∀ n, cnt f n ≤ n := by
  intro n
  induction n with
  | zero => exact Nat.le_refl 0
  | succ n ih =>
    simp only [cnt]
    split <;> omega
theorem cnt_congr {f g : Nat → Bool} : ∀ n, (∀ i, i < n → f i = g i) → cnt f n = cnt g n := by
  intro n
  induction n with
  | zero => intro _; rfl
  | succ n ih =>
    intro h
    simp only [cnt]
    rw [ih (fun i hi => h i (by omega)), h n (by omega)]
def cW (T : TT) (s i : Nat) (d h io wo : Int32) : Bool := decide (so T s 1 = d ∧ so T s 2 = h ∧ ¬ tb wo s = true ∧ (so T s 3 = 0 ∨ io = 0)) && tb (bas T s) i
def nW (T : TT) (S i : Nat) (d h io wo : Int32) : Nat := cnt (fun s => cW T s i d h io wo) S
def isWL (T : TT) (S : Nat) (d h io wo least r : Int32) : Prop := ∀ i, i < 32 → (tb r i = true ↔ least ≤ nI (nW T S i d h io wo))
/-- the same but for the row of cell a -/
def EQx (x y : Cn) (a : Nat) : Prop := y.2 = x.2 ∧ ∀ b k, b ≠ a → gi y b k = gi x b k
theorem EQx.rf (x : Cn) (a : Nat) : EQx x x a := ⟨rfl, fun _ _ _ => rfl⟩
theorem EQx.ui {x y : Cn} {a k : Nat} {v : Int32} (h : EQx x y a) : EQx x (ui y a k v) a := ⟨h.1, fun b j hb => by rw [gi_ui, if_neg (fun z => hb z.1)]; exact h.2 b j hb⟩
theorem EQx.tr {x y z : Cn} {a : Nat} (h : EQx x y a) (g : EQx y z a) : EQx x z a := ⟨g.1.trans h.1, fun b k hb => (g.2 b k hb).trans (h.2 b k hb)⟩
theorem SEA.eqx {x y : Cn} {q : Nat} {T : TT} {W C S A N : Nat} (E : SEA x q T W C S A N) {a : Nat} (h : EQx x y a) (ha : a = q + 5 ∨ a < q ∨ q + 54 ≤ a) : SEA y q T W C S A N := by
  obtain ⟨e1, e2, ⟨v0, v1, v2, v3, v4, v5, v6, v7⟩, e4⟩ := E
  have hg : ∀ b k, gr y b k = gr x b k := fun b k => by unfold gr; rw [h.1]
  have hi : ∀ b k, b ≠ a → gi y b k = gi x b k := h.2
  have hr := e2
  obtain ⟨r1, r2, r3, r4, r5, r6, r7, r8, r9⟩ := e2
  refine ⟨e1, ?_, ⟨?_, ?_, ?_, ?_, ?_, ?_, ?_, ?_⟩, e4⟩
  · unfold SRf at hr ⊢
    simp only [hg]
    exact hr
  · rw [hi q 0 (by omega)]; exact v0
  · rw [hi q 1 (by omega)]; exact v1
  · rw [hi q 2 (by omega)]; exact v2
  · rw [hi q 3 (by omega)]; exact v3
  · rw [hi q 4 (by omega)]; exact v4
  · intro hh h24
    rw [hi (q + 1) hh (by omega), hi (q + 2) hh (by omega)]
    exact v5 hh h24
  · intro s p hs hp
    rw [hg] at hp
    have h0 := v6 s p hs hp
    obtain ⟨j, hj, ej⟩ := r6 s (by have := e4.2.2.2.2.2.2.1; omega)
    have hpe : p = q + 6 + j := Option.some.inj (hp.symm.trans ej)
    exact ⟨fun k h1 h2 => by rw [hi p k (by omega)]; exact h0.1 k h1 h2, by rw [hi p 7 (by omega)]; exact h0.2⟩
  · intro s p hs hp
    rw [hg] at hp
    have h0 := v7 s p hs hp
    obtain ⟨j, hj, ej⟩ := r8 s (by have := e4.2.2.2.2.2.2.2.2.1; omega)
    have hpe : p = q + 30 + j := Option.some.inj (hp.symm.trans ej)
    exact fun k h1 => by rw [hi p k (by omega)]; exact h0 k h1
set_option maxHeartbeats 2000000 in
theorem v_X4_weeksLoaded_0 {K : Sh} {x : Cn} {Q : Int32 → Cn → Prop} {b0 : Nat} {l1 : Int32} {l2 : Int32} {l3 : Int32} {l4 : Int32} {l5 : Int32} {b0_9 : Nat} {n_b0_9 : Nat} (k_b0 : kk K b0 = some (4, 0)) (g_b0_9 : gr x b0 9 = some b0_9) (k_b0_9 : kk K b0_9 = some (20, n_b0_9)) (K0 : (0 < l3 → ((l3 ≤ (gi x b0 3) → (vp_in 0 n_b0_9 ∧ (GI mX4_weeksLoaded 26 [some (.ref b0), some (.int l1), some (.int l2), some (.int l3), some (.int l4), some (.int l5), some (.int 1), none, none, none] [] K (ui x b0_9 0 (-1)) Q))) ∧ (¬ l3 ≤ (gi x b0 3) → (Q 0 x)))) ∧ (¬ 0 < l3 → (Q (-1) x))) : mSI mX4_weeksLoaded [.ref b0, .int l1, .int l2, .int l3, .int l4, .int l5] K x Q := by
  refine s_I (by decide) (by simp [Value.category]) (Nat.le_of_ble_eq_true rfl) ?_
  show mGM mX4_weeksLoaded 0 [some (.ref b0), some (.int l1), some (.int l2), some (.int l3), some (.int l4), some (.int l5), none, none, none, none] [] (hp K x) (PI K Q)
  refine r_iload_n (pc := 0) dX4_weeksLoaded_0 rfl ?_
  refine r_if_gt (pc := 1) (tgt := 6) dX4_weeksLoaded_1 (by decide) (fun q => ?_) (fun q => ?_)
  · have K0 := K0.1 q
    refine r_iload_n (pc := 6) dX4_weeksLoaded_6 rfl ?_
    refine r_aload_n (pc := 7) dX4_weeksLoaded_7 rfl ?_
    refine s_getI (pc := 8) dX4_weeksLoaded_8 fl_X4_21 rfl k_b0 ?_
    refine r_icmp_le (pc := 11) (tgt := 16) dX4_weeksLoaded_11 (by decide) (fun q => ?_) (fun q => ?_)
    · have K0 := K0.1 q
      refine r_aload_n (pc := 16) dX4_weeksLoaded_16 rfl ?_
      refine s_getR (pc := 17) dX4_weeksLoaded_17 fl_X4_46 rfl k_b0 g_b0_9 ?_
      refine r_iconst (pc := 20) (v := 0) dX4_weeksLoaded_20 (by decide) ?_
      refine r_iconst (pc := 21) (v := (-1)) dX4_weeksLoaded_21 (by decide) ?_
      obtain ⟨i_3, K0⟩ := K0
      refine s_iast (pc := 22) dX4_weeksLoaded_22 k_b0_9 i_3 ?_
      refine r_iconst (pc := 23) (v := 1) dX4_weeksLoaded_23 (by decide) ?_
      refine r_istore (pc := 24) dX4_weeksLoaded_24 (by decide) ?_
      exact r_le (L' := [some (.ref b0), some (.int l1), some (.int l2), some (.int l3), some (.int l4), some (.int l5), some (.int 1), none, none, none]) ⟨rfl, ⟨rfl, ⟨rfl, ⟨rfl, ⟨rfl, ⟨rfl, ⟨rfl, trivial⟩⟩⟩⟩⟩⟩⟩ K0
    · have K0 := K0.2 q
      refine r_iconst (pc := 14) (v := 0) dX4_weeksLoaded_14 (by decide) ?_
      exact s_iret rfl dX4_weeksLoaded_15 K0
  · have K0 := K0.2 q
    refine r_iconst (pc := 4) (v := (-1)) dX4_weeksLoaded_4 (by decide) ?_
    exact s_iret rfl dX4_weeksLoaded_5 K0
set_option maxHeartbeats 2000000 in
theorem v_X4_weeksLoaded_26 {K : Sh} {x : Cn} {Q : Int32 → Cn → Prop} {b0 : Nat} {l1 : Int32} {l2 : Int32} {l3 : Int32} {l4 : Int32} {l5 : Int32} {l6 : Int32} {b0_9 : Nat} {n_b0_9 : Nat} (k_b0 : kk K b0 = some (4, 0)) (g_b0_9 : gr x b0 9 = some b0_9) (k_b0_9 : kk K b0_9 = some (20, n_b0_9)) (K0 : (l3 < l6 → (GI mX4_weeksLoaded 49 [some (.ref b0), some (.int l1), some (.int l2), some (.int l3), some (.int l4), some (.int l5), some (.int 0), none, none, none] [] K x Q)) ∧ (¬ l3 < l6 → (vp_in l6 n_b0_9 ∧ (GI mX4_weeksLoaded 26 [some (.ref b0), some (.int l1), some (.int l2), some (.int l3), some (.int l4), some (.int l5), some (.int (l6 + 1)), none, none, none] [] K (ui x b0_9 (l6 : Int32).toNatClampNeg 0) Q)))) : GI mX4_weeksLoaded 26 [some (.ref b0), some (.int l1), some (.int l2), some (.int l3), some (.int l4), some (.int l5), some (.int l6), none, none, none] [] K x Q := by
  show mGM mX4_weeksLoaded 26 [some (.ref b0), some (.int l1), some (.int l2), some (.int l3), some (.int l4), some (.int l5), some (.int l6), none, none, none] [] (hp K x) (PI K Q)
  refine r_iload (pc := 26) dX4_weeksLoaded_26 rfl ?_
  refine r_iload_n (pc := 28) dX4_weeksLoaded_28 rfl ?_
  refine r_icmp_gt (pc := 29) (tgt := 46) dX4_weeksLoaded_29 (by decide) (fun q => ?_) (fun q => ?_)
  · have K0 := K0.1 q
    refine r_iconst (pc := 46) (v := 0) dX4_weeksLoaded_46 (by decide) ?_
    refine r_istore (pc := 47) dX4_weeksLoaded_47 (by decide) ?_
    exact r_le (L' := [some (.ref b0), some (.int l1), some (.int l2), some (.int l3), some (.int l4), some (.int l5), some (.int 0), none, none, none]) ⟨rfl, ⟨rfl, ⟨rfl, ⟨rfl, ⟨rfl, ⟨rfl, ⟨rfl, trivial⟩⟩⟩⟩⟩⟩⟩ K0
  · have K0 := K0.2 q
    refine r_aload_n (pc := 32) dX4_weeksLoaded_32 rfl ?_
    refine s_getR (pc := 33) dX4_weeksLoaded_33 fl_X4_46 rfl k_b0 g_b0_9 ?_
    refine r_iload (pc := 36) dX4_weeksLoaded_36 rfl ?_
    refine r_iconst (pc := 38) (v := 0) dX4_weeksLoaded_38 (by decide) ?_
    obtain ⟨i_2, K0⟩ := K0
    refine s_iast (pc := 39) dX4_weeksLoaded_39 k_b0_9 i_2 ?_
    refine r_iinc (pc := 40) (v := l6 + 1) dX4_weeksLoaded_40 rfl rfl (by decide) ?_
    refine r_goto (pc := 43) (L := [some (.ref b0), some (.int l1), some (.int l2), some (.int l3), some (.int l4), some (.int l5), some (.int (l6 + 1)), none, none, none]) (tgt := 26) dX4_weeksLoaded_43 (by decide) ?_
    exact r_le (L' := [some (.ref b0), some (.int l1), some (.int l2), some (.int l3), some (.int l4), some (.int l5), some (.int (l6 + 1)), none, none, none]) ⟨rfl, ⟨rfl, ⟨rfl, ⟨rfl, ⟨rfl, ⟨rfl, ⟨rfl, trivial⟩⟩⟩⟩⟩⟩⟩ K0
set_option maxHeartbeats 2000000 in
theorem v_X4_weeksLoaded_49 {K : Sh} {x : Cn} {Q : Int32 → Cn → Prop} {b0 : Nat} {l1 : Int32} {l2 : Int32} {l3 : Int32} {l4 : Int32} {l5 : Int32} {l6 : Int32} {b0_9 : Nat} {n_b0_9 : Nat} {b0_7 : Nat} {n_b0_7 : Nat} (k_b0 : kk K b0 = some (4, 0)) (g_b0_9 : gr x b0 9 = some b0_9) (k_b0_9 : kk K b0_9 = some (20, n_b0_9)) (g_b0_7 : gr x b0 7 = some b0_7) (k_b0_7 : kk K b0_7 = some (23, n_b0_7)) (K0 : ((gi x b0 3) ≤ l6 → (vp_in l3 n_b0_9 ∧ (Q (gi x b0_9 (l3 : Int32).toNatClampNeg) x))) ∧ (¬ (gi x b0 3) ≤ l6 → (vp_in l6 n_b0_7 ∧ (∃ c_4 : Nat, gr x b0_7 ((l6 : Int32).toNatClampNeg) = some c_4 ∧ (kk K c_4 = some (5, 0) ∧ ((¬ (gi x c_4 1) = l1 → (GI mX4_weeksLoaded 49 [some (.ref b0), some (.int l1), some (.int l2), some (.int l3), some (.int l4), some (.int l5), some (.int (l6 + 1)), none, none, none] [] K x Q)) ∧ ((gi x c_4 1) = l1 → ((¬ (gi x c_4 2) = l2 → (GI mX4_weeksLoaded 49 [some (.ref b0), some (.int l1), some (.int l2), some (.int l3), some (.int l4), some (.int l5), some (.int (l6 + 1)), none, none, none] [] K x Q)) ∧ ((gi x c_4 2) = l2 → (((f_bit l5 l6) → (GI mX4_weeksLoaded 49 [some (.ref b0), some (.int l1), some (.int l2), some (.int l3), some (.int l4), some (.int l5), some (.int (l6 + 1)), none, none, none] [] K x Q)) ∧ (¬ (f_bit l5 l6) → (((gi x c_4 3) = 0 → (GI mX4_weeksLoaded 118 [some (.ref b0), some (.int l1), some (.int l2), some (.int l3), some (.int l4), some (.int l5), some (.int l6), some (.ref c_4), some (.int (f_held x c_4)), some (.int l3)] [] K x Q)) ∧ (¬ (gi x c_4 3) = 0 → ((¬ l4 = 0 → (GI mX4_weeksLoaded 49 [some (.ref b0), some (.int l1), some (.int l2), some (.int l3), some (.int l4), some (.int l5), some (.int (l6 + 1)), none, none, none] [] K x Q)) ∧ (l4 = 0 → (GI mX4_weeksLoaded 118 [some (.ref b0), some (.int l1), some (.int l2), some (.int l3), some (.int l4), some (.int l5), some (.int l6), some (.ref c_4), some (.int (f_held x c_4)), some (.int l3)] [] K x Q)))))))))))))))) : GI mX4_weeksLoaded 49 [some (.ref b0), some (.int l1), some (.int l2), some (.int l3), some (.int l4), some (.int l5), some (.int l6), none, none, none] [] K x Q := by
  show mGM mX4_weeksLoaded 49 [some (.ref b0), some (.int l1), some (.int l2), some (.int l3), some (.int l4), some (.int l5), some (.int l6), none, none, none] [] (hp K x) (PI K Q)
  refine r_iload (pc := 49) dX4_weeksLoaded_49 rfl ?_
  refine r_aload_n (pc := 51) dX4_weeksLoaded_51 rfl ?_
  refine s_getI (pc := 52) dX4_weeksLoaded_52 fl_X4_21 rfl k_b0 ?_
  refine r_icmp_ge (pc := 55) (tgt := 158) dX4_weeksLoaded_55 (by decide) (fun q => ?_) (fun q => ?_)
  · have K0 := K0.1 q
    refine r_aload_n (pc := 158) dX4_weeksLoaded_158 rfl ?_
    refine s_getR (pc := 159) dX4_weeksLoaded_159 fl_X4_46 rfl k_b0 g_b0_9 ?_
    refine r_iload_n (pc := 162) dX4_weeksLoaded_162 rfl ?_
    obtain ⟨i_2, K0⟩ := K0
    refine s_iald (pc := 163) dX4_weeksLoaded_163 k_b0_9 i_2 ?_
    exact s_iret rfl dX4_weeksLoaded_164 K0
  · have K0 := K0.2 q
    refine r_aload_n (pc := 58) dX4_weeksLoaded_58 rfl ?_
    refine s_getR (pc := 59) dX4_weeksLoaded_59 fl_X4_36 rfl k_b0 g_b0_7 ?_
    refine r_iload (pc := 62) dX4_weeksLoaded_62 rfl ?_
    obtain ⟨i_3, K0⟩ := K0
    obtain ⟨c_4, g_5, K0⟩ := K0
    refine s_aald (pc := 64) dX4_weeksLoaded_64 (by decide) rfl k_b0_7 i_3 g_5 ?_
    refine r_astore (pc := 65) dX4_weeksLoaded_65 (by decide) ?_
    refine r_aload (pc := 67) (L := [some (.ref b0), some (.int l1), some (.int l2), some (.int l3), some (.int l4), some (.int l5), some (.int l6), some (.ref c_4), none, none]) dX4_weeksLoaded_67 rfl ?_
    obtain ⟨e_6, K0⟩ := K0
    refine s_getI (pc := 69) dX4_weeksLoaded_69 fl_X4_78 rfl e_6 ?_
    refine r_iload_n (pc := 72) dX4_weeksLoaded_72 rfl ?_
    refine r_icmp_ne (pc := 73) (tgt := 152) dX4_weeksLoaded_73 (by decide) (fun q => ?_) (fun q => ?_)
    · have K0 := K0.1 q
      refine r_iinc (pc := 152) (v := l6 + 1) dX4_weeksLoaded_152 rfl rfl (by decide) ?_
      refine r_goto (pc := 155) (L := [some (.ref b0), some (.int l1), some (.int l2), some (.int l3), some (.int l4), some (.int l5), some (.int (l6 + 1)), some (.ref c_4), none, none]) (tgt := 49) dX4_weeksLoaded_155 (by decide) ?_
      exact r_le (L' := [some (.ref b0), some (.int l1), some (.int l2), some (.int l3), some (.int l4), some (.int l5), some (.int (l6 + 1)), none, none, none]) ⟨rfl, ⟨rfl, ⟨rfl, ⟨rfl, ⟨rfl, ⟨rfl, ⟨rfl, trivial⟩⟩⟩⟩⟩⟩⟩ K0
    · have K0 := K0.2 q
      refine r_aload (pc := 76) dX4_weeksLoaded_76 rfl ?_
      refine s_getI (pc := 78) dX4_weeksLoaded_78 fl_X4_81 rfl e_6 ?_
      refine r_iload_n (pc := 81) dX4_weeksLoaded_81 rfl ?_
      refine r_icmp_ne (pc := 82) (tgt := 152) dX4_weeksLoaded_82 (by decide) (fun q => ?_) (fun q => ?_)
      · have K0 := K0.1 q
        refine r_iinc (pc := 152) (v := l6 + 1) dX4_weeksLoaded_152 rfl rfl (by decide) ?_
        refine r_goto (pc := 155) (L := [some (.ref b0), some (.int l1), some (.int l2), some (.int l3), some (.int l4), some (.int l5), some (.int (l6 + 1)), some (.ref c_4), none, none]) (tgt := 49) dX4_weeksLoaded_155 (by decide) ?_
        exact r_le (L' := [some (.ref b0), some (.int l1), some (.int l2), some (.int l3), some (.int l4), some (.int l5), some (.int (l6 + 1)), none, none, none]) ⟨rfl, ⟨rfl, ⟨rfl, ⟨rfl, ⟨rfl, ⟨rfl, ⟨rfl, trivial⟩⟩⟩⟩⟩⟩⟩ K0
      · have K0 := K0.2 q
        refine r_iload (pc := 85) dX4_weeksLoaded_85 rfl ?_
        refine r_iload (pc := 87) dX4_weeksLoaded_87 rfl ?_
        refine s_SNI (pc := 89) mX7_hasBit (As := [.int l5, .int l6]) dX4_weeksLoaded_89 nl_X4_84 st_X7_hasBit mo_X7_hasBit ⟨by decide, by decide⟩ (Nat.le_of_ble_eq_true rfl) (sp_X7_hasBit  ?_)
        refine r_if_ne (pc := 92) (tgt := 152) dX4_weeksLoaded_92 (by decide) (fun q => ?_) (fun q => ?_)
        · have q := b2i_nz q
          have K0 := K0.1 q
          refine r_iinc (pc := 152) (v := l6 + 1) dX4_weeksLoaded_152 rfl rfl (by decide) ?_
          refine r_goto (pc := 155) (L := [some (.ref b0), some (.int l1), some (.int l2), some (.int l3), some (.int l4), some (.int l5), some (.int (l6 + 1)), some (.ref c_4), none, none]) (tgt := 49) dX4_weeksLoaded_155 (by decide) ?_
          exact r_le (L' := [some (.ref b0), some (.int l1), some (.int l2), some (.int l3), some (.int l4), some (.int l5), some (.int (l6 + 1)), none, none, none]) ⟨rfl, ⟨rfl, ⟨rfl, ⟨rfl, ⟨rfl, ⟨rfl, ⟨rfl, trivial⟩⟩⟩⟩⟩⟩⟩ K0
        · have q := (b2i_z _).mp q
          have K0 := K0.2 q
          refine r_aload (pc := 95) dX4_weeksLoaded_95 rfl ?_
          refine s_getI (pc := 97) dX4_weeksLoaded_97 fl_X4_75 rfl e_6 ?_
          refine r_if_eq (pc := 100) (tgt := 108) dX4_weeksLoaded_100 (by decide) (fun q => ?_) (fun q => ?_)
          · have K0 := K0.1 q
            refine r_aload (pc := 108) dX4_weeksLoaded_108 rfl ?_
            refine s_VI (pc := 110) mX5_heldBits (ci := 5) (a := c_4) (As := []) dX4_weeksLoaded_110 lk_X4_88 in_X5_heldBits mo_X5_heldBits ⟨by decide, rfl⟩ ⟨by decide, by decide⟩ (Nat.le_of_ble_eq_true rfl) e_6 (sp_X5_heldBits e_6 ?_)
            refine r_istore (pc := 113) dX4_weeksLoaded_113 (by decide) ?_
            refine r_iload_n (pc := 115) (L := [some (.ref b0), some (.int l1), some (.int l2), some (.int l3), some (.int l4), some (.int l5), some (.int l6), some (.ref c_4), some (.int (f_held x c_4)), none]) dX4_weeksLoaded_115 rfl ?_
            refine r_istore (pc := 116) dX4_weeksLoaded_116 (by decide) ?_
            exact r_le (L' := [some (.ref b0), some (.int l1), some (.int l2), some (.int l3), some (.int l4), some (.int l5), some (.int l6), some (.ref c_4), some (.int (f_held x c_4)), some (.int l3)]) ⟨rfl, ⟨rfl, ⟨rfl, ⟨rfl, ⟨rfl, ⟨rfl, ⟨rfl, ⟨rfl, ⟨rfl, ⟨rfl, trivial⟩⟩⟩⟩⟩⟩⟩⟩⟩⟩ K0
          · have K0 := K0.2 q
            refine r_iload (pc := 103) dX4_weeksLoaded_103 rfl ?_
            refine r_if_ne (pc := 105) (tgt := 152) dX4_weeksLoaded_105 (by decide) (fun q => ?_) (fun q => ?_)
            · have K0 := K0.1 q
              refine r_iinc (pc := 152) (v := l6 + 1) dX4_weeksLoaded_152 rfl rfl (by decide) ?_
              refine r_goto (pc := 155) (L := [some (.ref b0), some (.int l1), some (.int l2), some (.int l3), some (.int l4), some (.int l5), some (.int (l6 + 1)), some (.ref c_4), none, none]) (tgt := 49) dX4_weeksLoaded_155 (by decide) ?_
              exact r_le (L' := [some (.ref b0), some (.int l1), some (.int l2), some (.int l3), some (.int l4), some (.int l5), some (.int (l6 + 1)), none, none, none]) ⟨rfl, ⟨rfl, ⟨rfl, ⟨rfl, ⟨rfl, ⟨rfl, ⟨rfl, trivial⟩⟩⟩⟩⟩⟩⟩ K0
            · have K0 := K0.2 q
              refine r_aload (pc := 108) dX4_weeksLoaded_108 rfl ?_
              refine s_VI (pc := 110) mX5_heldBits (ci := 5) (a := c_4) (As := []) dX4_weeksLoaded_110 lk_X4_88 in_X5_heldBits mo_X5_heldBits ⟨by decide, rfl⟩ ⟨by decide, by decide⟩ (Nat.le_of_ble_eq_true rfl) e_6 (sp_X5_heldBits e_6 ?_)
              refine r_istore (pc := 113) dX4_weeksLoaded_113 (by decide) ?_
              refine r_iload_n (pc := 115) (L := [some (.ref b0), some (.int l1), some (.int l2), some (.int l3), some (.int l4), some (.int l5), some (.int l6), some (.ref c_4), some (.int (f_held x c_4)), none]) dX4_weeksLoaded_115 rfl ?_
              refine r_istore (pc := 116) dX4_weeksLoaded_116 (by decide) ?_
              exact r_le (L' := [some (.ref b0), some (.int l1), some (.int l2), some (.int l3), some (.int l4), some (.int l5), some (.int l6), some (.ref c_4), some (.int (f_held x c_4)), some (.int l3)]) ⟨rfl, ⟨rfl, ⟨rfl, ⟨rfl, ⟨rfl, ⟨rfl, ⟨rfl, ⟨rfl, ⟨rfl, ⟨rfl, trivial⟩⟩⟩⟩⟩⟩⟩⟩⟩⟩ K0
set_option maxHeartbeats 2000000 in
theorem v_X4_weeksLoaded_118 {K : Sh} {x : Cn} {Q : Int32 → Cn → Prop} {b0 : Nat} {l1 : Int32} {l2 : Int32} {l3 : Int32} {l4 : Int32} {l5 : Int32} {l6 : Int32} {b7 : Nat} {l8 : Int32} {l9 : Int32} {b0_9 : Nat} {n_b0_9 : Nat} (k_b0 : kk K b0 = some (4, 0)) (g_b0_9 : gr x b0 9 = some b0_9) (k_b0_9 : kk K b0_9 = some (20, n_b0_9)) (K0 : (l9 < 1 → (GI mX4_weeksLoaded 49 [some (.ref b0), some (.int l1), some (.int l2), some (.int l3), some (.int l4), some (.int l5), some (.int (l6 + 1)), none, none, none] [] K x Q)) ∧ (¬ l9 < 1 → (vp_in l9 n_b0_9 ∧ (vp_in (l9 - 1) n_b0_9 ∧ (GI mX4_weeksLoaded 118 [some (.ref b0), some (.int l1), some (.int l2), some (.int l3), some (.int l4), some (.int l5), some (.int l6), some (.ref b7), some (.int l8), some (.int (l9 + (-1)))] [] K (ui x b0_9 (l9 : Int32).toNatClampNeg ((gi x b0_9 (l9 : Int32).toNatClampNeg) ||| ((gi x b0_9 ((l9 - 1) : Int32).toNatClampNeg) &&& l8))) Q))))) : GI mX4_weeksLoaded 118 [some (.ref b0), some (.int l1), some (.int l2), some (.int l3), some (.int l4), some (.int l5), some (.int l6), some (.ref b7), some (.int l8), some (.int l9)] [] K x Q := by
  show mGM mX4_weeksLoaded 118 [some (.ref b0), some (.int l1), some (.int l2), some (.int l3), some (.int l4), some (.int l5), some (.int l6), some (.ref b7), some (.int l8), some (.int l9)] [] (hp K x) (PI K Q)
  refine r_iload (pc := 118) dX4_weeksLoaded_118 rfl ?_
  refine r_iconst (pc := 120) (v := 1) dX4_weeksLoaded_120 (by decide) ?_
  refine r_icmp_lt (pc := 121) (tgt := 152) dX4_weeksLoaded_121 (by decide) (fun q => ?_) (fun q => ?_)
  · have K0 := K0.1 q
    refine r_iinc (pc := 152) (v := l6 + 1) dX4_weeksLoaded_152 rfl rfl (by decide) ?_
    refine r_goto (pc := 155) (L := [some (.ref b0), some (.int l1), some (.int l2), some (.int l3), some (.int l4), some (.int l5), some (.int (l6 + 1)), some (.ref b7), some (.int l8), some (.int l9)]) (tgt := 49) dX4_weeksLoaded_155 (by decide) ?_
    exact r_le (L' := [some (.ref b0), some (.int l1), some (.int l2), some (.int l3), some (.int l4), some (.int l5), some (.int (l6 + 1)), none, none, none]) ⟨rfl, ⟨rfl, ⟨rfl, ⟨rfl, ⟨rfl, ⟨rfl, ⟨rfl, trivial⟩⟩⟩⟩⟩⟩⟩ K0
  · have K0 := K0.2 q
    refine r_aload_n (pc := 124) dX4_weeksLoaded_124 rfl ?_
    refine s_getR (pc := 125) dX4_weeksLoaded_125 fl_X4_46 rfl k_b0 g_b0_9 ?_
    refine r_iload (pc := 128) dX4_weeksLoaded_128 rfl ?_
    refine r_dup2 (pc := 130) dX4_weeksLoaded_130 rfl rfl ?_
    obtain ⟨i_2, K0⟩ := K0
    refine s_iald (pc := 131) dX4_weeksLoaded_131 k_b0_9 i_2 ?_
    refine r_aload_n (pc := 132) dX4_weeksLoaded_132 rfl ?_
    refine s_getR (pc := 133) dX4_weeksLoaded_133 fl_X4_46 rfl k_b0 g_b0_9 ?_
    refine r_iload (pc := 136) dX4_weeksLoaded_136 rfl ?_
    refine r_iconst (pc := 138) (v := 1) dX4_weeksLoaded_138 (by decide) ?_
    refine r_isub (pc := 139) dX4_weeksLoaded_139 ?_
    obtain ⟨i_3, K0⟩ := K0
    refine s_iald (pc := 140) dX4_weeksLoaded_140 k_b0_9 i_3 ?_
    refine r_iload (pc := 141) dX4_weeksLoaded_141 rfl ?_
    refine r_iand (pc := 143) dX4_weeksLoaded_143 ?_
    refine r_ior (pc := 144) dX4_weeksLoaded_144 ?_
    refine s_iast (pc := 145) dX4_weeksLoaded_145 k_b0_9 i_2 ?_
    refine r_iinc (pc := 146) (v := l9 + (-1)) dX4_weeksLoaded_146 rfl rfl (by decide) ?_
    refine r_goto (pc := 149) (L := [some (.ref b0), some (.int l1), some (.int l2), some (.int l3), some (.int l4), some (.int l5), some (.int l6), some (.ref b7), some (.int l8), some (.int (l9 + (-1)))]) (tgt := 118) dX4_weeksLoaded_149 (by decide) ?_
    exact r_le (L' := [some (.ref b0), some (.int l1), some (.int l2), some (.int l3), some (.int l4), some (.int l5), some (.int l6), some (.ref b7), some (.int l8), some (.int (l9 + (-1)))]) ⟨rfl, ⟨rfl, ⟨rfl, ⟨rfl, ⟨rfl, ⟨rfl, ⟨rfl, ⟨rfl, ⟨rfl, ⟨rfl, trivial⟩⟩⟩⟩⟩⟩⟩⟩⟩⟩ K0
section
theorem lp_X4_weeksLoaded_118 {x : Cn} {Q : Int32 → Cn → Prop} {q : Nat} {T : TT} {W C S A N : Nat} (E : SEA x q T W C S A N) {d h io wo held : Int32} {b7 m s : Nat} (hm : m ≤ 24) (hh : ∀ i, i < 32 → tb held i = cW T s i d h io wo) (hs : s < 24)
    (k : ∀ y, EQx x y (q + 5) → (∀ j, j ≤ m → ∀ i, i < 32 → tb (gi y (q + 5) j) i = decide (j ≤ nW T (s + 1) i d h io wo)) → GI mX4_weeksLoaded 49 [some (.ref q), some (.int d), some (.int h), some (.int (nI m)), some (.int io), some (.int wo), some (.int (nI (s + 1))), none, none, none] [] KW y Q) :
    ∀ (n : Nat) (y : Cn), n ≤ m → EQx x y (q + 5) → (∀ j, j ≤ n → ∀ i, i < 32 → tb (gi y (q + 5) j) i = decide (j ≤ nW T s i d h io wo)) → (∀ j, n < j → j ≤ m → ∀ i, i < 32 → tb (gi y (q + 5) j) i = decide (j ≤ nW T (s + 1) i d h io wo)) → GI mX4_weeksLoaded 118 [some (.ref q), some (.int d), some (.int h), some (.int (nI m)), some (.int io), some (.int wo), some (.int (nI s)), some (.ref b7), some (.int held), some (.int (nI n))] [] KW y Q := by
  intro n
  induction n with
  | zero =>
    intro y hn hy h0 h1
    have E2 := E.eqx hy (Or.inl rfl)
    refine v_X4_weeksLoaded_118 (ks0 E.1) E2.2.1.2.2.2.2.1 (ks5 E.1) ⟨fun _ => ?_, fun z => ?_⟩
    · rw [nI_1]
      refine k y hy (fun j hj i hi => ?_)
      rcases Nat.eq_zero_or_pos j with rfl | hp
      · rw [h0 0 (Nat.le_refl 0) i hi]
        simp
      · exact h1 j hp hj i hi
    · exact absurd (by decide) z
  | succ n ih =>
    intro y hn hy h0 h1
    have E2 := E.eqx hy (Or.inl rfl)
    refine v_X4_weeksLoaded_118 (ks0 E.1) E2.2.1.2.2.2.2.1 (ks5 E.1) ⟨fun z => ?_, fun _ => ⟨vp_in_nI (by omega) (by decide), ?_, ?_⟩⟩
    · exact absurd z (show ¬ nI (n + 1) < nI 1 from nI_nlt (by omega) (by omega))
    · rw [nI_pred]
      exact vp_in_nI (by omega) (by decide)
    · rw [pk_m1, nI_pred, nI_clamp (by omega), nI_clamp (by omega)]
      refine ih _ (by omega) hy.ui (fun j hj i hi => ?_) (fun j hj hjm i hi => ?_)
      · rw [gi_ui, if_neg (by omega)]
        exact h0 j (by omega) i hi
      · by_cases hjn : j = n + 1
        · subst hjn
          rw [gi_ui, if_pos ⟨rfl, rfl⟩, tb_or, tb_and, h0 (n + 1) (Nat.le_refl _) i hi, h0 n (by omega) i hi, hh i hi]
          have : nW T (s + 1) i d h io wo = nW T s i d h io wo + (if cW T s i d h io wo = true then 1 else 0) := rfl
          rw [this]
          cases cW T s i d h io wo <;> simp <;> omega
        · rw [gi_ui, if_neg (by omega)]
          exact h1 j (by omega) hjm i hi
theorem lp_X4_weeksLoaded_49 {x : Cn} {Q : Int32 → Cn → Prop} {q : Nat} {T : TT} {W C S A N : Nat} (E : SEA x q T W C S A N) {d h io wo : Int32} {m : Nat} (hm : m ≤ S)
    (k : ∀ r y, EQx x y (q + 5) → isWL T S d h io wo (nI m) r → Q r y) :
    ∀ (n s : Nat) (y : Cn), s + n = S → EQx x y (q + 5) → (∀ j, j ≤ m → ∀ i, i < 32 → tb (gi y (q + 5) j) i = decide (j ≤ nW T s i d h io wo)) → GI mX4_weeksLoaded 49 [some (.ref q), some (.int d), some (.int h), some (.int (nI m)), some (.int io), some (.int wo), some (.int (nI s)), none, none, none] [] KW y Q := by
  have hS := E.nums.2.2.2.2.2.2.1
  intro n
  induction n with
  | zero =>
    intro s y hs hy h0
    have E2 := E.eqx hy (Or.inl rfl)
    have hn := E2.nums
    refine v_X4_weeksLoaded_49 (ks0 E.1) E2.2.1.2.2.2.2.1 (ks5 E.1) E2.2.1.2.2.1 (ks3 E.1) ⟨fun _ => ⟨vp_in_nI (by omega) (by decide), ?_⟩, fun z => ?_⟩
    · rw [nI_clamp (by omega)]
      refine k _ y hy (fun i hi => ?_)
      have hc : nW T S i d h io wo ≤ S := cnt_le _ _
      rw [h0 m (Nat.le_refl _) i hi, decide_eq_true_iff, show s = S by omega, nI_leI (by omega) (by omega)]
    · exact absurd (by rw [hn.2.2.1]; exact nI_le (by omega) (by omega)) z
  | succ n ih =>
    intro s y hs hy h0
    have E2 := E.eqx hy (Or.inl rfl)
    have hn := E2.nums
    obtain ⟨p, e1, e2, e3, e4, -, -⟩ := E2.ser (s := s) (by omega)
    have skip : ¬ (so T s 1 = d ∧ so T s 2 = h ∧ ¬ tb wo s = true ∧ (so T s 3 = 0 ∨ io = 0)) → GI mX4_weeksLoaded 49 [some (.ref q), some (.int d), some (.int h), some (.int (nI m)), some (.int io), some (.int wo), some (.int (nI s + 1)), none, none, none] [] KW y Q := by
      intro z
      rw [nI_1]
      refine ih (s + 1) y (by omega) hy (fun j hj i hi => ?_)
      rw [h0 j hj i hi]
      have : nW T (s + 1) i d h io wo = nW T s i d h io wo + (if cW T s i d h io wo = true then 1 else 0) := rfl
      rw [this, show cW T s i d h io wo = false by unfold cW; rw [decide_eq_false z]; rfl]
      rfl
    have take : (so T s 1 = d ∧ so T s 2 = h ∧ ¬ tb wo s = true ∧ (so T s 3 = 0 ∨ io = 0)) → GI mX4_weeksLoaded 118 [some (.ref q), some (.int d), some (.int h), some (.int (nI m)), some (.int io), some (.int wo), some (.int (nI s)), some (.ref p), some (.int (f_held y p)), some (.int (nI m))] [] KW y Q := by
      intro z
      refine lp_X4_weeksLoaded_118 E (by omega) (fun i hi => ?_) (by omega) (fun y2 hy2 g => ih (s + 1) y2 (by omega) hy2 g) m y (Nat.le_refl _) hy h0 (fun j h1 h2 => by omega)
      rw [e4]
      unfold cW
      rw [decide_eq_true z]
      simp
    refine v_X4_weeksLoaded_49 (ks0 E.1) E2.2.1.2.2.2.2.1 (ks5 E.1) E2.2.1.2.2.1 (ks3 E.1) ⟨fun z => ?_, fun _ => ⟨vp_in_nI (by omega) (by decide), p, by rw [nI_clamp (by omega)]; exact e1, e2, ?_⟩⟩
    · rw [hn.2.2.1] at z
      exact absurd z (nI_ge (by omega) (by omega))
    · rw [e3.1 1 (by decide) (by decide), e3.1 2 (by decide) (by decide), e3.1 3 (by decide) (by decide), f_bit_tb _ (by omega)]
      exact ⟨fun z => skip (fun g => z g.1), fun z1 => ⟨fun z => skip (fun g => z g.2.1), fun z2 => ⟨fun z => skip (fun g => g.2.2.1 z), fun z3 => ⟨fun z => take ⟨z1, z2, z3, Or.inl z⟩, fun z4 => ⟨fun z => skip (fun g => g.2.2.2.elim z4 z), fun z => take ⟨z1, z2, z3, Or.inr z⟩⟩⟩⟩⟩⟩
theorem lp_X4_weeksLoaded_26 {x : Cn} {Q : Int32 → Cn → Prop} {q : Nat} {T : TT} {W C S A N : Nat} (E : SEA x q T W C S A N) {d h io wo : Int32} {m : Nat} (hm : m ≤ S)
    (k : ∀ r y, EQx x y (q + 5) → isWL T S d h io wo (nI m) r → Q r y) :
    ∀ (n j : Nat) (y : Cn), j + n = m + 1 → 1 ≤ j → EQx x y (q + 5) → gi y (q + 5) 0 = -1 → (∀ i, 1 ≤ i → i < j → gi y (q + 5) i = 0) → GI mX4_weeksLoaded 26 [some (.ref q), some (.int d), some (.int h), some (.int (nI m)), some (.int io), some (.int wo), some (.int (nI j)), none, none, none] [] KW y Q := by
  have hS := E.nums.2.2.2.2.2.2.1
  intro n
  induction n with
  | zero =>
    intro j y hj h1 hy g0 g1
    have E2 := E.eqx hy (Or.inl rfl)
    refine v_X4_weeksLoaded_26 (ks0 E.1) E2.2.1.2.2.2.2.1 (ks5 E.1) ⟨fun _ => ?_, fun z => ?_⟩
    · refine lp_X4_weeksLoaded_49 E hm k S 0 y (by omega) hy (fun i hi b hb => ?_)
      rcases Nat.eq_zero_or_pos i with rfl | hp
      · rw [g0, tb_m1 hb]
        simp
      · rw [g1 i hp (by omega), tb_0]
        show false = decide (i ≤ 0)
        rw [decide_eq_false (by omega)]
    · exact absurd (nI_lt (show m < j by omega) (by omega)) z
  | succ n ih =>
    intro j y hj h1 hy g0 g1
    have E2 := E.eqx hy (Or.inl rfl)
    refine v_X4_weeksLoaded_26 (ks0 E.1) E2.2.1.2.2.2.2.1 (ks5 E.1) ⟨fun z => ?_, fun _ => ⟨vp_in_nI (by omega) (by decide), ?_⟩⟩
    · exact absurd z (nI_nlt (by omega) (by omega))
    · rw [nI_1, nI_clamp (by omega)]
      refine ih (j + 1) _ (by omega) (by omega) hy.ui ?_ (fun i hi hij => ?_)
      · rw [gi_ui, if_neg (by omega)]
        exact g0
      · by_cases hij2 : i = j
        · subst hij2
          rw [gi_ui, if_pos ⟨rfl, rfl⟩]
        · rw [gi_ui, if_neg (fun z => hij2 z.2)]
          exact g1 i hi (by omega)
theorem sp_X4_weeksLoaded {x : Cn} {Q : Int32 → Cn → Prop} {q : Nat} {T : TT} {W C S A N : Nat} (E : SEA x q T W C S A N) {d h least io wo : Int32} (k : ∀ r y, EQx x y (q + 5) → isWL T S d h io wo least r → Q r y) : mSI mX4_weeksLoaded [.ref q, .int d, .int h, .int least, .int io, .int wo] KW x Q := by
  have hn := E.nums
  have hS := hn.2.2.2.2.2.2.1
  refine v_X4_weeksLoaded_0 (ks0 E.1) E.2.1.2.2.2.2.1 (ks5 E.1) ⟨fun z => ⟨fun z2 => ⟨iv0 0 25 (by decide) (by decide) (by decide), ?_⟩, fun z2 => ?_⟩, fun z => ?_⟩
  · obtain ⟨m, hm, rfl⟩ := nI_of (x := least) (Int32.not_lt.mpr (Int32.le_of_lt z))
    rw [hn.2.2.1, nI_leI hm (by omega)] at z2
    exact lp_X4_weeksLoaded_26 E z2 k m 1 _ (by omega) (by omega) (EQx.rf x _).ui (by rw [gi_ui, if_pos ⟨rfl, rfl⟩]) (fun i h1 h2 => by omega)
  · refine k 0 x (EQx.rf x _) (fun i hi => ⟨fun g => ?_, fun g => ?_⟩)
    · rw [tb_0] at g
      cases g
    · have hc : nW T S i d h io wo ≤ S := cnt_le _ _
      refine absurd (Int32.le_trans g ?_) z2
      rw [hn.2.2.1]
      exact nI_le hc (by omega)
  · refine k (-1) x (EQx.rf x _) (fun i hi => ⟨fun _ => ?_, fun _ => tb_m1 hi⟩)
    have hc : nW T S i d h io wo ≤ S := cnt_le _ _
    exact Int32.le_trans (Int32.not_lt.mp z) (nI_pos' (by omega))

end
end
/-! 30.hasPlace.lean.txt -/
section
/-- whether one more with these weeks FITS, some being out -/
def fitC (T : TT) (S N : Nat) (d : Int32) (h : Nat) (way bits wo : Int32) : Prop := ∀ i, i < 32 → tb bits i = true → N ≤ i → ¬ T (6 + 2 * h) ≤ nI (nW T S i d (nI h) 0 wo) ∧ (¬ way = 1 → ¬ T (7 + 2 * h) ≤ nI (nW T S i d (nI h) 1 wo))
noncomputable def bP (P : Prop) : Int32 := @ite Int32 P (Classical.propDecidable P) 1 0
theorem bP_t {P : Prop} (h : P) : bP P = 1 := by unfold bP; rw [if_pos h]
theorem bP_f {P : Prop} (h : ¬ P) : bP P = 0 := by unfold bP; rw [if_neg h]
theorem bP_01 (P : Prop) : bP P = 0 ∨ bP P = 1 := by
  by_cases h : P
  · exact Or.inr (bP_t h)
  · exact Or.inl (bP_f h)
theorem bP_z {P : Prop} : bP P = 0 ↔ ¬ P := by
  by_cases h : P
  · rw [bP_t h]
    exact ⟨fun z => absurd z (by decide), fun z => absurd h z⟩
  · rw [bP_f h]
    exact ⟨fun _ => h, fun _ => rfl⟩
theorem bP_k {P : Prop} {Q : Int32 → Cn → Prop} {y : Cn} (k : Q (bP P) y) : (P → Q 1 y) ∧ (¬ P → Q 0 y) := ⟨fun h => by rwa [bP_t h] at k, fun h => by rwa [bP_f h] at k⟩
theorem bP_congr {P R : Prop} (h : P ↔ R) : bP P = bP R := by
  by_cases g : P
  · rw [bP_t g, bP_t (h.mp g)]
  · rw [bP_f g, bP_f (fun z => g (h.mpr z))]
theorem and3_0 {bits r : Int32} {N : Nat} {c : Nat → Prop} (hN : N ≤ 30) (hr : ∀ i, i < 32 → (tb r i = true ↔ c i)) : ((bits &&& (f_bf (nI N))) &&& r) = 0 ↔ ∀ i, i < 32 → tb bits i = true → N ≤ i → ¬ c i := by
  constructor
  · intro z i hi h1 h2 h3
    have : tb ((bits &&& (f_bf (nI N))) &&& r) i = true := by
      rw [tb_and, tb_and, h1, tb_bf0 N (by omega) i hi, decide_eq_true h2, (hr i hi).mpr h3]
      rfl
    rw [z, tb_0] at this
    cases this
  · intro g
    apply tb_ext
    intro i hi
    rw [tb_0, tb_and, tb_and, tb_bf0 N (by omega) i hi]
    cases h1 : tb bits i with
    | false => rfl
    | true =>
      by_cases h2 : N ≤ i
      · have h3 := g i hi h1 h2
        have h4 : ¬ tb r i = true := fun z => h3 ((hr i hi).mp z)
        have h5 : tb r i = false := by simpa using h4
        rw [h5]
        simp
      · rw [decide_eq_false h2]
        rfl
set_option maxHeartbeats 2000000 in
theorem v_X4_hasPlace_0 {K : Sh} {x : Cn} {Q : Int32 → Cn → Prop} {b0 : Nat} {l1 : Int32} {l2 : Int32} {l3 : Int32} {l4 : Int32} {l5 : Int32} {b0_5 : Nat} {n_b0_5 : Nat} (k_b0 : kk K b0 = some (4, 0)) (g_b0_5 : gr x b0 5 = some b0_5) (k_b0_5 : kk K b0_5 = some (20, n_b0_5)) (K0 : vp_in l2 n_b0_5 ∧ (mSI mX4_weeksLoaded [.ref b0, .int l1, .int l2, .int (gi x b0_5 (l2 : Int32).toNatClampNeg), .int 0, .int l5] K x (fun r_3 y_2 => (((l4 &&& (f_bf (gi x b0 1))) &&& r_3) = 0 → ((l3 = 1 → (Q 1 y_2)) ∧ (¬ l3 = 1 → (∃ c_6 : Nat, gr y_2 b0 6 = some c_6 ∧ (∃ n_9 : Nat, kk K c_6 = some (20, n_9) ∧ (vp_in l2 n_9 ∧ (mSI mX4_weeksLoaded [.ref b0, .int l1, .int l2, .int (gi y_2 c_6 (l2 : Int32).toNatClampNeg), .int 1, .int l5] K y_2 (fun r_12 y_11 => (¬ ((l4 &&& (f_bf (gi x b0 1))) &&& r_12) = 0 → (Q 0 y_11)) ∧ (((l4 &&& (f_bf (gi x b0 1))) &&& r_12) = 0 → (Q 1 y_11)))))))))) ∧ (¬ ((l4 &&& (f_bf (gi x b0 1))) &&& r_3) = 0 → (Q 0 y_2))))) : mSI mX4_hasPlace [.ref b0, .int l1, .int l2, .int l3, .int l4, .int l5] K x Q := by
  refine s_I (by decide) (by simp [Value.category]) (Nat.le_of_ble_eq_true rfl) ?_
  show mGM mX4_hasPlace 0 [some (.ref b0), some (.int l1), some (.int l2), some (.int l3), some (.int l4), some (.int l5), none] [] (hp K x) (PI K Q)
  refine r_iload (pc := 0) dX4_hasPlace_0 rfl ?_
  refine r_aload_n (pc := 2) dX4_hasPlace_2 rfl ?_
  refine s_getI (pc := 3) dX4_hasPlace_3 fl_X4_15 rfl k_b0 ?_
  refine s_SNI (pc := 6) mX7_bitsFrom (As := [.int (gi x b0 1)]) dX4_hasPlace_6 nl_X4_92 st_X7_bitsFrom mo_X7_bitsFrom ⟨by decide, by decide⟩ (Nat.le_of_ble_eq_true rfl) (sp_X7_bitsFrom  ?_)
  refine r_iand (pc := 9) dX4_hasPlace_9 ?_
  refine r_istore (pc := 10) dX4_hasPlace_10 (by decide) ?_
  refine r_iload (pc := 12) (L := [some (.ref b0), some (.int l1), some (.int l2), some (.int l3), some (.int l4), some (.int l5), some (.int (l4 &&& (f_bf (gi x b0 1))))]) dX4_hasPlace_12 rfl ?_
  refine r_aload_n (pc := 14) dX4_hasPlace_14 rfl ?_
  refine r_iload_n (pc := 15) dX4_hasPlace_15 rfl ?_
  refine r_iload_n (pc := 16) dX4_hasPlace_16 rfl ?_
  refine r_aload_n (pc := 17) dX4_hasPlace_17 rfl ?_
  refine s_getR (pc := 18) dX4_hasPlace_18 fl_X4_27 rfl k_b0 g_b0_5 ?_
  refine r_iload_n (pc := 21) dX4_hasPlace_21 rfl ?_
  obtain ⟨i_1, K0⟩ := K0
  refine s_iald (pc := 22) dX4_hasPlace_22 k_b0_5 i_1 ?_
  refine r_iconst (pc := 23) (v := 0) dX4_hasPlace_23 (by decide) ?_
  refine r_iload (pc := 24) dX4_hasPlace_24 rfl ?_
  refine s_VI (pc := 26) mX4_weeksLoaded (ci := 4) (a := b0) (As := [.int l1, .int l2, .int (gi x b0_5 (l2 : Int32).toNatClampNeg), .int 0, .int l5]) dX4_hasPlace_26 lk_X4_96 in_X4_weeksLoaded mo_X4_weeksLoaded ⟨by decide, rfl⟩ ⟨by decide, by decide⟩ (Nat.le_of_ble_eq_true rfl) k_b0 (mSI_mono K0 (fun r_3 y_2 K0 => ?_))
  refine r_iand (pc := 29) dX4_hasPlace_29 ?_
  refine r_if_eq (pc := 30) (tgt := 35) dX4_hasPlace_30 (by decide) (fun q => ?_) (fun q => ?_)
  · have K0 := K0.1 q
    refine r_iload_n (pc := 35) dX4_hasPlace_35 rfl ?_
    refine r_iconst (pc := 36) (v := 1) dX4_hasPlace_36 (by decide) ?_
    refine r_icmp_eq (pc := 37) (tgt := 61) dX4_hasPlace_37 (by decide) (fun q => ?_) (fun q => ?_)
    · have K0 := K0.1 q
      refine r_iconst (pc := 61) (v := 1) dX4_hasPlace_61 (by decide) ?_
      refine r_goto (pc := 62) (tgt := 66) dX4_hasPlace_62 (by decide) ?_
      exact s_zret rfl (by decide) dX4_hasPlace_66 K0
    · have K0 := K0.2 q
      refine r_iload (pc := 40) dX4_hasPlace_40 rfl ?_
      refine r_aload_n (pc := 42) dX4_hasPlace_42 rfl ?_
      refine r_iload_n (pc := 43) dX4_hasPlace_43 rfl ?_
      refine r_iload_n (pc := 44) dX4_hasPlace_44 rfl ?_
      refine r_aload_n (pc := 45) dX4_hasPlace_45 rfl ?_
      obtain ⟨c_6, g_7, K0⟩ := K0
      refine s_getR (pc := 46) dX4_hasPlace_46 fl_X4_31 rfl k_b0 g_7 ?_
      refine r_iload_n (pc := 49) dX4_hasPlace_49 rfl ?_
      obtain ⟨n_9, e_8, K0⟩ := K0
      obtain ⟨i_10, K0⟩ := K0
      refine s_iald (pc := 50) dX4_hasPlace_50 e_8 i_10 ?_
      refine r_iconst (pc := 51) (v := 1) dX4_hasPlace_51 (by decide) ?_
      refine r_iload (pc := 52) dX4_hasPlace_52 rfl ?_
      refine s_VI (pc := 54) mX4_weeksLoaded (ci := 4) (a := b0) (As := [.int l1, .int l2, .int (gi y_2 c_6 (l2 : Int32).toNatClampNeg), .int 1, .int l5]) dX4_hasPlace_54 lk_X4_96 in_X4_weeksLoaded mo_X4_weeksLoaded ⟨by decide, rfl⟩ ⟨by decide, by decide⟩ (Nat.le_of_ble_eq_true rfl) k_b0 (mSI_mono K0 (fun r_12 y_11 K0 => ?_))
      refine r_iand (pc := 57) dX4_hasPlace_57 ?_
      refine r_if_ne (pc := 58) (tgt := 65) dX4_hasPlace_58 (by decide) (fun q => ?_) (fun q => ?_)
      · have K0 := K0.1 q
        refine r_iconst (pc := 65) (v := 0) dX4_hasPlace_65 (by decide) ?_
        exact s_zret rfl (by decide) dX4_hasPlace_66 K0
      · have K0 := K0.2 q
        refine r_iconst (pc := 61) (v := 1) dX4_hasPlace_61 (by decide) ?_
        refine r_goto (pc := 62) (tgt := 66) dX4_hasPlace_62 (by decide) ?_
        exact s_zret rfl (by decide) dX4_hasPlace_66 K0
  · have K0 := K0.2 q
    refine r_iconst (pc := 33) (v := 0) dX4_hasPlace_33 (by decide) ?_
    exact s_zret rfl (by decide) dX4_hasPlace_34 K0
section
variable {x : Cn} {Q : Int32 → Cn → Prop} {q : Nat} {T : TT} {W C S A N : Nat}
theorem sp_X4_hasPlace (E : SEA x q T W C S A N) {d way bits wo : Int32} {h : Nat} (hh : h < 24) (k : ∀ y, EQx x y (q + 5) → Q (bP (fitC T S N d h way bits wo)) y) : mSI mX4_hasPlace [.ref q, .int d, .int (nI h), .int way, .int bits, .int wo] KW x Q := by
  have hn := E.nums
  have hl := E.2.2.1.2.2.2.2.2.1 h hh
  refine v_X4_hasPlace_0 (ks0 E.1) E.2.1.1 (ks1 E.1) ⟨vp_in_nI hh (by decide), ?_⟩
  rw [nI_clamp (show h < 2 ^ 31 by omega), hl.1, hn.2.1]
  refine sp_X4_weeksLoaded E (fun r y hy hr => ?_)
  have E2 := E.eqx hy (Or.inl rfl)
  have hl2 := E2.2.2.1.2.2.2.2.2.1 h hh
  refine ⟨fun z => ?_, fun z => ?_⟩
  · have g1 := (and3_0 (by omega) hr).mp z
    refine ⟨fun w => (bP_k (k y hy)).1 (fun i hi h1 h2 => ⟨g1 i hi h1 h2, fun u => absurd w u⟩), fun w => ⟨q + 2, E2.2.1.2.1, 24, ks2 E.1, vp_in_nI hh (by decide), ?_⟩⟩
    rw [hl2.2]
    refine sp_X4_weeksLoaded E2 (fun r2 y2 hy2 hr2 => ⟨fun z2 => ?_, fun z2 => ?_⟩)
    · have := k y2 (hy.tr hy2)
      rwa [bP_f (fun f => z2 ((and3_0 (by omega) hr2).mpr (fun i hi h1 h2 => (f i hi h1 h2).2 w)))] at this
    · have g2 := (and3_0 (by omega) hr2).mp z2
      exact (bP_k (k y2 (hy.tr hy2))).1 (fun i hi h1 h2 => ⟨g1 i hi h1 h2, fun _ => g2 i hi h1 h2⟩)
  · have := k y hy
    rwa [bP_f (fun f => z ((and3_0 (by omega) hr).mpr (fun i hi h1 h2 => (f i hi h1 h2).1)))] at this
end
end
/-! 31.rel.lean.txt -/
section
/-! class and reference agree -/
def CRf (x : Cn) : Prop := gr x 0 0 = some 1 ∧ gr x 0 2 = some 2 ∧ gr x 0 3 = some 56 ∧ gr x 0 4 = some 58 ∧ gr x 0 6 = some 59 ∧ gr x 0 9 = some 117 ∧ gr x 0 10 = some 175 ∧ gr x 56 1 = some 57 ∧ gr x 59 0 = some 60 ∧ gr x 59 1 = some 114 ∧ (gr x 59 5 = some 116 ∨ gr x 59 5 = some 1) ∧ gr x 114 1 = some 115 ∧ gr x 117 0 = some 118 ∧ gr x 117 1 = some 172 ∧ gr x 117 2 = some 173 ∧ gr x 117 3 = some 174 ∧ gr x 175 0 = some 176 ∧ SRf x 60 ∧ SRf x 118 ∧ (∀ j, j < 10 → SRf x (177 + 54 * j)) ∧ (∀ i, i < 10 → ∃ j, j < 10 ∧ gr x 58 i = some (177 + 54 * j)) ∧ ∀ i j, i < 10 → j < 10 → gr x 58 i = gr x 58 j → i = j
/-- names of carriers: six letters each, and one number of the row -/
def NMr (x : Cn) (nb : Nat) (T : TT) (C : Nat) : Prop := gi x nb 0 = nI C ∧ ∀ c, c < C → ∃ v, (0 < v ∧ v < 387420489) ∧ T (54 + c) = nI v ∧ ∀ i, i < 6 → gi x (nb + 1) (6 * c + i) = nI (v / 27 ^ (5 - i) % 27)
def HSr (x : Cn) (T : TT) (C : Nat) : Prop := ∃ n, n ≤ 10 ∧ gi x 717 19 = nI n ∧ gi x 0 5 = nI n ∧ ∀ j, j < n → ∃ q W S A N, gr x 58 j = some q ∧ SEA x q (fun i => gi x 724 (518 * j + i)) W C S A N ∧ ∀ c, c < C → gi x 724 (518 * j + (54 + c)) = T (54 + c)
def isB (v : Int32) : Prop := v.toInt8.toInt32 = v
def TPr (x : Cn) : Prop := ∃ n, n ≤ 1200 ∧ gi x 0 1 = nI n ∧ gi x 717 5 = nI n ∧ ∀ i, i < n → gi x 1 i = gi x 720 i ∧ isB (gi x 720 i)
def OUr (x : Cn) : Prop := ∃ n, n ≤ 2400 ∧ gi x 175 1 = nI n ∧ gi x 717 22 = nI n ∧ ∀ i, i < n → gi x 176 i = gi x 725 i
def Rel (x : Cn) : Prop := CRf x ∧ MRf x 718 ∧ (True ∧ True) ∧ TPr x ∧ OUr x ∧ ∃ W C S A N, SEA x 2 (gi x 718) W C S A N ∧ NMr x 56 (gi x 718) C ∧ HSr x (gi x 718) C
/-- cells that only a call's own work uses -/
def scr (a k : Nat) : Prop := a = 7 ∨ (59 ≤ a ∧ a ≤ 174) ∨ (∃ j, j < 10 ∧ a = 177 + 54 * j + 5) ∨ a = 719 ∨ a = 721 ∨ a = 722 ∨ a = 723 ∨ (a = 717 ∧ (k = 6 ∨ k = 7 ∨ k = 8 ∨ k = 9 ∨ k = 10 ∨ k = 13 ∨ k = 14 ∨ k = 18))
def Kp (x y : Cn) : Prop := y.2 = x.2 ∧ ∀ a k, ¬ scr a k → gi y a k = gi x a k
theorem Kp.rf (x : Cn) : Kp x x := ⟨rfl, fun _ _ _ => rfl⟩
theorem Kp.tr {x y z : Cn} (h : Kp x y) (g : Kp y z) : Kp x z := ⟨g.1.trans h.1, fun a k hk => (g.2 a k hk).trans (h.2 a k hk)⟩
theorem Kp.of {x y : Cn} {a : Nat} (h : EQx x y a) (ha : ∀ k, scr a k) : Kp x y := ⟨h.1, fun b k hk => h.2 b k (fun z => hk (by rw [z]; exact ha k))⟩
theorem SEA.keep {x y : Cn} {q : Nat} {T : TT} {W C S A N : Nat} (E : SEA x q T W C S A N) (h1 : y.2 = x.2) (h2 : ∀ a k, q ≤ a → a < q + 54 → a ≠ q + 5 → gi y a k = gi x a k) : SEA y q T W C S A N := by
  obtain ⟨e1, e2, ⟨v0, v1, v2, v3, v4, v5, v6, v7⟩, e4⟩ := E
  have hg : ∀ b k, gr y b k = gr x b k := fun b k => by unfold gr; rw [h1]
  have hr := e2
  obtain ⟨r1, r2, r3, r4, r5, r6, r7, r8, r9⟩ := e2
  refine ⟨e1, ?_, ⟨?_, ?_, ?_, ?_, ?_, ?_, ?_, ?_⟩, e4⟩
  · unfold SRf at hr ⊢
    simp only [hg]
    exact hr
  · rw [h2 q 0 (by omega) (by omega) (by omega)]; exact v0
  · rw [h2 q 1 (by omega) (by omega) (by omega)]; exact v1
  · rw [h2 q 2 (by omega) (by omega) (by omega)]; exact v2
  · rw [h2 q 3 (by omega) (by omega) (by omega)]; exact v3
  · rw [h2 q 4 (by omega) (by omega) (by omega)]; exact v4
  · intro hh h24
    rw [h2 (q + 1) hh (by omega) (by omega) (by omega), h2 (q + 2) hh (by omega) (by omega) (by omega)]
    exact v5 hh h24
  · intro s p hs hp
    rw [hg] at hp
    have h0 := v6 s p hs hp
    obtain ⟨j, hj, ej⟩ := r6 s (by have := e4.2.2.2.2.2.2.1; omega)
    have hpe : p = q + 6 + j := Option.some.inj (hp.symm.trans ej)
    exact ⟨fun k h3 h4 => by rw [h2 p k (by omega) (by omega) (by omega)]; exact h0.1 k h3 h4, by rw [h2 p 7 (by omega) (by omega) (by omega)]; exact h0.2⟩
  · intro s p hs hp
    rw [hg] at hp
    have h0 := v7 s p hs hp
    obtain ⟨j, hj, ej⟩ := r8 s (by have := e4.2.2.2.2.2.2.2.2.1; omega)
    have hpe : p = q + 30 + j := Option.some.inj (hp.symm.trans ej)
    exact fun k h3 => by rw [h2 p k (by omega) (by omega) (by omega)]; exact h0 k h3
theorem SRf.keep {x y : Cn} {q : Nat} (h : SRf x q) (e : y.2 = x.2) : SRf y q := by
  have hg : ∀ b k, gr y b k = gr x b k := fun b k => by unfold gr; rw [e]
  unfold SRf at h ⊢
  simp only [hg]
  exact h
theorem CRf.keep {x y : Cn} (h : CRf x) (e : y.2 = x.2) : CRf y := by
  have hg : ∀ b k, gr y b k = gr x b k := fun b k => by unfold gr; rw [e]
  unfold CRf SRf at h ⊢
  simp only [hg]
  exact h
theorem MRf.keep {x y : Cn} {t : Nat} (h : MRf x t) (e : y.2 = x.2) : MRf y t := by
  have hg : ∀ b k, gr y b k = gr x b k := fun b k => by unfold gr; rw [e]
  unfold MRf at h ⊢
  simp only [hg]
  exact h
theorem nscr {a k : Nat} (h : a < 7 ∨ (8 ≤ a ∧ a < 59) ∨ a = 175 ∨ a = 176 ∨ a = 718 ∨ a = 720 ∨ a = 724 ∨ a = 725 ∨ (a = 717 ∧ (k = 5 ∨ k = 11 ∨ k = 12 ∨ k = 19 ∨ k = 22))) : ¬ scr a k := by
  unfold scr
  rintro (z | z | ⟨j, hj, z⟩ | z | z | z | z | z) <;> omega
theorem Rel.keep {x y : Cn} (R : Rel x) (h : Kp x y) : Rel y := by
  obtain ⟨r1, r2, r3, ⟨n4, r4, r5, r6, r7⟩, ⟨n8, r8, r9, r10, r11⟩, W, C, S, A, N, r12, r13, n14, r14, r15, r16, r17⟩ := R
  have hg : ∀ b k, gr y b k = gr x b k := fun b k => by unfold gr; rw [h.1]
  have eT : gi y 718 = gi x 718 := by funext k; exact h.2 718 k (nscr (by omega))
  refine ⟨r1.keep h.1, r2.keep h.1, ?_, ⟨n4, r4, ?_, ?_, fun i hi => ?_⟩, ⟨n8, r8, ?_, ?_, fun i hi => ?_⟩, W, C, S, A, N, ?_, ⟨?_, fun c hc => ?_⟩, n14, r14, ?_, ?_, fun j hj => ?_⟩
  · exact r3
  · rw [h.2 0 1 (nscr (by omega))]; exact r5
  · rw [h.2 717 5 (nscr (by omega))]; exact r6
  · rw [h.2 1 i (nscr (by omega)), h.2 720 i (nscr (by omega))]; exact r7 i hi
  · rw [h.2 175 1 (nscr (by omega))]; exact r9
  · rw [h.2 717 22 (nscr (by omega))]; exact r10
  · rw [h.2 176 i (nscr (by omega)), h.2 725 i (nscr (by omega))]; exact r11 i hi
  · rw [eT]
    exact r12.keep h.1 (fun a k h1 h2 h3 => h.2 a k (nscr (by omega)))
  · rw [h.2 56 0 (nscr (by omega))]; exact r13.1
  · obtain ⟨v, v1, v2, v3⟩ := r13.2 c hc
    rw [eT]
    exact ⟨v, v1, v2, fun i hi => by rw [h.2 57 _ (nscr (by omega))]; exact v3 i hi⟩
  · rw [h.2 717 19 (nscr (by omega))]; exact r15
  · rw [h.2 0 5 (nscr (by omega))]; exact r16
  · obtain ⟨q, W2, S2, A2, N2, q1, q2, q3⟩ := r17 j hj
    obtain ⟨i, hi, ei⟩ := r1.2.2.2.2.2.2.2.2.2.2.2.2.2.2.2.2.2.2.2.2.1 j (by omega)
    have hq : q = 177 + 54 * i := Option.some.inj (q1.symm.trans ei)
    have eT2 : (fun i => gi y 724 (518 * j + i)) = fun i => gi x 724 (518 * j + i) := by funext k; exact h.2 724 _ (nscr (by omega))
    refine ⟨q, W2, S2, A2, N2, by rw [hg]; exact q1, ?_, fun c hc => ?_⟩
    · rw [eT2]
      refine q2.keep h.1 (fun a k h1 h2 h3 => h.2 a k ?_)
      unfold scr
      rintro (z | z | ⟨j2, hj2, z⟩ | z | z | z | z | z) <;> omega
    · rw [eT, h.2 724 _ (nscr (by omega))]
      exact q3 c hc
/-- what the two must do alike -/
def Both (mx mm : MR) (a : List Value) : Prop := ∀ x, Rel x → mSI mx (.ref 0 :: a) KW x (fun r y => mSI mm (.ref 717 :: a) KW y (fun r' z => r = r' ∧ Rel z))
/-- what both must keep -/
def BothK (mx mm : MR) (a : List Value) : Prop := ∀ x, Rel x → mSI mx (.ref 0 :: a) KW x (fun _ y => mSI mm (.ref 717 :: a) KW y (fun _ z => Rel z))
theorem Both.k {mx mm : MR} {a : List Value} (h : Both mx mm a) : BothK mx mm a := fun x R => mSI_mono (h x R) (fun _ _ q => mSI_mono q (fun _ _ w => w.2))
theorem k0 : kk KW 0 = some (7, 0) := by decide
theorem Rel.sea {x : Cn} (R : Rel x) : ∃ W C S A N, SEA x 2 (gi x 718) W C S A N ∧ NMr x 56 (gi x 718) C ∧ HSr x (gi x 718) C := R.2.2.2.2.2
theorem Rel.t2 {x : Cn} {W C S A N : Nat} (E : SEA x 2 (gi x 718) W C S A N) : gi x 718 0 = nI W ∧ gi x 718 1 = nI C ∧ gi x 718 2 = nI S ∧ gi x 718 3 = nI A ∧ gi x 718 4 = nI N := ⟨E.2.2.2.1, E.2.2.2.2.2.2.1, E.2.2.2.2.2.2.2.2.1, E.2.2.2.2.2.2.2.2.2.2.1, E.2.2.2.2.2.2.2.2.2.2.2.2.1⟩
end
/-! 32.reads1.lean.txt -/
section
/-! loops: a step for each number, an end -/
def lpR {σ : Type} (step : Nat → σ → σ ⊕ Int32) (fin : σ → Int32) : Nat → Nat → σ → Int32
  | 0, _, a => fin a
  | n + 1, s, a => match step s a with
    | .inl a' => lpR step fin n (s + 1) a'
    | .inr r => r
theorem lp_gen {σ : Type} (step : Nat → σ → σ ⊕ Int32) (fin : σ → Int32) (G : Nat → σ → Prop) (Qr : Int32 → Prop) (S : Nat) (hend : ∀ a, Qr (fin a) → G S a) (hstep : ∀ s a, s < S → (∀ a', step s a = .inl a' → G (s + 1) a') → (∀ r, step s a = .inr r → Qr r) → G s a) : ∀ (n s : Nat) (a : σ), s + n = S → Qr (lpR step fin n s a) → G s a := by
  intro n
  induction n with
  | zero =>
    intro s a hs k
    have : s = S := by omega
    subst this
    exact hend a k
  | succ n ih =>
    intro s a hs k
    refine hstep s a (by omega) (fun a' e => ih (s + 1) a' (by omega) ?_) (fun r e => ?_)
    · simp only [lpR, e] at k
      exact k
    · simp only [lpR, e] at k
      exact k
theorem cell_iff {x : Cn} {T : TT} {W : Nat} {l1 l2 l3 : Int32} {g : Int32} (hW : W ≤ 30) (hg : g = nI W) (hT : T 0 = nI W) : (0 ≤ l1 ∧ l1 ≤ T 0 - 1 ∧ 0 < T 0 ∧ 0 ≤ l2 ∧ l2 ≤ 6 ∧ 0 ≤ l3 ∧ l3 ≤ 23) ↔ (0 ≤ l1 ∧ l1 < g ∧ 0 < g ∧ 0 ≤ l2 ∧ l2 < 7 ∧ 0 ≤ l3 ∧ l3 < 24) := by
  have a1 := inN' (v := l1) (n := W) (by omega)
  have a2 := inN' (v := l2) (n := 7) (by decide)
  have a3 := inN' (v := l3) (n := 24) (by decide)
  rw [show nI 7 - 1 = (6 : Int32) by decide, show nI 7 = (7 : Int32) by decide] at a2
  rw [show nI 24 - 1 = (23 : Int32) by decide, show nI 24 = (24 : Int32) by decide] at a3
  rw [hT, hg]
  exact ⟨fun ⟨z1, z2, z3, z4, z5, z6, z7⟩ => ⟨z1, (a1.mp ⟨z1, z2⟩).2, z3, z4, (a2.mp ⟨z4, z5⟩).2, z6, (a3.mp ⟨z6, z7⟩).2⟩, fun ⟨z1, z2, z3, z4, z5, z6, z7⟩ => ⟨z1, (a1.mpr ⟨z1, z2⟩).2, z3, z4, (a2.mpr ⟨z4, z5⟩).2, z6, (a3.mpr ⟨z6, z7⟩).2⟩⟩
theorem v0 {k N : Nat} {v : Int32} (hk : v = nI k) (h : Nat.blt k N = true) (hN : Nat.ble N 100000 = true) : vp_in v N := iv0 k N hk (Nat.le_of_ble_eq_true h) (by have := Nat.le_of_ble_eq_true hN; omega)
set_option maxHeartbeats 2000000 in
theorem v_X5_bitsThatAre_0 {K : Sh} {x : Cn} {Q : Int32 → Cn → Prop} {b0 : Nat} {l1 : Int32}  (k_b0 : kk K b0 = some (5, 0)) (K0 : (l1 = 1 → (Q (gi x b0 8) x)) ∧ (l1 = 2 → (Q (gi x b0 9) x)) ∧ (l1 = 3 → (Q (gi x b0 10) x)) ∧ (l1 = 4 → (Q (gi x b0 11) x)) ∧ ((¬ l1 = 1 ∧ ¬ l1 = 2 ∧ ¬ l1 = 3 ∧ ¬ l1 = 4) → (Q (f_open x b0) x))) : mSI mX5_bitsThatAre [.ref b0, .int l1] K x Q := by
  refine s_I (by decide) (by simp [Value.category]) (Nat.le_of_ble_eq_true rfl) ?_
  show mGM mX5_bitsThatAre 0 [some (.ref b0), some (.int l1)] [] (hp K x) (PI K Q)
  refine r_iload_n (pc := 0) dX5_bitsThatAre_0 rfl ?_
  by_cases q1 : l1 = 1
  · have K0 := K0.1 q1
    refine r_tabIn (pc := 1) (tgt := 32) (off := 31) dX5_bitsThatAre_1 (by rw [q1]; decide) (by rw [q1]; decide) (by rw [q1]; decide) (by decide) ?_
    refine r_aload_n (pc := 32) dX5_bitsThatAre_32 rfl ?_
    refine s_getI (pc := 33) dX5_bitsThatAre_33 fl_X5_37 rfl k_b0 ?_
    exact s_iret rfl dX5_bitsThatAre_36 K0
  have K0 := K0.2
  by_cases q2 : l1 = 2
  · have K0 := K0.1 q2
    refine r_tabIn (pc := 1) (tgt := 37) (off := 36) dX5_bitsThatAre_1 (by rw [q2]; decide) (by rw [q2]; decide) (by rw [q2]; decide) (by decide) ?_
    refine r_aload_n (pc := 37) dX5_bitsThatAre_37 rfl ?_
    refine s_getI (pc := 38) dX5_bitsThatAre_38 fl_X5_40 rfl k_b0 ?_
    exact s_iret rfl dX5_bitsThatAre_41 K0
  have K0 := K0.2
  by_cases q3 : l1 = 3
  · have K0 := K0.1 q3
    refine r_tabIn (pc := 1) (tgt := 42) (off := 41) dX5_bitsThatAre_1 (by rw [q3]; decide) (by rw [q3]; decide) (by rw [q3]; decide) (by decide) ?_
    refine r_aload_n (pc := 42) dX5_bitsThatAre_42 rfl ?_
    refine s_getI (pc := 43) dX5_bitsThatAre_43 fl_X5_43 rfl k_b0 ?_
    exact s_iret rfl dX5_bitsThatAre_46 K0
  have K0 := K0.2
  by_cases q4 : l1 = 4
  · have K0 := K0.1 q4
    refine r_tabIn (pc := 1) (tgt := 47) (off := 46) dX5_bitsThatAre_1 (by rw [q4]; decide) (by rw [q4]; decide) (by rw [q4]; decide) (by decide) ?_
    refine r_aload_n (pc := 47) dX5_bitsThatAre_47 rfl ?_
    refine s_getI (pc := 48) dX5_bitsThatAre_48 fl_X5_46 rfl k_b0 ?_
    exact s_iret rfl dX5_bitsThatAre_51 K0
  have K0 := K0.2
  have K0 := K0 ⟨q1, q2, q3, q4⟩
  refine r_tabOut (pc := 1) (tgt := 52) dX5_bitsThatAre_1 (by have z1 : ¬ Int32.toInt (l1) = 1 := fun z => q1 (Int32.toInt_inj.mp (z.trans (by decide))); have z2 : ¬ Int32.toInt (l1) = 2 := fun z => q2 (Int32.toInt_inj.mp (z.trans (by decide))); have z3 : ¬ Int32.toInt (l1) = 3 := fun z => q3 (Int32.toInt_inj.mp (z.trans (by decide))); have z4 : ¬ Int32.toInt (l1) = 4 := fun z => q4 (Int32.toInt_inj.mp (z.trans (by decide))); omega) (by decide) ?_
  refine r_aload_n (pc := 52) dX5_bitsThatAre_52 rfl ?_
  refine s_VI (pc := 53) mX5_openBits (ci := 5) (a := b0) (As := []) dX5_bitsThatAre_53 lk_X5_57 in_X5_openBits mo_X5_openBits ⟨by decide, rfl⟩ ⟨by decide, by decide⟩ (Nat.le_of_ble_eq_true rfl) k_b0 (sp_X5_openBits k_b0 ?_)
  exact s_iret rfl dX5_bitsThatAre_56 K0
section
theorem sp_X5_bitsThatAre {x : Cn} {Q : Int32 → Cn → Prop} {p : Nat} {T : TT} {C W s : Nat} (h1 : kk KW p = some (5, 0)) (h2 : SER x p T s) (h3 : Wse T C W s) {k : Nat} (hk : k < 5) (q : Q (so T s (7 + k)) x) : mSI mX5_bitsThatAre [.ref p, .int (nI k)] KW x Q := by
  refine v_X5_bitsThatAre_0 h1 ?_
  rw [h2.1 8 (by decide) (by decide), h2.1 9 (by decide) (by decide), h2.1 10 (by decide) (by decide), h2.1 11 (by decide) (by decide), h2.opn h3]
  have hk' : k = 0 ∨ k = 1 ∨ k = 2 ∨ k = 3 ∨ k = 4 := by omega
  rcases hk' with rfl | rfl | rfl | rfl | rfl
  · exact ⟨fun z => absurd z (by decide), fun z => absurd z (by decide), fun z => absurd z (by decide), fun z => absurd z (by decide), fun _ => q⟩
  · exact ⟨fun _ => q, fun z => absurd z (by decide), fun z => absurd z (by decide), fun z => absurd z (by decide), fun z => absurd (by decide) z.1⟩
  · exact ⟨fun z => absurd z (by decide), fun _ => q, fun z => absurd z (by decide), fun z => absurd z (by decide), fun z => absurd (by decide) z.2.1⟩
  · exact ⟨fun z => absurd z (by decide), fun z => absurd z (by decide), fun _ => q, fun z => absurd z (by decide), fun z => absurd (by decide) z.2.2.1⟩
  · exact ⟨fun z => absurd z (by decide), fun z => absurd z (by decide), fun z => absurd z (by decide), fun _ => q, fun z => absurd (by decide) z.2.2.2⟩
/-- the state of a week: the first kind that has it -/
def stt (T : TT) (s w : Nat) : Int32 := lpR (σ := Unit) (fun k _ => if tb (so T s (7 + k)) w = true then .inr (nI k) else .inl ()) (fun _ => -1) 5 0 ()
end
set_option maxHeartbeats 2000000 in
theorem v_X5_stateOf_0 {K : Sh} {x : Cn} {Q : Int32 → Cn → Prop} {b0 : Nat} {l1 : Int32}   (K0 : GI mX5_stateOf 2 [some (.ref b0), some (.int l1), some (.int 0)] [] K x Q) : mSI mX5_stateOf [.ref b0, .int l1] K x Q := by
  refine s_I (by decide) (by simp [Value.category]) (Nat.le_of_ble_eq_true rfl) ?_
  show mGM mX5_stateOf 0 [some (.ref b0), some (.int l1), none] [] (hp K x) (PI K Q)
  refine r_iconst (pc := 0) (v := 0) dX5_stateOf_0 (by decide) ?_
  refine r_istore_n (pc := 1) dX5_stateOf_1 (by decide) ?_
  exact r_le (L' := [some (.ref b0), some (.int l1), some (.int 0)]) ⟨rfl, ⟨rfl, ⟨rfl, trivial⟩⟩⟩ K0
set_option maxHeartbeats 2000000 in
theorem v_X5_stateOf_2 {K : Sh} {x : Cn} {Q : Int32 → Cn → Prop} {b0 : Nat} {l1 : Int32} {l2 : Int32}  (k_b0 : kk K b0 = some (5, 0)) (K0 : (4 < l2 → (Q (-1) x)) ∧ (¬ 4 < l2 → (mSI mX5_bitsThatAre [.ref b0, .int l2] K x (fun r_3 y_2 => (¬ (f_bit r_3 l1) → (GI mX5_stateOf 2 [some (.ref b0), some (.int l1), some (.int (l2 + 1))] [] K y_2 Q)) ∧ ((f_bit r_3 l1) → (Q l2 y_2)))))) : GI mX5_stateOf 2 [some (.ref b0), some (.int l1), some (.int l2)] [] K x Q := by
  show mGM mX5_stateOf 2 [some (.ref b0), some (.int l1), some (.int l2)] [] (hp K x) (PI K Q)
  refine r_iload_n (pc := 2) dX5_stateOf_2 rfl ?_
  refine r_iconst (pc := 3) (v := 4) dX5_stateOf_3 (by decide) ?_
  refine r_icmp_gt (pc := 4) (tgt := 27) dX5_stateOf_4 (by decide) (fun q => ?_) (fun q => ?_)
  · have K0 := K0.1 q
    refine r_iconst (pc := 27) (v := (-1)) dX5_stateOf_27 (by decide) ?_
    exact s_iret rfl dX5_stateOf_28 K0
  · have K0 := K0.2 q
    refine r_aload_n (pc := 7) dX5_stateOf_7 rfl ?_
    refine r_iload_n (pc := 8) dX5_stateOf_8 rfl ?_
    refine s_VI (pc := 9) mX5_bitsThatAre (ci := 5) (a := b0) (As := [.int l2]) dX5_stateOf_9 lk_X5_61 in_X5_bitsThatAre mo_X5_bitsThatAre ⟨by decide, rfl⟩ ⟨by decide, by decide⟩ (Nat.le_of_ble_eq_true rfl) k_b0 (mSI_mono K0 (fun r_3 y_2 K0 => ?_))
    refine r_iload_n (pc := 12) dX5_stateOf_12 rfl ?_
    refine s_SNI (pc := 13) mX7_hasBit (As := [.int r_3, .int l1]) dX5_stateOf_13 nl_X5_65 st_X7_hasBit mo_X7_hasBit ⟨by decide, by decide⟩ (Nat.le_of_ble_eq_true rfl) (sp_X7_hasBit  ?_)
    refine r_if_eq (pc := 16) (tgt := 21) dX5_stateOf_16 (by decide) (fun q => ?_) (fun q => ?_)
    · have q := (b2i_z _).mp q
      have K0 := K0.1 q
      refine r_iinc (pc := 21) (v := l2 + 1) dX5_stateOf_21 rfl rfl (by decide) ?_
      refine r_goto (pc := 24) (L := [some (.ref b0), some (.int l1), some (.int (l2 + 1))]) (tgt := 2) dX5_stateOf_24 (by decide) ?_
      exact r_le (L' := [some (.ref b0), some (.int l1), some (.int (l2 + 1))]) ⟨rfl, ⟨rfl, ⟨rfl, trivial⟩⟩⟩ K0
    · have q := b2i_nz q
      have K0 := K0.2 q
      refine r_iload_n (pc := 19) dX5_stateOf_19 rfl ?_
      exact s_iret rfl dX5_stateOf_20 K0
section
theorem sp_X5_stateOf {x : Cn} {Q : Int32 → Cn → Prop} {p : Nat} {T : TT} {C W s w : Nat} (hw : w < 32) (h1 : kk KW p = some (5, 0)) (h2 : SER x p T s) (h3 : Wse T C W s) (q : Q (stt T s w) x) : mSI mX5_stateOf [.ref p, .int (nI w)] KW x Q := by
  refine v_X5_stateOf_0 ?_
  refine lp_gen (σ := Unit) _ _ (fun k _ => GI mX5_stateOf 2 [some (.ref p), some (.int (nI w)), some (.int (nI k))] [] KW x Q) (fun r => Q r x) 5 (fun _ k => ?_) (fun k _ hk n1 n2 => ?_) 5 0 () rfl q
  · exact v_X5_stateOf_2 h1 ⟨fun _ => k, fun z => absurd (by decide) z⟩
  · refine v_X5_stateOf_2 h1 ⟨fun z => absurd z (show ¬ nI 4 < nI k from nI_nlt (by omega) (by omega)), fun _ => sp_X5_bitsThatAre h1 h2 h3 hk ?_⟩
    rw [f_bit_tb _ hw, nI_1]
    exact ⟨fun z => n1 () (if_neg z), fun z => n2 _ (if_pos z)⟩
end
set_option maxHeartbeats 2000000 in
theorem v_X8_stateOf_0 {K : Sh} {x : Cn} {Q : Int32 → Cn → Prop} {b0 : Nat} {l1 : Int32} {l2 : Int32}   (K0 : GI mX8_stateOf 2 [some (.ref b0), some (.int l1), some (.int l2), some (.int 0)] [] K x Q) : mSI mX8_stateOf [.ref b0, .int l1, .int l2] K x Q := by
  refine s_I (by decide) (by simp [Value.category]) (Nat.le_of_ble_eq_true rfl) ?_
  show mGM mX8_stateOf 0 [some (.ref b0), some (.int l1), some (.int l2), none] [] (hp K x) (PI K Q)
  refine r_iconst (pc := 0) (v := 0) dX8_stateOf_0 (by decide) ?_
  refine r_istore_n (pc := 1) dX8_stateOf_1 (by decide) ?_
  exact r_le (L' := [some (.ref b0), some (.int l1), some (.int l2), some (.int 0)]) ⟨rfl, ⟨rfl, ⟨rfl, ⟨rfl, trivial⟩⟩⟩⟩ K0
set_option maxHeartbeats 2000000 in
theorem v_X8_stateOf_2 {K : Sh} {x : Cn} {Q : Int32 → Cn → Prop} {b0 : Nat} {l1 : Int32} {l2 : Int32} {l3 : Int32} {b0_3 : Nat} {n_b0_3 : Nat} (k_b0 : kk K b0 = some (8, 0)) (g_b0_3 : gr x b0 3 = some b0_3) (k_b0_3 : kk K b0_3 = some (20, n_b0_3)) (K0 : (5 ≤ l3 → (Q (-1) x)) ∧ (¬ 5 ≤ l3 → ((l24 l1 n_b0_3) ∧ ((l12 (7 + l3)) ∧ ((¬ (f_has (so (gi x b0_3) (l1 : Int32).toNatClampNeg ((7 + l3) : Int32).toNatClampNeg) l2) → (GI mX8_stateOf 2 [some (.ref b0), some (.int l1), some (.int l2), some (.int (l3 + 1))] [] K x Q)) ∧ ((f_has (so (gi x b0_3) (l1 : Int32).toNatClampNeg ((7 + l3) : Int32).toNatClampNeg) l2) → (Q l3 x))))))) : GI mX8_stateOf 2 [some (.ref b0), some (.int l1), some (.int l2), some (.int l3)] [] K x Q := by
  show mGM mX8_stateOf 2 [some (.ref b0), some (.int l1), some (.int l2), some (.int l3)] [] (hp K x) (PI K Q)
  refine r_iload_n (pc := 2) dX8_stateOf_2 rfl ?_
  refine r_iconst (pc := 3) (v := 5) dX8_stateOf_3 (by decide) ?_
  refine r_icmp_ge (pc := 4) (tgt := 31) dX8_stateOf_4 (by decide) (fun q => ?_) (fun q => ?_)
  · have K0 := K0.1 q
    refine r_iconst (pc := 31) (v := (-1)) dX8_stateOf_31 (by decide) ?_
    exact s_iret rfl dX8_stateOf_32 K0
  · have K0 := K0.2 q
    refine r_aload_n (pc := 7) dX8_stateOf_7 rfl ?_
    refine r_iload_n (pc := 8) dX8_stateOf_8 rfl ?_
    refine r_bipush (pc := 9) (v := 7) dX8_stateOf_9 (by decide) ?_
    refine r_iload_n (pc := 11) dX8_stateOf_11 rfl ?_
    refine r_iadd (pc := 12) dX8_stateOf_12 ?_
    obtain ⟨p_2, K0⟩ := K0
    obtain ⟨p_3, K0⟩ := K0
    refine s_VI (pc := 13) mX8_one (ci := 8) (a := b0) (As := [.int l1, .int (7 + l3)]) dX8_stateOf_13 lk_X8_67 in_X8_one mo_X8_one ⟨by decide, rfl⟩ ⟨by decide, by decide⟩ (Nat.le_of_ble_eq_true rfl) k_b0 (sr_X8_one k_b0 g_b0_3 k_b0_3 p_2 p_3 ?_)
    refine r_iload_n (pc := 16) dX8_stateOf_16 rfl ?_
    refine s_SI (pc := 17) mX8_has (As := [.int (so (gi x b0_3) (l1 : Int32).toNatClampNeg ((7 + l3) : Int32).toNatClampNeg), .int l2]) dX8_stateOf_17 lk_X8_75 st_X8_has mo_X8_has ⟨by decide, by decide⟩ (Nat.le_of_ble_eq_true rfl) (sp_X8_has  ?_)
    refine r_if_eq (pc := 20) (tgt := 25) dX8_stateOf_20 (by decide) (fun q => ?_) (fun q => ?_)
    · have q := (b2i_z _).mp q
      have K0 := K0.1 q
      refine r_iinc (pc := 25) (v := l3 + 1) dX8_stateOf_25 rfl rfl (by decide) ?_
      refine r_goto (pc := 28) (L := [some (.ref b0), some (.int l1), some (.int l2), some (.int (l3 + 1))]) (tgt := 2) dX8_stateOf_28 (by decide) ?_
      exact r_le (L' := [some (.ref b0), some (.int l1), some (.int l2), some (.int (l3 + 1))]) ⟨rfl, ⟨rfl, ⟨rfl, ⟨rfl, trivial⟩⟩⟩⟩ K0
    · have q := b2i_nz q
      have K0 := K0.2 q
      refine r_iload_n (pc := 23) dX8_stateOf_23 rfl ?_
      exact s_iret rfl dX8_stateOf_24 K0
section
theorem sp_X8_stateOf {x : Cn} {Q : Int32 → Cn → Prop} {t s w : Nat} (hw : w < 32) (hs : s < 24) (M : MRf x t) (ht : kk KW t = some (20, 518)) (q : Q (stt (gi x t) s w) x) : mSI mX8_stateOf [.ref 717, .int (nI s), .int (nI w)] KW x Q := by
  refine v_X8_stateOf_0 ?_
  refine lp_gen (σ := Unit) _ _ (fun k _ => GI mX8_stateOf 2 [some (.ref 717), some (.int (nI s)), some (.int (nI w)), some (.int (nI k))] [] KW x Q) (fun r => Q r x) 5 (fun _ k => ?_) (fun k _ hk n1 n2 => ?_) 5 0 () rfl q
  · exact v_X8_stateOf_2 km M.2.2.1 ht ⟨fun _ => k, fun z => absurd (by decide) z⟩
  · have e7 : (7 : Int32) + nI k = nI (7 + k) := by rw [show (7 : Int32) = nI 7 by decide, nI_add]
    refine v_X8_stateOf_2 km M.2.2.1 ht ⟨fun z => absurd z (show ¬ nI 5 ≤ nI k from nI_ge (by omega) (by omega)), fun _ => ⟨l24_nI hs rfl, ?_⟩⟩
    rw [e7, nI_clamp (by omega), nI_clamp (by omega), f_has_tb _ hw, nI_1]
    exact ⟨⟨nI_pos' (by omega), nI_lt (b := 12) (by omega) (by decide)⟩, fun z => n1 () (if_neg z), fun z => n2 _ (if_pos z)⟩
end
set_option maxHeartbeats 2000000 in
theorem v_X7_fault_0 {K : Sh} {x : Cn} {Q : Int32 → Cn → Prop} {b0 : Nat} {l1 : Int32}  (k_b0 : kk K b0 = some (7, 0)) (K0 : (¬ l1 = 0 → ((¬ l1 = 1 → (Q (-1) x)) ∧ (l1 = 1 → (Q (gi x b0 8) x)))) ∧ (l1 = 0 → (Q (gi x b0 7) x))) : mSI mX7_fault [.ref b0, .int l1] K x Q := by
  refine s_I (by decide) (by simp [Value.category]) (Nat.le_of_ble_eq_true rfl) ?_
  show mGM mX7_fault 0 [some (.ref b0), some (.int l1)] [] (hp K x) (PI K Q)
  refine r_iload_n (pc := 0) dX7_fault_0 rfl ?_
  refine r_if_ne (pc := 1) (tgt := 9) dX7_fault_1 (by decide) (fun q => ?_) (fun q => ?_)
  · have K0 := K0.1 q
    refine r_iload_n (pc := 9) dX7_fault_9 rfl ?_
    refine r_iconst (pc := 10) (v := 1) dX7_fault_10 (by decide) ?_
    refine r_icmp_ne (pc := 11) (tgt := 21) dX7_fault_11 (by decide) (fun q => ?_) (fun q => ?_)
    · have K0 := K0.1 q
      refine r_iconst (pc := 21) (v := (-1)) dX7_fault_21 (by decide) ?_
      exact s_iret rfl dX7_fault_22 K0
    · have K0 := K0.2 q
      refine r_aload_n (pc := 14) dX7_fault_14 rfl ?_
      refine s_getI (pc := 15) dX7_fault_15 fl_X7_48 rfl k_b0 ?_
      refine r_goto (pc := 18) (tgt := 22) dX7_fault_18 (by decide) ?_
      exact s_iret rfl dX7_fault_22 K0
  · have K0 := K0.2 q
    refine r_aload_n (pc := 4) dX7_fault_4 rfl ?_
    refine s_getI (pc := 5) dX7_fault_5 fl_X7_45 rfl k_b0 ?_
    exact s_iret rfl dX7_fault_8 K0
set_option maxHeartbeats 2000000 in
theorem v_X8_fault_0 {K : Sh} {x : Cn} {Q : Int32 → Cn → Prop} {b0 : Nat} {l1 : Int32}  (k_b0 : kk K b0 = some (8, 0)) (K0 : (¬ l1 = 0 → ((¬ l1 = 1 → (Q (-1) x)) ∧ (l1 = 1 → (Q (gi x b0 12) x)))) ∧ (l1 = 0 → (Q (gi x b0 11) x))) : mSI mX8_fault [.ref b0, .int l1] K x Q := by
  refine s_I (by decide) (by simp [Value.category]) (Nat.le_of_ble_eq_true rfl) ?_
  show mGM mX8_fault 0 [some (.ref b0), some (.int l1)] [] (hp K x) (PI K Q)
  refine r_iload_n (pc := 0) dX8_fault_0 rfl ?_
  refine r_if_ne (pc := 1) (tgt := 11) dX8_fault_1 (by decide) (fun q => ?_) (fun q => ?_)
  · have K0 := K0.1 q
    refine r_iload_n (pc := 11) dX8_fault_11 rfl ?_
    refine r_iconst (pc := 12) (v := 1) dX8_fault_12 (by decide) ?_
    refine r_icmp_ne (pc := 13) (tgt := 23) dX8_fault_13 (by decide) (fun q => ?_) (fun q => ?_)
    · have K0 := K0.1 q
      refine r_iconst (pc := 23) (v := (-1)) dX8_fault_23 (by decide) ?_
      exact s_iret rfl dX8_fault_24 K0
    · have K0 := K0.2 q
      refine r_aload_n (pc := 16) dX8_fault_16 rfl ?_
      refine s_getI (pc := 17) dX8_fault_17 fl_X8_23 rfl k_b0 ?_
      refine r_goto (pc := 20) (tgt := 24) dX8_fault_20 (by decide) ?_
      exact s_iret rfl dX8_fault_24 K0
  · have K0 := K0.2 q
    refine r_aload_n (pc := 4) dX8_fault_4 rfl ?_
    refine s_getI (pc := 5) dX8_fault_5 fl_X8_101 rfl k_b0 ?_
    refine r_goto (pc := 8) (tgt := 24) dX8_fault_8 (by decide) ?_
    exact s_iret rfl dX8_fault_24 K0
set_option maxHeartbeats 2000000 in
theorem v_X7_count_0 {K : Sh} {x : Cn} {Q : Int32 → Cn → Prop} {b0 : Nat} {l1 : Int32} {b0_2 : Nat} {b0_3 : Nat} (k_b0 : kk K b0 = some (7, 0)) (g_b0_2 : gr x b0 2 = some b0_2) (k_b0_2 : kk K b0_2 = some (4, 0)) (g_b0_3 : gr x b0 3 = some b0_3) (k_b0_3 : kk K b0_3 = some (1, 0)) (K0 : (l1 = 0 → (Q (gi x b0_2 0) x)) ∧ (l1 = 1 → (Q (gi x b0_3 0) x)) ∧ (l1 = 2 → (Q (gi x b0_2 3) x)) ∧ (l1 = 3 → (Q (gi x b0_2 4) x)) ∧ (l1 = 4 → (Q (gi x b0_2 1) x)) ∧ (l1 = 5 → (Q (gi x b0_2 2) x)) ∧ (l1 = 6 → (Q (gi x b0 5) x)) ∧ (l1 = 7 → (Q (gi x b0 1) x)) ∧ ((¬ l1 = 0 ∧ ¬ l1 = 1 ∧ ¬ l1 = 2 ∧ ¬ l1 = 3 ∧ ¬ l1 = 4 ∧ ¬ l1 = 5 ∧ ¬ l1 = 6 ∧ ¬ l1 = 7) → (Q (-1) x))) : mSI mX7_count [.ref b0, .int l1] K x Q := by
  refine s_I (by decide) (by simp [Value.category]) (Nat.le_of_ble_eq_true rfl) ?_
  show mGM mX7_count 0 [some (.ref b0), some (.int l1)] [] (hp K x) (PI K Q)
  refine r_iload_n (pc := 0) dX7_count_0 rfl ?_
  by_cases q0 : l1 = 0
  · have K0 := K0.1 q0
    refine r_tabIn (pc := 1) (tgt := 48) (off := 47) dX7_count_1 (by rw [q0]; decide) (by rw [q0]; decide) (by rw [q0]; decide) (by decide) ?_
    refine r_aload_n (pc := 48) dX7_count_48 rfl ?_
    refine s_getR (pc := 49) dX7_count_49 fl_X7_20 rfl k_b0 g_b0_2 ?_
    refine s_getI (pc := 52) dX7_count_52 fl_X7_91 rfl k_b0_2 ?_
    exact s_iret rfl dX7_count_55 K0
  have K0 := K0.2
  by_cases q1 : l1 = 1
  · have K0 := K0.1 q1
    refine r_tabIn (pc := 1) (tgt := 56) (off := 55) dX7_count_1 (by rw [q1]; decide) (by rw [q1]; decide) (by rw [q1]; decide) (by decide) ?_
    refine r_aload_n (pc := 56) dX7_count_56 rfl ?_
    refine s_getR (pc := 57) dX7_count_57 fl_X7_27 rfl k_b0 g_b0_3 ?_
    refine s_getI (pc := 60) dX7_count_60 fl_X7_94 rfl k_b0_3 ?_
    exact s_iret rfl dX7_count_63 K0
  have K0 := K0.2
  by_cases q2 : l1 = 2
  · have K0 := K0.1 q2
    refine r_tabIn (pc := 1) (tgt := 64) (off := 63) dX7_count_1 (by rw [q2]; decide) (by rw [q2]; decide) (by rw [q2]; decide) (by decide) ?_
    refine r_aload_n (pc := 64) dX7_count_64 rfl ?_
    refine s_getR (pc := 65) dX7_count_65 fl_X7_20 rfl k_b0 g_b0_2 ?_
    refine s_getI (pc := 68) dX7_count_68 fl_X7_97 rfl k_b0_2 ?_
    exact s_iret rfl dX7_count_71 K0
  have K0 := K0.2
  by_cases q3 : l1 = 3
  · have K0 := K0.1 q3
    refine r_tabIn (pc := 1) (tgt := 72) (off := 71) dX7_count_1 (by rw [q3]; decide) (by rw [q3]; decide) (by rw [q3]; decide) (by decide) ?_
    refine r_aload_n (pc := 72) dX7_count_72 rfl ?_
    refine s_getR (pc := 73) dX7_count_73 fl_X7_20 rfl k_b0 g_b0_2 ?_
    refine s_getI (pc := 76) dX7_count_76 fl_X7_100 rfl k_b0_2 ?_
    exact s_iret rfl dX7_count_79 K0
  have K0 := K0.2
  by_cases q4 : l1 = 4
  · have K0 := K0.1 q4
    refine r_tabIn (pc := 1) (tgt := 80) (off := 79) dX7_count_1 (by rw [q4]; decide) (by rw [q4]; decide) (by rw [q4]; decide) (by decide) ?_
    refine r_aload_n (pc := 80) dX7_count_80 rfl ?_
    refine s_getR (pc := 81) dX7_count_81 fl_X7_20 rfl k_b0 g_b0_2 ?_
    refine s_getI (pc := 84) dX7_count_84 fl_X7_103 rfl k_b0_2 ?_
    exact s_iret rfl dX7_count_87 K0
  have K0 := K0.2
  by_cases q5 : l1 = 5
  · have K0 := K0.1 q5
    refine r_tabIn (pc := 1) (tgt := 88) (off := 87) dX7_count_1 (by rw [q5]; decide) (by rw [q5]; decide) (by rw [q5]; decide) (by decide) ?_
    refine r_aload_n (pc := 88) dX7_count_88 rfl ?_
    refine s_getR (pc := 89) dX7_count_89 fl_X7_20 rfl k_b0 g_b0_2 ?_
    refine s_getI (pc := 92) dX7_count_92 fl_X7_106 rfl k_b0_2 ?_
    exact s_iret rfl dX7_count_95 K0
  have K0 := K0.2
  by_cases q6 : l1 = 6
  · have K0 := K0.1 q6
    refine r_tabIn (pc := 1) (tgt := 96) (off := 95) dX7_count_1 (by rw [q6]; decide) (by rw [q6]; decide) (by rw [q6]; decide) (by decide) ?_
    refine r_aload_n (pc := 96) dX7_count_96 rfl ?_
    refine s_getI (pc := 97) dX7_count_97 fl_X7_35 rfl k_b0 ?_
    exact s_iret rfl dX7_count_100 K0
  have K0 := K0.2
  by_cases q7 : l1 = 7
  · have K0 := K0.1 q7
    refine r_tabIn (pc := 1) (tgt := 101) (off := 100) dX7_count_1 (by rw [q7]; decide) (by rw [q7]; decide) (by rw [q7]; decide) (by decide) ?_
    refine r_aload_n (pc := 101) dX7_count_101 rfl ?_
    refine s_getI (pc := 102) dX7_count_102 fl_X7_13 rfl k_b0 ?_
    exact s_iret rfl dX7_count_105 K0
  have K0 := K0.2
  have K0 := K0 ⟨q0, q1, q2, q3, q4, q5, q6, q7⟩
  refine r_tabOut (pc := 1) (tgt := 106) dX7_count_1 (by have z0 : ¬ Int32.toInt (l1) = 0 := fun z => q0 (Int32.toInt_inj.mp (z.trans (by decide))); have z1 : ¬ Int32.toInt (l1) = 1 := fun z => q1 (Int32.toInt_inj.mp (z.trans (by decide))); have z2 : ¬ Int32.toInt (l1) = 2 := fun z => q2 (Int32.toInt_inj.mp (z.trans (by decide))); have z3 : ¬ Int32.toInt (l1) = 3 := fun z => q3 (Int32.toInt_inj.mp (z.trans (by decide))); have z4 : ¬ Int32.toInt (l1) = 4 := fun z => q4 (Int32.toInt_inj.mp (z.trans (by decide))); have z5 : ¬ Int32.toInt (l1) = 5 := fun z => q5 (Int32.toInt_inj.mp (z.trans (by decide))); have z6 : ¬ Int32.toInt (l1) = 6 := fun z => q6 (Int32.toInt_inj.mp (z.trans (by decide))); have z7 : ¬ Int32.toInt (l1) = 7 := fun z => q7 (Int32.toInt_inj.mp (z.trans (by decide))); omega) (by decide) ?_
  refine r_iconst (pc := 106) (v := (-1)) dX7_count_106 (by decide) ?_
  exact s_iret rfl dX7_count_107 K0
set_option maxHeartbeats 2000000 in
theorem v_X8_count_0 {K : Sh} {x : Cn} {Q : Int32 → Cn → Prop} {b0 : Nat} {l1 : Int32} {b0_1 : Nat} {n_b0_1 : Nat} (k_b0 : kk K b0 = some (8, 0)) (g_b0_1 : gr x b0 1 = some b0_1) (k_b0_1 : kk K b0_1 = some (20, n_b0_1)) (K0 : (l1 = 0 → (vp_in 0 n_b0_1 ∧ (Q (gi x b0_1 0) x))) ∧ (l1 = 1 → (vp_in 1 n_b0_1 ∧ (Q (gi x b0_1 1) x))) ∧ (l1 = 2 → (vp_in 2 n_b0_1 ∧ (Q (gi x b0_1 2) x))) ∧ (l1 = 3 → (vp_in 3 n_b0_1 ∧ (Q (gi x b0_1 3) x))) ∧ (l1 = 4 → (vp_in 4 n_b0_1 ∧ (Q (gi x b0_1 4) x))) ∧ (l1 = 5 → (vp_in 5 n_b0_1 ∧ (Q (gi x b0_1 5) x))) ∧ (l1 = 6 → (Q (gi x b0 19) x)) ∧ (l1 = 7 → (Q (gi x b0 5) x)) ∧ ((¬ l1 = 0 ∧ ¬ l1 = 1 ∧ ¬ l1 = 2 ∧ ¬ l1 = 3 ∧ ¬ l1 = 4 ∧ ¬ l1 = 5 ∧ ¬ l1 = 6 ∧ ¬ l1 = 7) → (Q (-1) x))) : mSI mX8_count [.ref b0, .int l1] K x Q := by
  refine s_I (by decide) (by simp [Value.category]) (Nat.le_of_ble_eq_true rfl) ?_
  show mGM mX8_count 0 [some (.ref b0), some (.int l1)] [] (hp K x) (PI K Q)
  refine r_iload_n (pc := 0) dX8_count_0 rfl ?_
  by_cases q0 : l1 = 0
  · have K0 := K0.1 q0
    refine r_tabIn (pc := 1) (tgt := 48) (off := 47) dX8_count_1 (by rw [q0]; decide) (by rw [q0]; decide) (by rw [q0]; decide) (by decide) ?_
    refine r_aload_n (pc := 48) dX8_count_48 rfl ?_
    refine s_getR (pc := 49) dX8_count_49 fl_X8_9 rfl k_b0 g_b0_1 ?_
    refine r_iconst (pc := 52) (v := 0) dX8_count_52 (by decide) ?_
    obtain ⟨i_1, K0⟩ := K0
    refine s_iald (pc := 53) dX8_count_53 k_b0_1 i_1 ?_
    exact s_iret rfl dX8_count_54 K0
  have K0 := K0.2
  by_cases q1 : l1 = 1
  · have K0 := K0.1 q1
    refine r_tabIn (pc := 1) (tgt := 55) (off := 54) dX8_count_1 (by rw [q1]; decide) (by rw [q1]; decide) (by rw [q1]; decide) (by decide) ?_
    refine r_aload_n (pc := 55) dX8_count_55 rfl ?_
    refine s_getR (pc := 56) dX8_count_56 fl_X8_9 rfl k_b0 g_b0_1 ?_
    refine r_iconst (pc := 59) (v := 1) dX8_count_59 (by decide) ?_
    obtain ⟨i_2, K0⟩ := K0
    refine s_iald (pc := 60) dX8_count_60 k_b0_1 i_2 ?_
    exact s_iret rfl dX8_count_61 K0
  have K0 := K0.2
  by_cases q2 : l1 = 2
  · have K0 := K0.1 q2
    refine r_tabIn (pc := 1) (tgt := 62) (off := 61) dX8_count_1 (by rw [q2]; decide) (by rw [q2]; decide) (by rw [q2]; decide) (by decide) ?_
    refine r_aload_n (pc := 62) dX8_count_62 rfl ?_
    refine s_getR (pc := 63) dX8_count_63 fl_X8_9 rfl k_b0 g_b0_1 ?_
    refine r_iconst (pc := 66) (v := 2) dX8_count_66 (by decide) ?_
    obtain ⟨i_3, K0⟩ := K0
    refine s_iald (pc := 67) dX8_count_67 k_b0_1 i_3 ?_
    exact s_iret rfl dX8_count_68 K0
  have K0 := K0.2
  by_cases q3 : l1 = 3
  · have K0 := K0.1 q3
    refine r_tabIn (pc := 1) (tgt := 69) (off := 68) dX8_count_1 (by rw [q3]; decide) (by rw [q3]; decide) (by rw [q3]; decide) (by decide) ?_
    refine r_aload_n (pc := 69) dX8_count_69 rfl ?_
    refine s_getR (pc := 70) dX8_count_70 fl_X8_9 rfl k_b0 g_b0_1 ?_
    refine r_iconst (pc := 73) (v := 3) dX8_count_73 (by decide) ?_
    obtain ⟨i_4, K0⟩ := K0
    refine s_iald (pc := 74) dX8_count_74 k_b0_1 i_4 ?_
    exact s_iret rfl dX8_count_75 K0
  have K0 := K0.2
  by_cases q4 : l1 = 4
  · have K0 := K0.1 q4
    refine r_tabIn (pc := 1) (tgt := 76) (off := 75) dX8_count_1 (by rw [q4]; decide) (by rw [q4]; decide) (by rw [q4]; decide) (by decide) ?_
    refine r_aload_n (pc := 76) dX8_count_76 rfl ?_
    refine s_getR (pc := 77) dX8_count_77 fl_X8_9 rfl k_b0 g_b0_1 ?_
    refine r_iconst (pc := 80) (v := 4) dX8_count_80 (by decide) ?_
    obtain ⟨i_5, K0⟩ := K0
    refine s_iald (pc := 81) dX8_count_81 k_b0_1 i_5 ?_
    exact s_iret rfl dX8_count_82 K0
  have K0 := K0.2
  by_cases q5 : l1 = 5
  · have K0 := K0.1 q5
    refine r_tabIn (pc := 1) (tgt := 83) (off := 82) dX8_count_1 (by rw [q5]; decide) (by rw [q5]; decide) (by rw [q5]; decide) (by decide) ?_
    refine r_aload_n (pc := 83) dX8_count_83 rfl ?_
    refine s_getR (pc := 84) dX8_count_84 fl_X8_9 rfl k_b0 g_b0_1 ?_
    refine r_iconst (pc := 87) (v := 5) dX8_count_87 (by decide) ?_
    obtain ⟨i_6, K0⟩ := K0
    refine s_iald (pc := 88) dX8_count_88 k_b0_1 i_6 ?_
    exact s_iret rfl dX8_count_89 K0
  have K0 := K0.2
  by_cases q6 : l1 = 6
  · have K0 := K0.1 q6
    refine r_tabIn (pc := 1) (tgt := 90) (off := 89) dX8_count_1 (by rw [q6]; decide) (by rw [q6]; decide) (by rw [q6]; decide) (by decide) ?_
    refine r_aload_n (pc := 90) dX8_count_90 rfl ?_
    refine s_getI (pc := 91) dX8_count_91 fl_X8_262 rfl k_b0 ?_
    exact s_iret rfl dX8_count_94 K0
  have K0 := K0.2
  by_cases q7 : l1 = 7
  · have K0 := K0.1 q7
    refine r_tabIn (pc := 1) (tgt := 95) (off := 94) dX8_count_1 (by rw [q7]; decide) (by rw [q7]; decide) (by rw [q7]; decide) (by decide) ?_
    refine r_aload_n (pc := 95) dX8_count_95 rfl ?_
    refine s_getI (pc := 96) dX8_count_96 fl_X8_94 rfl k_b0 ?_
    exact s_iret rfl dX8_count_99 K0
  have K0 := K0.2
  have K0 := K0 ⟨q0, q1, q2, q3, q4, q5, q6, q7⟩
  refine r_tabOut (pc := 1) (tgt := 100) dX8_count_1 (by have z0 : ¬ Int32.toInt (l1) = 0 := fun z => q0 (Int32.toInt_inj.mp (z.trans (by decide))); have z1 : ¬ Int32.toInt (l1) = 1 := fun z => q1 (Int32.toInt_inj.mp (z.trans (by decide))); have z2 : ¬ Int32.toInt (l1) = 2 := fun z => q2 (Int32.toInt_inj.mp (z.trans (by decide))); have z3 : ¬ Int32.toInt (l1) = 3 := fun z => q3 (Int32.toInt_inj.mp (z.trans (by decide))); have z4 : ¬ Int32.toInt (l1) = 4 := fun z => q4 (Int32.toInt_inj.mp (z.trans (by decide))); have z5 : ¬ Int32.toInt (l1) = 5 := fun z => q5 (Int32.toInt_inj.mp (z.trans (by decide))); have z6 : ¬ Int32.toInt (l1) = 6 := fun z => q6 (Int32.toInt_inj.mp (z.trans (by decide))); have z7 : ¬ Int32.toInt (l1) = 7 := fun z => q7 (Int32.toInt_inj.mp (z.trans (by decide))); omega) (by decide) ?_
  refine r_iconst (pc := 100) (v := (-1)) dX8_count_100 (by decide) ?_
  exact s_iret rfl dX8_count_101 K0
set_option maxHeartbeats 2000000 in
theorem v_X7_weeks_0 {K : Sh} {x : Cn} {Q : Int32 → Cn → Prop} {b0 : Nat} {l1 : Int32} {l2 : Int32} {b0_2 : Nat} {b0_2_7 : Nat} {n_b0_2_7 : Nat} (k_b0 : kk K b0 = some (7, 0)) (g_b0_2 : gr x b0 2 = some b0_2) (k_b0_2 : kk K b0_2 = some (4, 0)) (g_b0_2_7 : gr x b0_2 7 = some b0_2_7) (k_b0_2_7 : kk K b0_2_7 = some (23, n_b0_2_7)) (K0 : (¬ (0 ≤ l1 ∧ l1 < gi x b0_2 3) → (Q (-2) x)) ∧ ((0 ≤ l1 ∧ l1 < gi x b0_2 3) → (((0 ≤ l2 ∧ l2 ≤ 4) → (vp_in l1 n_b0_2_7 ∧ (∃ c_4 : Nat, gr x b0_2_7 ((l1 : Int32).toNatClampNeg) = some c_4 ∧ (kk K c_4 = some (5, 0) ∧ (mSI mX5_bitsThatAre [.ref c_4, .int l2] K x (fun r_8 y_7 => Q r_8 y_7)))))) ∧ (¬ (0 ≤ l2 ∧ l2 ≤ 4) → (Q (-2) x))))) : mSI mX7_weeks [.ref b0, .int l1, .int l2] K x Q := by
  refine s_I (by decide) (by simp [Value.category]) (Nat.le_of_ble_eq_true rfl) ?_
  show mGM mX7_weeks 0 [some (.ref b0), some (.int l1), some (.int l2)] [] (hp K x) (PI K Q)
  refine r_aload_n (pc := 0) dX7_weeks_0 rfl ?_
  refine r_iload_n (pc := 1) dX7_weeks_1 rfl ?_
  refine s_VI (pc := 2) mX7_isSeries (ci := 7) (a := b0) (As := [.int l1]) dX7_weeks_2 lk_X7_132 in_X7_isSeries mo_X7_isSeries ⟨by decide, rfl⟩ ⟨by decide, by decide⟩ (Nat.le_of_ble_eq_true rfl) k_b0 (sp_X7_isSeries k_b0 g_b0_2 k_b0_2 ?_)
  refine r_if_eq (pc := 5) (tgt := 15) dX7_weeks_5 (by decide) (fun q => ?_) (fun q => ?_)
  · have q := (b2i_z _).mp q
    have K0 := K0.1 q
    refine r_bipush (pc := 15) (v := (-2)) dX7_weeks_15 (by decide) ?_
    exact s_iret rfl dX7_weeks_17 K0
  · have q := b2i_nz q
    have K0 := K0.2 q
    refine r_iload_n (pc := 8) dX7_weeks_8 rfl ?_
    refine s_SI (pc := 9) mX7_isState (As := [.int l2]) dX7_weeks_9 lk_X7_160 st_X7_isState mo_X7_isState ⟨by decide, by decide⟩ (Nat.le_of_ble_eq_true rfl) (sp_X7_isState  ?_)
    refine r_if_ne (pc := 12) (tgt := 18) dX7_weeks_12 (by decide) (fun q => ?_) (fun q => ?_)
    · have q := b2i_nz q
      have K0 := K0.1 q
      refine r_aload_n (pc := 18) dX7_weeks_18 rfl ?_
      refine s_getR (pc := 19) dX7_weeks_19 fl_X7_20 rfl k_b0 g_b0_2 ?_
      refine s_getR (pc := 22) dX7_weeks_22 fl_X7_135 rfl k_b0_2 g_b0_2_7 ?_
      refine r_iload_n (pc := 25) dX7_weeks_25 rfl ?_
      obtain ⟨i_3, K0⟩ := K0
      obtain ⟨c_4, g_5, K0⟩ := K0
      refine s_aald (pc := 26) dX7_weeks_26 (by decide) rfl k_b0_2_7 i_3 g_5 ?_
      refine r_iload_n (pc := 27) dX7_weeks_27 rfl ?_
      obtain ⟨e_6, K0⟩ := K0
      refine s_VI (pc := 28) mX5_bitsThatAre (ci := 5) (a := c_4) (As := [.int l2]) dX7_weeks_28 lk_X7_163 in_X5_bitsThatAre mo_X5_bitsThatAre ⟨by decide, rfl⟩ ⟨by decide, by decide⟩ (Nat.le_of_ble_eq_true rfl) e_6 (mSI_mono K0 (fun r_8 y_7 K0 => ?_))
      exact s_iret rfl dX7_weeks_31 K0
    · have q := (b2i_z _).mp q
      have K0 := K0.2 q
      refine r_bipush (pc := 15) (v := (-2)) dX7_weeks_15 (by decide) ?_
      exact s_iret rfl dX7_weeks_17 K0
set_option maxHeartbeats 2000000 in
theorem v_X8_weeks_0 {K : Sh} {x : Cn} {Q : Int32 → Cn → Prop} {b0 : Nat} {l1 : Int32} {l2 : Int32} {b0_1 : Nat} {n_b0_1 : Nat} {b0_3 : Nat} {n_b0_3 : Nat} (k_b0 : kk K b0 = some (8, 0)) (g_b0_1 : gr x b0 1 = some b0_1) (k_b0_1 : kk K b0_1 = some (20, n_b0_1)) (g_b0_3 : gr x b0 3 = some b0_3) (k_b0_3 : kk K b0_3 = some (20, n_b0_3)) (K0 : vp_in 2 n_b0_1 ∧ ((¬ (0 ≤ l1 ∧ l1 ≤ gi x b0_1 2 - 1) → (Q (-2) x)) ∧ ((0 ≤ l1 ∧ l1 ≤ gi x b0_1 2 - 1) → ((¬ (0 ≤ l2 ∧ l2 ≤ 4) → (Q (-2) x)) ∧ ((0 ≤ l2 ∧ l2 ≤ 4) → ((l24 l1 n_b0_3) ∧ ((l12 (7 + l2)) ∧ (Q (so (gi x b0_3) (l1 : Int32).toNatClampNeg ((7 + l2) : Int32).toNatClampNeg) x)))))))) : mSI mX8_weeks [.ref b0, .int l1, .int l2] K x Q := by
  refine s_I (by decide) (by simp [Value.category]) (Nat.le_of_ble_eq_true rfl) ?_
  show mGM mX8_weeks 0 [some (.ref b0), some (.int l1), some (.int l2)] [] (hp K x) (PI K Q)
  refine r_aload_n (pc := 0) dX8_weeks_0 rfl ?_
  refine r_iload_n (pc := 1) dX8_weeks_1 rfl ?_
  obtain ⟨i_1, K0⟩ := K0
  refine s_VI (pc := 2) mX8_isSeries (ci := 8) (a := b0) (As := [.int l1]) dX8_weeks_2 lk_X8_273 in_X8_isSeries mo_X8_isSeries ⟨by decide, rfl⟩ ⟨by decide, by decide⟩ (Nat.le_of_ble_eq_true rfl) k_b0 (sp_X8_isSeries k_b0 g_b0_1 k_b0_1 i_1 ?_)
  refine r_if_eq (pc := 5) (tgt := 32) dX8_weeks_5 (by decide) (fun q => ?_) (fun q => ?_)
  · have q := (b2i_z _).mp q
    have K0 := K0.1 q
    refine r_bipush (pc := 32) (v := (-2)) dX8_weeks_32 (by decide) ?_
    exact s_iret rfl dX8_weeks_34 K0
  · have q := b2i_nz q
    have K0 := K0.2 q
    refine r_iload_n (pc := 8) dX8_weeks_8 rfl ?_
    refine r_i2l (pc := 9) dX8_weeks_9 ?_
    refine r_lconst (pc := 10) (v := 0) dX8_weeks_10 (by decide) ?_
    refine r_ldc2 (pc := 11) (v := 4) dX8_weeks_11 cn_X8_276 ?_
    refine s_SI (pc := 14) mX8_in (As := [.long ((l2 : Int32).toInt64), .long 0, .long 4]) dX8_weeks_14 lk_X8_45 st_X8_in mo_X8_in ⟨by decide, by decide⟩ (Nat.le_of_ble_eq_true rfl) (sq_X8_in (v := l2) (lo := 0) (hi := 4) rfl (by decide) (by decide) ?_)
    refine r_if_eq (pc := 17) (tgt := 32) dX8_weeks_17 (by decide) (fun q => ?_) (fun q => ?_)
    · have q := (b2i_z _).mp q
      have K0 := K0.1 q
      refine r_bipush (pc := 32) (v := (-2)) dX8_weeks_32 (by decide) ?_
      exact s_iret rfl dX8_weeks_34 K0
    · have q := b2i_nz q
      have K0 := K0.2 q
      refine r_aload_n (pc := 20) dX8_weeks_20 rfl ?_
      refine r_iload_n (pc := 21) dX8_weeks_21 rfl ?_
      refine r_bipush (pc := 22) (v := 7) dX8_weeks_22 (by decide) ?_
      refine r_iload_n (pc := 24) dX8_weeks_24 rfl ?_
      refine r_iadd (pc := 25) dX8_weeks_25 ?_
      obtain ⟨p_4, K0⟩ := K0
      obtain ⟨p_5, K0⟩ := K0
      refine s_VI (pc := 26) mX8_one (ci := 8) (a := b0) (As := [.int l1, .int (7 + l2)]) dX8_weeks_26 lk_X8_67 in_X8_one mo_X8_one ⟨by decide, rfl⟩ ⟨by decide, by decide⟩ (Nat.le_of_ble_eq_true rfl) k_b0 (sr_X8_one k_b0 g_b0_3 k_b0_3 p_4 p_5 ?_)
      refine r_goto (pc := 29) (tgt := 34) dX8_weeks_29 (by decide) ?_
      exact s_iret rfl dX8_weeks_34 K0
set_option maxHeartbeats 2000000 in
theorem v_X7_week_0 {K : Sh} {x : Cn} {Q : Int32 → Cn → Prop} {b0 : Nat} {l1 : Int32} {l2 : Int32} {b0_2 : Nat} {b0_2_7 : Nat} {n_b0_2_7 : Nat} (k_b0 : kk K b0 = some (7, 0)) (g_b0_2 : gr x b0 2 = some b0_2) (k_b0_2 : kk K b0_2 = some (4, 0)) (g_b0_2_7 : gr x b0_2 7 = some b0_2_7) (k_b0_2_7 : kk K b0_2_7 = some (23, n_b0_2_7)) (K0 : (¬ (0 ≤ l1 ∧ l1 < gi x b0_2 3) → (Q (-2) x)) ∧ ((0 ≤ l1 ∧ l1 < gi x b0_2 3) → (((0 ≤ l2 ∧ l2 < gi x b0_2 0) → (vp_in l1 n_b0_2_7 ∧ (∃ c_4 : Nat, gr x b0_2_7 ((l1 : Int32).toNatClampNeg) = some c_4 ∧ (kk K c_4 = some (5, 0) ∧ (mSI mX5_stateOf [.ref c_4, .int l2] K x (fun r_8 y_7 => Q r_8 y_7)))))) ∧ (¬ (0 ≤ l2 ∧ l2 < gi x b0_2 0) → (Q (-2) x))))) : mSI mX7_week [.ref b0, .int l1, .int l2] K x Q := by
  refine s_I (by decide) (by simp [Value.category]) (Nat.le_of_ble_eq_true rfl) ?_
  show mGM mX7_week 0 [some (.ref b0), some (.int l1), some (.int l2)] [] (hp K x) (PI K Q)
  refine r_aload_n (pc := 0) dX7_week_0 rfl ?_
  refine r_iload_n (pc := 1) dX7_week_1 rfl ?_
  refine s_VI (pc := 2) mX7_isSeries (ci := 7) (a := b0) (As := [.int l1]) dX7_week_2 lk_X7_132 in_X7_isSeries mo_X7_isSeries ⟨by decide, rfl⟩ ⟨by decide, by decide⟩ (Nat.le_of_ble_eq_true rfl) k_b0 (sp_X7_isSeries k_b0 g_b0_2 k_b0_2 ?_)
  refine r_if_eq (pc := 5) (tgt := 16) dX7_week_5 (by decide) (fun q => ?_) (fun q => ?_)
  · have q := (b2i_z _).mp q
    have K0 := K0.1 q
    refine r_bipush (pc := 16) (v := (-2)) dX7_week_16 (by decide) ?_
    exact s_iret rfl dX7_week_18 K0
  · have q := b2i_nz q
    have K0 := K0.2 q
    refine r_aload_n (pc := 8) dX7_week_8 rfl ?_
    refine r_iload_n (pc := 9) dX7_week_9 rfl ?_
    refine s_VI (pc := 10) mX7_isWeek (ci := 7) (a := b0) (As := [.int l2]) dX7_week_10 lk_X7_167 in_X7_isWeek mo_X7_isWeek ⟨by decide, rfl⟩ ⟨by decide, by decide⟩ (Nat.le_of_ble_eq_true rfl) k_b0 (sp_X7_isWeek k_b0 g_b0_2 k_b0_2 ?_)
    refine r_if_ne (pc := 13) (tgt := 19) dX7_week_13 (by decide) (fun q => ?_) (fun q => ?_)
    · have q := b2i_nz q
      have K0 := K0.1 q
      refine r_aload_n (pc := 19) dX7_week_19 rfl ?_
      refine s_getR (pc := 20) dX7_week_20 fl_X7_20 rfl k_b0 g_b0_2 ?_
      refine s_getR (pc := 23) dX7_week_23 fl_X7_135 rfl k_b0_2 g_b0_2_7 ?_
      refine r_iload_n (pc := 26) dX7_week_26 rfl ?_
      obtain ⟨i_3, K0⟩ := K0
      obtain ⟨c_4, g_5, K0⟩ := K0
      refine s_aald (pc := 27) dX7_week_27 (by decide) rfl k_b0_2_7 i_3 g_5 ?_
      refine r_iload_n (pc := 28) dX7_week_28 rfl ?_
      obtain ⟨e_6, K0⟩ := K0
      refine s_VI (pc := 29) mX5_stateOf (ci := 5) (a := c_4) (As := [.int l2]) dX7_week_29 lk_X7_170 in_X5_stateOf mo_X5_stateOf ⟨by decide, rfl⟩ ⟨by decide, by decide⟩ (Nat.le_of_ble_eq_true rfl) e_6 (mSI_mono K0 (fun r_8 y_7 K0 => ?_))
      exact s_iret rfl dX7_week_32 K0
    · have q := (b2i_z _).mp q
      have K0 := K0.2 q
      refine r_bipush (pc := 16) (v := (-2)) dX7_week_16 (by decide) ?_
      exact s_iret rfl dX7_week_18 K0
set_option maxHeartbeats 2000000 in
theorem v_X8_week_0 {K : Sh} {x : Cn} {Q : Int32 → Cn → Prop} {b0 : Nat} {l1 : Int32} {l2 : Int32} {b0_1 : Nat} {n_b0_1 : Nat} (k_b0 : kk K b0 = some (8, 0)) (g_b0_1 : gr x b0 1 = some b0_1) (k_b0_1 : kk K b0_1 = some (20, n_b0_1)) (K0 : vp_in 2 n_b0_1 ∧ ((¬ (0 ≤ l1 ∧ l1 ≤ gi x b0_1 2 - 1) → (Q (-2) x)) ∧ ((0 ≤ l1 ∧ l1 ≤ gi x b0_1 2 - 1) → (vp_in 0 n_b0_1 ∧ ((¬ (0 ≤ l2 ∧ l2 ≤ gi x b0_1 0 - 1) → (Q (-2) x)) ∧ ((0 ≤ l2 ∧ l2 ≤ gi x b0_1 0 - 1) → (mSI mX8_stateOf [.ref b0, .int l1, .int l2] K x (fun r_6 y_5 => Q r_6 y_5)))))))) : mSI mX8_week [.ref b0, .int l1, .int l2] K x Q := by
  refine s_I (by decide) (by simp [Value.category]) (Nat.le_of_ble_eq_true rfl) ?_
  show mGM mX8_week 0 [some (.ref b0), some (.int l1), some (.int l2)] [] (hp K x) (PI K Q)
  refine r_aload_n (pc := 0) dX8_week_0 rfl ?_
  refine r_iload_n (pc := 1) dX8_week_1 rfl ?_
  obtain ⟨i_1, K0⟩ := K0
  refine s_VI (pc := 2) mX8_isSeries (ci := 8) (a := b0) (As := [.int l1]) dX8_week_2 lk_X8_273 in_X8_isSeries mo_X8_isSeries ⟨by decide, rfl⟩ ⟨by decide, by decide⟩ (Nat.le_of_ble_eq_true rfl) k_b0 (sp_X8_isSeries k_b0 g_b0_1 k_b0_1 i_1 ?_)
  refine r_if_eq (pc := 5) (tgt := 25) dX8_week_5 (by decide) (fun q => ?_) (fun q => ?_)
  · have q := (b2i_z _).mp q
    have K0 := K0.1 q
    refine r_bipush (pc := 25) (v := (-2)) dX8_week_25 (by decide) ?_
    exact s_iret rfl dX8_week_27 K0
  · have q := b2i_nz q
    have K0 := K0.2 q
    refine r_aload_n (pc := 8) dX8_week_8 rfl ?_
    refine r_iload_n (pc := 9) dX8_week_9 rfl ?_
    obtain ⟨i_3, K0⟩ := K0
    refine s_VI (pc := 10) mX8_isWeek (ci := 8) (a := b0) (As := [.int l2]) dX8_week_10 lk_X8_57 in_X8_isWeek mo_X8_isWeek ⟨by decide, rfl⟩ ⟨by decide, by decide⟩ (Nat.le_of_ble_eq_true rfl) k_b0 (sp_X8_isWeek k_b0 g_b0_1 k_b0_1 i_3 ?_)
    refine r_if_eq (pc := 13) (tgt := 25) dX8_week_13 (by decide) (fun q => ?_) (fun q => ?_)
    · have q := (b2i_z _).mp q
      have K0 := K0.1 q
      refine r_bipush (pc := 25) (v := (-2)) dX8_week_25 (by decide) ?_
      exact s_iret rfl dX8_week_27 K0
    · have q := b2i_nz q
      have K0 := K0.2 q
      refine r_aload_n (pc := 16) dX8_week_16 rfl ?_
      refine r_iload_n (pc := 17) dX8_week_17 rfl ?_
      refine r_iload_n (pc := 18) dX8_week_18 rfl ?_
      refine s_VI (pc := 19) mX8_stateOf (ci := 8) (a := b0) (As := [.int l1, .int l2]) dX8_week_19 lk_X8_278 in_X8_stateOf mo_X8_stateOf ⟨by decide, rfl⟩ ⟨by decide, by decide⟩ (Nat.le_of_ble_eq_true rfl) k_b0 (mSI_mono K0 (fun r_6 y_5 K0 => ?_))
      refine r_goto (pc := 22) (tgt := 27) dX8_week_22 (by decide) ?_
      exact s_iret rfl dX8_week_27 K0
theorem eq_fault (a : Int32) {x : Cn} (R : Rel x) (f : gi x 0 7 = gi x 717 11 ∧ gi x 0 8 = gi x 717 12) : mSI mX7_fault [.ref 0, .int a] KW x (fun r y => mSI mX8_fault [.ref 717, .int a] KW y (fun r' z => r = r' ∧ Rel z)) := by
  exact v_X7_fault_0 k0 ⟨fun z => ⟨fun z2 => v_X8_fault_0 km ⟨fun _ => ⟨fun _ => ⟨rfl, R⟩, fun w => absurd w z2⟩, fun w => absurd w z⟩, fun z2 => v_X8_fault_0 km ⟨fun _ => ⟨fun w => absurd z2 w, fun _ => ⟨f.2, R⟩⟩, fun w => absurd w z⟩⟩, fun z => v_X8_fault_0 km ⟨fun w => absurd z w, fun _ => ⟨f.1, R⟩⟩⟩
theorem kp_fault (a : Int32) : BothK mX7_fault mX8_fault [.int a] := by
  intro x R
  exact v_X7_fault_0 k0 ⟨fun z => ⟨fun z2 => v_X8_fault_0 km ⟨fun _ => ⟨fun _ => R, fun w => absurd w z2⟩, fun w => absurd w z⟩, fun z2 => v_X8_fault_0 km ⟨fun _ => ⟨fun w => absurd z2 w, fun _ => R⟩, fun w => absurd w z⟩⟩, fun z => v_X8_fault_0 km ⟨fun w => absurd z w, fun _ => R⟩⟩
theorem eq_count (a : Int32) : Both mX7_count mX8_count [.int a] := by
  intro x R
  obtain ⟨W, C, S, A, N, E, ⟨hc, -⟩, ⟨n, -, hh1, hh2, -⟩⟩ := R.sea
  obtain ⟨v0', v1, v2, v3, v4, -⟩ := E.2.2.1
  obtain ⟨n2, -, ht1, ht2, -⟩ := R.2.2.2.1
  have key : ∀ r : Int32, ((a = 0 → r = gi x 718 0) ∧ (a = 1 → r = gi x 718 1) ∧ (a = 2 → r = gi x 718 2) ∧ (a = 3 → r = gi x 718 3) ∧ (a = 4 → r = gi x 718 4) ∧ (a = 5 → r = gi x 718 5) ∧ (a = 6 → r = gi x 717 19) ∧ (a = 7 → r = gi x 717 5) ∧ ((¬ a = 0 ∧ ¬ a = 1 ∧ ¬ a = 2 ∧ ¬ a = 3 ∧ ¬ a = 4 ∧ ¬ a = 5 ∧ ¬ a = 6 ∧ ¬ a = 7) → r = -1)) → mSI mX8_count [.ref 717, .int a] KW x (fun r' z => r = r' ∧ Rel z) := by
    intro r h
    exact v_X8_count_0 km R.2.1.1 km1 ⟨fun z => ⟨v0 (k := 0) (by decide) rfl rfl, h.1 z, R⟩, fun z => ⟨v0 (k := 1) (by decide) rfl rfl, h.2.1 z, R⟩, fun z => ⟨v0 (k := 2) (by decide) rfl rfl, h.2.2.1 z, R⟩, fun z => ⟨v0 (k := 3) (by decide) rfl rfl, h.2.2.2.1 z, R⟩, fun z => ⟨v0 (k := 4) (by decide) rfl rfl, h.2.2.2.2.1 z, R⟩, fun z => ⟨v0 (k := 5) (by decide) rfl rfl, h.2.2.2.2.2.1 z, R⟩, fun z => ⟨h.2.2.2.2.2.2.1 z, R⟩, fun z => ⟨h.2.2.2.2.2.2.2.1 z, R⟩, fun z => ⟨h.2.2.2.2.2.2.2.2 z, R⟩⟩
  have ht := Rel.t2 E
  refine v_X7_count_0 k0 R.1.2.1 (ks0 E.1) R.1.2.2.1 (by decide) ⟨fun z => key _ ?_, fun z => key _ ?_, fun z => key _ ?_, fun z => key _ ?_, fun z => key _ ?_, fun z => key _ ?_, fun z => key _ ?_, fun z => key _ ?_, fun z => key _ ?_⟩
  · subst z; exact ⟨fun _ => v0', fun z => absurd z (by decide), fun z => absurd z (by decide), fun z => absurd z (by decide), fun z => absurd z (by decide), fun z => absurd z (by decide), fun z => absurd z (by decide), fun z => absurd z (by decide), fun z => absurd rfl z.1⟩
  · subst z; exact ⟨fun z => absurd z (by decide), fun _ => hc.trans ht.2.1.symm, fun z => absurd z (by decide), fun z => absurd z (by decide), fun z => absurd z (by decide), fun z => absurd z (by decide), fun z => absurd z (by decide), fun z => absurd z (by decide), fun z => absurd rfl z.2.1⟩
  · subst z; exact ⟨fun z => absurd z (by decide), fun z => absurd z (by decide), fun _ => v3, fun z => absurd z (by decide), fun z => absurd z (by decide), fun z => absurd z (by decide), fun z => absurd z (by decide), fun z => absurd z (by decide), fun z => absurd rfl z.2.2.1⟩
  · subst z; exact ⟨fun z => absurd z (by decide), fun z => absurd z (by decide), fun z => absurd z (by decide), fun _ => v4, fun z => absurd z (by decide), fun z => absurd z (by decide), fun z => absurd z (by decide), fun z => absurd z (by decide), fun z => absurd rfl z.2.2.2.1⟩
  · subst z; exact ⟨fun z => absurd z (by decide), fun z => absurd z (by decide), fun z => absurd z (by decide), fun z => absurd z (by decide), fun _ => v1, fun z => absurd z (by decide), fun z => absurd z (by decide), fun z => absurd z (by decide), fun z => absurd rfl z.2.2.2.2.1⟩
  · subst z; exact ⟨fun z => absurd z (by decide), fun z => absurd z (by decide), fun z => absurd z (by decide), fun z => absurd z (by decide), fun z => absurd z (by decide), fun _ => v2, fun z => absurd z (by decide), fun z => absurd z (by decide), fun z => absurd rfl z.2.2.2.2.2.1⟩
  · subst z; exact ⟨fun z => absurd z (by decide), fun z => absurd z (by decide), fun z => absurd z (by decide), fun z => absurd z (by decide), fun z => absurd z (by decide), fun z => absurd z (by decide), fun _ => hh2.trans hh1.symm, fun z => absurd z (by decide), fun z => absurd rfl z.2.2.2.2.2.2.1⟩
  · subst z; exact ⟨fun z => absurd z (by decide), fun z => absurd z (by decide), fun z => absurd z (by decide), fun z => absurd z (by decide), fun z => absurd z (by decide), fun z => absurd z (by decide), fun z => absurd z (by decide), fun _ => ht1.trans ht2.symm, fun z => absurd rfl z.2.2.2.2.2.2.2⟩
  · exact ⟨fun w => absurd w z.1, fun w => absurd w z.2.1, fun w => absurd w z.2.2.1, fun w => absurd w z.2.2.2.1, fun w => absurd w z.2.2.2.2.1, fun w => absurd w z.2.2.2.2.2.1, fun w => absurd w z.2.2.2.2.2.2.1, fun w => absurd w z.2.2.2.2.2.2.2, fun _ => rfl⟩
theorem eq_weeks (a b : Int32) : Both mX7_weeks mX8_weeks [.int a, .int b] := by
  intro x R
  obtain ⟨W, C, S, A, N, E, -, -⟩ := R.sea
  have hn := E.nums
  have ht := Rel.t2 E
  have hS : S ≤ 24 := hn.2.2.2.2.2.2.1
  have iS := inN' (v := a) (n := S) (by omega)
  have rf : mSI mX8_weeks [.ref 717, .int a, .int b] KW x (fun r' z => (if (0 ≤ a ∧ a < nI S) ∧ (0 ≤ b ∧ b ≤ 4) then so (gi x 718) a.toNatClampNeg (7 + b.toNatClampNeg) else -2) = r' ∧ Rel z) := by
    refine v_X8_weeks_0 km R.2.1.1 km1 R.2.1.2.2.1 km1 ⟨v0 (k := 2) (by decide) rfl rfl, ?_⟩
    rw [ht.2.2.1, iS]
    refine ⟨fun z => ⟨if_neg (fun w => z w.1), R⟩, fun z => ⟨fun z2 => ⟨if_neg (fun w => z2 w.2), R⟩, fun z2 => ?_⟩⟩
    obtain ⟨s, hs, rfl⟩ := inN (by omega) z
    obtain ⟨k, hk, rfl⟩ := nI_of2 (M := 4) (n := 4) (by decide) (Int32.not_lt.mpr z2.1) z2.2
    have e7 : (7 : Int32) + nI k = nI (7 + k) := by rw [show (7 : Int32) = nI 7 by decide, nI_add]
    refine ⟨l24_nI (by omega) rfl, ?_⟩
    rw [e7, if_pos ⟨z, z2⟩, nI_clamp (by omega), nI_clamp (by omega), nI_clamp (by omega)]
    exact ⟨⟨nI_pos' (by omega), nI_lt (b := 12) (by omega) (by decide)⟩, rfl, R⟩
  refine v_X7_weeks_0 k0 R.1.2.1 (ks0 E.1) E.2.1.2.2.1 (ks3 E.1) ?_
  rw [hn.2.2.1]
  refine ⟨fun z => ?_, fun z => ⟨fun z2 => ?_, fun z2 => ?_⟩⟩
  · rwa [if_neg (fun w => z w.1)] at rf
  · rw [if_pos ⟨z, z2⟩] at rf
    obtain ⟨s, hs, rfl⟩ := inN (by omega) z
    obtain ⟨k, hk, rfl⟩ := nI_of2 (M := 4) (n := 4) (by decide) (Int32.not_lt.mpr z2.1) z2.2
    obtain ⟨p, e1, e2, e3, e4, -, e6⟩ := E.ser hs
    rw [nI_clamp (by omega), nI_clamp (by omega)] at rf
    exact ⟨vp_in_nI (by omega) (by decide), p, by rw [nI_clamp (by omega)]; exact e1, e2, sp_X5_bitsThatAre e2 e3 e6 (by omega) rf⟩
  · rwa [if_neg (fun w => z2 w.2)] at rf
theorem eq_week (a b : Int32) : Both mX7_week mX8_week [.int a, .int b] := by
  intro x R
  obtain ⟨W, C, S, A, N, E, -, -⟩ := R.sea
  have hn := E.nums
  have ht := Rel.t2 E
  have hS : S ≤ 24 := hn.2.2.2.2.2.2.1
  have hW : W ≤ 30 := hn.2.2.2.2.1
  have iS := inN' (v := a) (n := S) (by omega)
  have iW := inN' (v := b) (n := W) (by omega)
  have rf : mSI mX8_week [.ref 717, .int a, .int b] KW x (fun r' z => (if (0 ≤ a ∧ a < nI S) ∧ (0 ≤ b ∧ b < nI W) then stt (gi x 718) a.toNatClampNeg b.toNatClampNeg else -2) = r' ∧ Rel z) := by
    refine v_X8_week_0 km R.2.1.1 km1 ⟨v0 (k := 2) (by decide) rfl rfl, ?_⟩
    rw [ht.2.2.1, iS, ht.1, iW]
    refine ⟨fun z => ⟨if_neg (fun w => z w.1), R⟩, fun z => ⟨v0 (k := 0) (by decide) rfl rfl, fun z2 => ⟨if_neg (fun w => z2 w.2), R⟩, fun z2 => ?_⟩⟩
    rw [if_pos ⟨z, z2⟩]
    obtain ⟨s, hs, rfl⟩ := inN (by omega) z
    obtain ⟨w, hw, rfl⟩ := inN (by omega) z2
    rw [nI_clamp (by omega), nI_clamp (by omega)]
    exact sp_X8_stateOf (by omega) (by omega) R.2.1 km1 ⟨rfl, R⟩
  refine v_X7_week_0 k0 R.1.2.1 (ks0 E.1) E.2.1.2.2.1 (ks3 E.1) ?_
  rw [hn.2.2.1, hn.1]
  refine ⟨fun z => ?_, fun z => ⟨fun z2 => ?_, fun z2 => ?_⟩⟩
  · rwa [if_neg (fun w => z w.1)] at rf
  · rw [if_pos ⟨z, z2⟩] at rf
    obtain ⟨s, hs, rfl⟩ := inN (by omega) z
    obtain ⟨w, hw, rfl⟩ := inN (by omega) z2
    obtain ⟨p, e1, e2, e3, e4, -, e6⟩ := E.ser hs
    rw [nI_clamp (by omega), nI_clamp (by omega)] at rf
    exact ⟨vp_in_nI (by omega) (by decide), p, by rw [nI_clamp (by omega)]; exact e1, e2, sp_X5_stateOf (by omega) e2 e3 e6 rf⟩
  · rwa [if_neg (fun w => z2 w.2)] at rf
end

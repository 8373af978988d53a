set_option maxHeartbeats 2000000 in
theorem v_X7_isWithin_0 {K : Sh} {x : Cn} {Q : Int32 → Cn → Prop} {l0 : Int32} {l1 : Int32} {l2 : Int32}   (K0 : (l0 < l1 → (Q 0 x)) ∧ (¬ l0 < l1 → ((l2 < l0 → (Q 0 x)) ∧ (¬ l2 < l0 → (Q 1 x))))) : mSI mX7_isWithin [.int l0, .int l1, .int l2] K x Q := by
  refine s_I (by decide) (by simp [Value.category]) (Nat.le_of_ble_eq_true rfl) ?_
  show mGM mX7_isWithin 0 [some (.int l0), some (.int l1), some (.int l2)] [] (hp K x) (PI K Q)
  refine r_iload_n (pc := 0) dX7_isWithin_0 rfl ?_
  refine r_iload_n (pc := 1) dX7_isWithin_1 rfl ?_
  refine r_icmp_lt (pc := 2) (tgt := 14) dX7_isWithin_2 (by decide) (fun q => ?_) (fun q => ?_)
  · have K0 := K0.1 q
    refine r_iconst (pc := 14) (v := 0) dX7_isWithin_14 (by decide) ?_
    exact s_zret rfl (by decide) dX7_isWithin_15 K0
  · have K0 := K0.2 q
    refine r_iload_n (pc := 5) dX7_isWithin_5 rfl ?_
    refine r_iload_n (pc := 6) dX7_isWithin_6 rfl ?_
    refine r_icmp_gt (pc := 7) (tgt := 14) dX7_isWithin_7 (by decide) (fun q => ?_) (fun q => ?_)
    · have K0 := K0.1 q
      refine r_iconst (pc := 14) (v := 0) dX7_isWithin_14 (by decide) ?_
      exact s_zret rfl (by decide) dX7_isWithin_15 K0
    · have K0 := K0.2 q
      refine r_iconst (pc := 10) (v := 1) dX7_isWithin_10 (by decide) ?_
      refine r_goto (pc := 11) (tgt := 15) dX7_isWithin_11 (by decide) ?_
      exact s_zret rfl (by decide) dX7_isWithin_15 K0
set_option maxHeartbeats 2000000 in
theorem v_X7_isWay_0 {K : Sh} {x : Cn} {Q : Int32 → Cn → Prop} {l0 : Int32}   (K0 : (l0 = 0 → (Q 1 x)) ∧ (¬ l0 = 0 → ((¬ l0 = 1 → (Q 0 x)) ∧ (l0 = 1 → (Q 1 x))))) : mSI mX7_isWay [.int l0] K x Q := by
  refine s_I (by decide) (by simp [Value.category]) (Nat.le_of_ble_eq_true rfl) ?_
  show mGM mX7_isWay 0 [some (.int l0)] [] (hp K x) (PI K Q)
  refine r_iload_n (pc := 0) dX7_isWay_0 rfl ?_
  refine r_if_eq (pc := 1) (tgt := 9) dX7_isWay_1 (by decide) (fun q => ?_) (fun q => ?_)
  · have K0 := K0.1 q
    refine r_iconst (pc := 9) (v := 1) dX7_isWay_9 (by decide) ?_
    refine r_goto (pc := 10) (tgt := 14) dX7_isWay_10 (by decide) ?_
    exact s_zret rfl (by decide) dX7_isWay_14 K0
  · have K0 := K0.2 q
    refine r_iload_n (pc := 4) dX7_isWay_4 rfl ?_
    refine r_iconst (pc := 5) (v := 1) dX7_isWay_5 (by decide) ?_
    refine r_icmp_ne (pc := 6) (tgt := 13) dX7_isWay_6 (by decide) (fun q => ?_) (fun q => ?_)
    · have K0 := K0.1 q
      refine r_iconst (pc := 13) (v := 0) dX7_isWay_13 (by decide) ?_
      exact s_zret rfl (by decide) dX7_isWay_14 K0
    · have K0 := K0.2 q
      refine r_iconst (pc := 9) (v := 1) dX7_isWay_9 (by decide) ?_
      refine r_goto (pc := 10) (tgt := 14) dX7_isWay_10 (by decide) ?_
      exact s_zret rfl (by decide) dX7_isWay_14 K0
set_option maxHeartbeats 2000000 in
theorem v_X7_isState_0 {K : Sh} {x : Cn} {Q : Int32 → Cn → Prop} {l0 : Int32}   (K0 : (l0 < 0 → (Q 0 x)) ∧ (¬ l0 < 0 → ((4 < l0 → (Q 0 x)) ∧ (¬ 4 < l0 → (Q 1 x))))) : mSI mX7_isState [.int l0] K x Q := by
  refine s_I (by decide) (by simp [Value.category]) (Nat.le_of_ble_eq_true rfl) ?_
  show mGM mX7_isState 0 [some (.int l0)] [] (hp K x) (PI K Q)
  refine r_iload_n (pc := 0) dX7_isState_0 rfl ?_
  refine r_if_lt (pc := 1) (tgt := 13) dX7_isState_1 (by decide) (fun q => ?_) (fun q => ?_)
  · have K0 := K0.1 q
    refine r_iconst (pc := 13) (v := 0) dX7_isState_13 (by decide) ?_
    exact s_zret rfl (by decide) dX7_isState_14 K0
  · have K0 := K0.2 q
    refine r_iload_n (pc := 4) dX7_isState_4 rfl ?_
    refine r_iconst (pc := 5) (v := 4) dX7_isState_5 (by decide) ?_
    refine r_icmp_gt (pc := 6) (tgt := 13) dX7_isState_6 (by decide) (fun q => ?_) (fun q => ?_)
    · have K0 := K0.1 q
      refine r_iconst (pc := 13) (v := 0) dX7_isState_13 (by decide) ?_
      exact s_zret rfl (by decide) dX7_isState_14 K0
    · have K0 := K0.2 q
      refine r_iconst (pc := 9) (v := 1) dX7_isState_9 (by decide) ?_
      refine r_goto (pc := 10) (tgt := 14) dX7_isState_10 (by decide) ?_
      exact s_zret rfl (by decide) dX7_isState_14 K0
set_option maxHeartbeats 2000000 in
theorem v_X7_isLetter_0 {K : Sh} {x : Cn} {Q : Int32 → Cn → Prop} {l0 : Int32}   (K0 : (l0 < 97 → (Q 0 x)) ∧ (¬ l0 < 97 → ((122 < l0 → (Q 0 x)) ∧ (¬ 122 < l0 → (Q 1 x))))) : mSI mX7_isLetter [.int l0] K x Q := by
  refine s_I (by decide) (by simp [Value.category]) (Nat.le_of_ble_eq_true rfl) ?_
  show mGM mX7_isLetter 0 [some (.int l0)] [] (hp K x) (PI K Q)
  refine r_iload_n (pc := 0) dX7_isLetter_0 rfl ?_
  refine r_bipush (pc := 1) (v := 97) dX7_isLetter_1 (by decide) ?_
  refine r_icmp_lt (pc := 3) (tgt := 16) dX7_isLetter_3 (by decide) (fun q => ?_) (fun q => ?_)
  · have K0 := K0.1 q
    refine r_iconst (pc := 16) (v := 0) dX7_isLetter_16 (by decide) ?_
    exact s_zret rfl (by decide) dX7_isLetter_17 K0
  · have K0 := K0.2 q
    refine r_iload_n (pc := 6) dX7_isLetter_6 rfl ?_
    refine r_bipush (pc := 7) (v := 122) dX7_isLetter_7 (by decide) ?_
    refine r_icmp_gt (pc := 9) (tgt := 16) dX7_isLetter_9 (by decide) (fun q => ?_) (fun q => ?_)
    · have K0 := K0.1 q
      refine r_iconst (pc := 16) (v := 0) dX7_isLetter_16 (by decide) ?_
      exact s_zret rfl (by decide) dX7_isLetter_17 K0
    · have K0 := K0.2 q
      refine r_iconst (pc := 12) (v := 1) dX7_isLetter_12 (by decide) ?_
      refine r_goto (pc := 13) (tgt := 17) dX7_isLetter_13 (by decide) ?_
      exact s_zret rfl (by decide) dX7_isLetter_17 K0
set_option maxHeartbeats 2000000 in
theorem v_X7_isDigit_0 {K : Sh} {x : Cn} {Q : Int32 → Cn → Prop} {l0 : Int32}   (K0 : (l0 < 48 → (Q 0 x)) ∧ (¬ l0 < 48 → ((57 < l0 → (Q 0 x)) ∧ (¬ 57 < l0 → (Q 1 x))))) : mSI mX7_isDigit [.int l0] K x Q := by
  refine s_I (by decide) (by simp [Value.category]) (Nat.le_of_ble_eq_true rfl) ?_
  show mGM mX7_isDigit 0 [some (.int l0)] [] (hp K x) (PI K Q)
  refine r_iload_n (pc := 0) dX7_isDigit_0 rfl ?_
  refine r_bipush (pc := 1) (v := 48) dX7_isDigit_1 (by decide) ?_
  refine r_icmp_lt (pc := 3) (tgt := 16) dX7_isDigit_3 (by decide) (fun q => ?_) (fun q => ?_)
  · have K0 := K0.1 q
    refine r_iconst (pc := 16) (v := 0) dX7_isDigit_16 (by decide) ?_
    exact s_zret rfl (by decide) dX7_isDigit_17 K0
  · have K0 := K0.2 q
    refine r_iload_n (pc := 6) dX7_isDigit_6 rfl ?_
    refine r_bipush (pc := 7) (v := 57) dX7_isDigit_7 (by decide) ?_
    refine r_icmp_gt (pc := 9) (tgt := 16) dX7_isDigit_9 (by decide) (fun q => ?_) (fun q => ?_)
    · have K0 := K0.1 q
      refine r_iconst (pc := 16) (v := 0) dX7_isDigit_16 (by decide) ?_
      exact s_zret rfl (by decide) dX7_isDigit_17 K0
    · have K0 := K0.2 q
      refine r_iconst (pc := 12) (v := 1) dX7_isDigit_12 (by decide) ?_
      refine r_goto (pc := 13) (tgt := 17) dX7_isDigit_13 (by decide) ?_
      exact s_zret rfl (by decide) dX7_isDigit_17 K0
set_option maxHeartbeats 2000000 in
theorem v_X7_hasBit_0 {K : Sh} {x : Cn} {Q : Int32 → Cn → Prop} {l0 : Int32} {l1 : Int32}   (K0 : ((((l0 : Int32).toUInt32 >>> ((l1 : Int32).toUInt32 &&& Int32.toUInt32 31)).toInt32 &&& 1) = 0 → (Q 0 x)) ∧ (¬ (((l0 : Int32).toUInt32 >>> ((l1 : Int32).toUInt32 &&& Int32.toUInt32 31)).toInt32 &&& 1) = 0 → (Q 1 x))) : mSI mX7_hasBit [.int l0, .int l1] K x Q := by
  refine s_I (by decide) (by simp [Value.category]) (Nat.le_of_ble_eq_true rfl) ?_
  show mGM mX7_hasBit 0 [some (.int l0), some (.int l1)] [] (hp K x) (PI K Q)
  refine r_iload_n (pc := 0) dX7_hasBit_0 rfl ?_
  refine r_iload_n (pc := 1) dX7_hasBit_1 rfl ?_
  refine r_iushr (pc := 2) dX7_hasBit_2 ?_
  refine r_iconst (pc := 3) (v := 1) dX7_hasBit_3 (by decide) ?_
  refine r_iand (pc := 4) dX7_hasBit_4 ?_
  refine r_if_eq (pc := 5) (tgt := 12) dX7_hasBit_5 (by decide) (fun q => ?_) (fun q => ?_)
  · have K0 := K0.1 q
    refine r_iconst (pc := 12) (v := 0) dX7_hasBit_12 (by decide) ?_
    exact s_zret rfl (by decide) dX7_hasBit_13 K0
  · have K0 := K0.2 q
    refine r_iconst (pc := 8) (v := 1) dX7_hasBit_8 (by decide) ?_
    refine r_goto (pc := 9) (tgt := 13) dX7_hasBit_9 (by decide) ?_
    exact s_zret rfl (by decide) dX7_hasBit_13 K0
set_option maxHeartbeats 2000000 in
theorem v_X7_spanBits_0 {K : Sh} {x : Cn} {Q : Int32 → Cn → Prop} {l0 : Int32} {l1 : Int32}   (K0 : Q (((1 <<< (((l1 - l0) + 1) &&& 31)) - 1) <<< (l0 &&& 31)) x) : mSI mX7_spanBits [.int l0, .int l1] K x Q := by
  refine s_I (by decide) (by simp [Value.category]) (Nat.le_of_ble_eq_true rfl) ?_
  show mGM mX7_spanBits 0 [some (.int l0), some (.int l1)] [] (hp K x) (PI K Q)
  refine r_iconst (pc := 0) (v := 1) dX7_spanBits_0 (by decide) ?_
  refine r_iload_n (pc := 1) dX7_spanBits_1 rfl ?_
  refine r_iload_n (pc := 2) dX7_spanBits_2 rfl ?_
  refine r_isub (pc := 3) dX7_spanBits_3 ?_
  refine r_iconst (pc := 4) (v := 1) dX7_spanBits_4 (by decide) ?_
  refine r_iadd (pc := 5) dX7_spanBits_5 ?_
  refine r_ishl (pc := 6) dX7_spanBits_6 ?_
  refine r_iconst (pc := 7) (v := 1) dX7_spanBits_7 (by decide) ?_
  refine r_isub (pc := 8) dX7_spanBits_8 ?_
  refine r_iload_n (pc := 9) dX7_spanBits_9 rfl ?_
  refine r_ishl (pc := 10) dX7_spanBits_10 ?_
  exact s_iret rfl dX7_spanBits_11 K0
set_option maxHeartbeats 2000000 in
theorem v_X7_bitsFrom_0 {K : Sh} {x : Cn} {Q : Int32 → Cn → Prop} {l0 : Int32}   (K0 : (l0 ≤ 30 → (Q ((-1) <<< (l0 &&& 31)) x)) ∧ (¬ l0 ≤ 30 → (Q 0 x))) : mSI mX7_bitsFrom [.int l0] K x Q := by
  refine s_I (by decide) (by simp [Value.category]) (Nat.le_of_ble_eq_true rfl) ?_
  show mGM mX7_bitsFrom 0 [some (.int l0)] [] (hp K x) (PI K Q)
  refine r_iload_n (pc := 0) dX7_bitsFrom_0 rfl ?_
  refine r_bipush (pc := 1) (v := 30) dX7_bitsFrom_1 (by decide) ?_
  refine r_icmp_le (pc := 3) (tgt := 10) dX7_bitsFrom_3 (by decide) (fun q => ?_) (fun q => ?_)
  · have K0 := K0.1 q
    refine r_iconst (pc := 10) (v := (-1)) dX7_bitsFrom_10 (by decide) ?_
    refine r_iload_n (pc := 11) dX7_bitsFrom_11 rfl ?_
    refine r_ishl (pc := 12) dX7_bitsFrom_12 ?_
    exact s_iret rfl dX7_bitsFrom_13 K0
  · have K0 := K0.2 q
    refine r_iconst (pc := 6) (v := 0) dX7_bitsFrom_6 (by decide) ?_
    refine r_goto (pc := 7) (tgt := 13) dX7_bitsFrom_7 (by decide) ?_
    exact s_iret rfl dX7_bitsFrom_13 K0
set_option maxHeartbeats 2000000 in
theorem v_J6_bitCount_0f7a4_0 {K : Sh} {x : Cn} {Q : Int32 → Cn → Prop} {l0 : Int32}   (K0 : ∀ r_1 : Int32, r_1 = (l0 - (((l0 : Int32).toUInt32 >>> ((1 : Int32).toUInt32 &&& Int32.toUInt32 31)).toInt32 &&& 1431655765)) → (∀ r_3 : Int32, r_3 = ((r_1 &&& 858993459) + (((r_1 : Int32).toUInt32 >>> ((2 : Int32).toUInt32 &&& Int32.toUInt32 31)).toInt32 &&& 858993459)) → (∀ r_5 : Int32, r_5 = ((r_3 + ((r_3 : Int32).toUInt32 >>> ((4 : Int32).toUInt32 &&& Int32.toUInt32 31)).toInt32) &&& 252645135) → (∀ r_7 : Int32, r_7 = (r_5 + ((r_5 : Int32).toUInt32 >>> ((8 : Int32).toUInt32 &&& Int32.toUInt32 31)).toInt32) → (∀ r_9 : Int32, r_9 = (r_7 + ((r_7 : Int32).toUInt32 >>> ((16 : Int32).toUInt32 &&& Int32.toUInt32 31)).toInt32) → (Q (r_9 &&& 63) x)))))) : mSI mJ6_bitCount_0f7a4 [.int l0] K x Q := by
  refine s_I (by decide) (by simp [Value.category]) (Nat.le_of_ble_eq_true rfl) ?_
  show mGM mJ6_bitCount_0f7a4 0 [some (.int l0)] [] (hp K x) (PI K Q)
  refine r_iload_n (pc := 0) dJ6_bitCount_0f7a4_0 rfl ?_
  refine r_iload_n (pc := 1) dJ6_bitCount_0f7a4_1 rfl ?_
  refine r_iconst (pc := 2) (v := 1) dJ6_bitCount_0f7a4_2 (by decide) ?_
  refine r_iushr (pc := 3) dJ6_bitCount_0f7a4_3 ?_
  refine r_ldcw (pc := 4) (v := 1431655765) dJ6_bitCount_0f7a4_4 cn_J6_265 ?_
  refine r_iand (pc := 7) dJ6_bitCount_0f7a4_7 ?_
  refine r_isub (pc := 8) dJ6_bitCount_0f7a4_8 ?_
  obtain ⟨r_1, w_2⟩ : ∃ z : Int32, z = (l0 - (((l0 : Int32).toUInt32 >>> ((1 : Int32).toUInt32 &&& Int32.toUInt32 31)).toInt32 &&& 1431655765)) := ⟨_, rfl⟩
  rw [← w_2]
  have K0 := K0 r_1 w_2
  refine r_istore_n (pc := 9) dJ6_bitCount_0f7a4_9 (by decide) ?_
  refine r_iload_n (pc := 10) (L := [some (.int r_1)]) dJ6_bitCount_0f7a4_10 rfl ?_
  refine r_ldcw (pc := 11) (v := 858993459) dJ6_bitCount_0f7a4_11 cn_J6_266 ?_
  refine r_iand (pc := 14) dJ6_bitCount_0f7a4_14 ?_
  refine r_iload_n (pc := 15) dJ6_bitCount_0f7a4_15 rfl ?_
  refine r_iconst (pc := 16) (v := 2) dJ6_bitCount_0f7a4_16 (by decide) ?_
  refine r_iushr (pc := 17) dJ6_bitCount_0f7a4_17 ?_
  refine r_ldcw (pc := 18) (v := 858993459) dJ6_bitCount_0f7a4_18 cn_J6_266 ?_
  refine r_iand (pc := 21) dJ6_bitCount_0f7a4_21 ?_
  refine r_iadd (pc := 22) dJ6_bitCount_0f7a4_22 ?_
  obtain ⟨r_3, w_4⟩ : ∃ z : Int32, z = ((r_1 &&& 858993459) + (((r_1 : Int32).toUInt32 >>> ((2 : Int32).toUInt32 &&& Int32.toUInt32 31)).toInt32 &&& 858993459)) := ⟨_, rfl⟩
  rw [← w_4]
  have K0 := K0 r_3 w_4
  refine r_istore_n (pc := 23) dJ6_bitCount_0f7a4_23 (by decide) ?_
  refine r_iload_n (pc := 24) (L := [some (.int r_3)]) dJ6_bitCount_0f7a4_24 rfl ?_
  refine r_iload_n (pc := 25) dJ6_bitCount_0f7a4_25 rfl ?_
  refine r_iconst (pc := 26) (v := 4) dJ6_bitCount_0f7a4_26 (by decide) ?_
  refine r_iushr (pc := 27) dJ6_bitCount_0f7a4_27 ?_
  refine r_iadd (pc := 28) dJ6_bitCount_0f7a4_28 ?_
  refine r_ldcw (pc := 29) (v := 252645135) dJ6_bitCount_0f7a4_29 cn_J6_267 ?_
  refine r_iand (pc := 32) dJ6_bitCount_0f7a4_32 ?_
  obtain ⟨r_5, w_6⟩ : ∃ z : Int32, z = ((r_3 + ((r_3 : Int32).toUInt32 >>> ((4 : Int32).toUInt32 &&& Int32.toUInt32 31)).toInt32) &&& 252645135) := ⟨_, rfl⟩
  rw [← w_6]
  have K0 := K0 r_5 w_6
  refine r_istore_n (pc := 33) dJ6_bitCount_0f7a4_33 (by decide) ?_
  refine r_iload_n (pc := 34) (L := [some (.int r_5)]) dJ6_bitCount_0f7a4_34 rfl ?_
  refine r_iload_n (pc := 35) dJ6_bitCount_0f7a4_35 rfl ?_
  refine r_bipush (pc := 36) (v := 8) dJ6_bitCount_0f7a4_36 (by decide) ?_
  refine r_iushr (pc := 38) dJ6_bitCount_0f7a4_38 ?_
  refine r_iadd (pc := 39) dJ6_bitCount_0f7a4_39 ?_
  obtain ⟨r_7, w_8⟩ : ∃ z : Int32, z = (r_5 + ((r_5 : Int32).toUInt32 >>> ((8 : Int32).toUInt32 &&& Int32.toUInt32 31)).toInt32) := ⟨_, rfl⟩
  rw [← w_8]
  have K0 := K0 r_7 w_8
  refine r_istore_n (pc := 40) dJ6_bitCount_0f7a4_40 (by decide) ?_
  refine r_iload_n (pc := 41) (L := [some (.int r_7)]) dJ6_bitCount_0f7a4_41 rfl ?_
  refine r_iload_n (pc := 42) dJ6_bitCount_0f7a4_42 rfl ?_
  refine r_bipush (pc := 43) (v := 16) dJ6_bitCount_0f7a4_43 (by decide) ?_
  refine r_iushr (pc := 45) dJ6_bitCount_0f7a4_45 ?_
  refine r_iadd (pc := 46) dJ6_bitCount_0f7a4_46 ?_
  obtain ⟨r_9, w_10⟩ : ∃ z : Int32, z = (r_7 + ((r_7 : Int32).toUInt32 >>> ((16 : Int32).toUInt32 &&& Int32.toUInt32 31)).toInt32) := ⟨_, rfl⟩
  rw [← w_10]
  have K0 := K0 r_9 w_10
  refine r_istore_n (pc := 47) dJ6_bitCount_0f7a4_47 (by decide) ?_
  refine r_iload_n (pc := 48) (L := [some (.int r_9)]) dJ6_bitCount_0f7a4_48 rfl ?_
  refine r_bipush (pc := 49) (v := 63) dJ6_bitCount_0f7a4_49 (by decide) ?_
  refine r_iand (pc := 51) dJ6_bitCount_0f7a4_51 ?_
  exact s_iret rfl dJ6_bitCount_0f7a4_52 K0
set_option maxHeartbeats 2000000 in
theorem v_X8_has_0 {K : Sh} {x : Cn} {Q : Int32 → Cn → Prop} {l0 : Int32} {l1 : Int32}   (K0 : (¬ ((l0 >>> (l1 &&& 31)) &&& 1) = 1 → (Q 0 x)) ∧ (((l0 >>> (l1 &&& 31)) &&& 1) = 1 → (Q 1 x))) : mSI mX8_has [.int l0, .int l1] K x Q := by
  refine s_I (by decide) (by simp [Value.category]) (Nat.le_of_ble_eq_true rfl) ?_
  show mGM mX8_has 0 [some (.int l0), some (.int l1)] [] (hp K x) (PI K Q)
  refine r_iload_n (pc := 0) dX8_has_0 rfl ?_
  refine r_iload_n (pc := 1) dX8_has_1 rfl ?_
  refine r_ishr (pc := 2) dX8_has_2 ?_
  refine r_iconst (pc := 3) (v := 1) dX8_has_3 (by decide) ?_
  refine r_iand (pc := 4) dX8_has_4 ?_
  refine r_iconst (pc := 5) (v := 1) dX8_has_5 (by decide) ?_
  refine r_icmp_ne (pc := 6) (tgt := 13) dX8_has_6 (by decide) (fun q => ?_) (fun q => ?_)
  · have K0 := K0.1 q
    refine r_iconst (pc := 13) (v := 0) dX8_has_13 (by decide) ?_
    exact s_zret rfl (by decide) dX8_has_14 K0
  · have K0 := K0.2 q
    refine r_iconst (pc := 9) (v := 1) dX8_has_9 (by decide) ?_
    refine r_goto (pc := 10) (tgt := 14) dX8_has_10 (by decide) ?_
    exact s_zret rfl (by decide) dX8_has_14 K0
set_option maxHeartbeats 2000000 in
theorem v_X8_span_0 {K : Sh} {x : Cn} {Q : Int32 → Cn → Prop} {l0 : Int32} {l1 : Int32}   (K0 : (l0 ≤ l1 → (Q (((((1 : Int64) <<< (((l1 + 1) : Int32).toInt64 &&& 63)) - ((1 : Int64) <<< ((l0 : Int32).toInt64 &&& 63))) : Int64).toInt32) x)) ∧ (¬ l0 ≤ l1 → (Q 0 x))) : mSI mX8_span [.int l0, .int l1] K x Q := by
  refine s_I (by decide) (by simp [Value.category]) (Nat.le_of_ble_eq_true rfl) ?_
  show mGM mX8_span 0 [some (.int l0), some (.int l1)] [] (hp K x) (PI K Q)
  refine r_iload_n (pc := 0) dX8_span_0 rfl ?_
  refine r_iload_n (pc := 1) dX8_span_1 rfl ?_
  refine r_icmp_le (pc := 2) (tgt := 9) dX8_span_2 (by decide) (fun q => ?_) (fun q => ?_)
  · have K0 := K0.1 q
    refine r_lconst (pc := 9) (v := 1) dX8_span_9 (by decide) ?_
    refine r_iload_n (pc := 10) dX8_span_10 rfl ?_
    refine r_iconst (pc := 11) (v := 1) dX8_span_11 (by decide) ?_
    refine r_iadd (pc := 12) dX8_span_12 ?_
    refine r_lshl (pc := 13) dX8_span_13 ?_
    refine r_lconst (pc := 14) (v := 1) dX8_span_14 (by decide) ?_
    refine r_iload_n (pc := 15) dX8_span_15 rfl ?_
    refine r_lshl (pc := 16) dX8_span_16 ?_
    refine r_lsub (pc := 17) dX8_span_17 ?_
    refine r_l2i (pc := 18) dX8_span_18 ?_
    exact s_iret rfl dX8_span_19 K0
  · have K0 := K0.2 q
    refine r_iconst (pc := 5) (v := 0) dX8_span_5 (by decide) ?_
    refine r_goto (pc := 6) (tgt := 19) dX8_span_6 (by decide) ?_
    exact s_iret rfl dX8_span_19 K0
set_option maxHeartbeats 2000000 in
theorem v_X8_bits_0 {K : Sh} {x : Cn} {Q : Int32 → Cn → Prop} {l0 : Int32}   (K0 : GI mX8_bits 4 [some (.int l0), some (.int 0), some (.int l0)] [] K x Q) : mSI mX8_bits [.int l0] K x Q := by
  refine s_I (by decide) (by simp [Value.category]) (Nat.le_of_ble_eq_true rfl) ?_
  show mGM mX8_bits 0 [some (.int l0), none, none] [] (hp K x) (PI K Q)
  refine r_iconst (pc := 0) (v := 0) dX8_bits_0 (by decide) ?_
  refine r_istore_n (pc := 1) dX8_bits_1 (by decide) ?_
  refine r_iload_n (pc := 2) (L := [some (.int l0), some (.int 0), none]) dX8_bits_2 rfl ?_
  refine r_istore_n (pc := 3) dX8_bits_3 (by decide) ?_
  exact r_le (L' := [some (.int l0), some (.int 0), some (.int l0)]) ⟨rfl, ⟨rfl, ⟨rfl, trivial⟩⟩⟩ K0
set_option maxHeartbeats 2000000 in
theorem v_X8_bits_4 {K : Sh} {x : Cn} {Q : Int32 → Cn → Prop} {l0 : Int32} {l1 : Int32} {l2 : Int32}   (K0 : (l2 = 0 → (Q l1 x)) ∧ (¬ l2 = 0 → (GI mX8_bits 4 [some (.int l0), some (.int (l1 + 1)), some (.int (l2 &&& (l2 - 1)))] [] K x Q))) : GI mX8_bits 4 [some (.int l0), some (.int l1), some (.int l2)] [] K x Q := by
  show mGM mX8_bits 4 [some (.int l0), some (.int l1), some (.int l2)] [] (hp K x) (PI K Q)
  refine r_iload_n (pc := 4) dX8_bits_4 rfl ?_
  refine r_if_eq (pc := 5) (tgt := 20) dX8_bits_5 (by decide) (fun q => ?_) (fun q => ?_)
  · have K0 := K0.1 q
    refine r_iload_n (pc := 20) dX8_bits_20 rfl ?_
    exact s_iret rfl dX8_bits_21 K0
  · have K0 := K0.2 q
    refine r_iinc (pc := 8) (v := l1 + 1) dX8_bits_8 rfl rfl (by decide) ?_
    refine r_iload_n (pc := 11) (L := [some (.int l0), some (.int (l1 + 1)), some (.int l2)]) dX8_bits_11 rfl ?_
    refine r_iload_n (pc := 12) dX8_bits_12 rfl ?_
    refine r_iconst (pc := 13) (v := 1) dX8_bits_13 (by decide) ?_
    refine r_isub (pc := 14) dX8_bits_14 ?_
    refine r_iand (pc := 15) dX8_bits_15 ?_
    refine r_istore_n (pc := 16) dX8_bits_16 (by decide) ?_
    refine r_goto (pc := 17) (L := [some (.int l0), some (.int (l1 + 1)), some (.int (l2 &&& (l2 - 1)))]) (tgt := 4) dX8_bits_17 (by decide) ?_
    exact r_le (L' := [some (.int l0), some (.int (l1 + 1)), some (.int (l2 &&& (l2 - 1)))]) ⟨rfl, ⟨rfl, ⟨rfl, trivial⟩⟩⟩ K0

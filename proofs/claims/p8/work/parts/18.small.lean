set_option maxHeartbeats 2000000 in
theorem v_X8_isThere_0 {K : Sh} {x : Cn} {Q : Int32 → Cn → Prop} {b0 : Nat} {b0_1 : Nat} {n_b0_1 : Nat} (k_b0 : kk K b0 = some (8, 0)) (g_b0_1 : gr x b0 1 = some b0_1) (k_b0_1 : kk K b0_1 = some (20, n_b0_1)) (K0 : vp_in 0 n_b0_1 ∧ (((gi x b0_1 0) ≤ 0 → (Q 0 x)) ∧ (¬ (gi x b0_1 0) ≤ 0 → (Q 1 x)))) : mSI mX8_isThere [.ref b0] K x Q := by
  refine s_I (by decide) (by simp [Value.category]) (Nat.le_of_ble_eq_true rfl) ?_
  show mGM mX8_isThere 0 [some (.ref b0)] [] (hp K x) (PI K Q)
  refine r_aload_n (pc := 0) dX8_isThere_0 rfl ?_
  refine s_getR (pc := 1) dX8_isThere_1 fl_X8_9 rfl k_b0 g_b0_1 ?_
  refine r_iconst (pc := 4) (v := 0) dX8_isThere_4 (by decide) ?_
  obtain ⟨i_1, K0⟩ := K0
  refine s_iald (pc := 5) dX8_isThere_5 k_b0_1 i_1 ?_
  refine r_if_le (pc := 6) (tgt := 13) dX8_isThere_6 (by decide) (fun q => ?_) (fun q => ?_)
  · have K0 := K0.1 q
    refine r_iconst (pc := 13) (v := 0) dX8_isThere_13 (by decide) ?_
    exact s_zret rfl (by decide) dX8_isThere_14 K0
  · have K0 := K0.2 q
    refine r_iconst (pc := 9) (v := 1) dX8_isThere_9 (by decide) ?_
    refine r_goto (pc := 10) (tgt := 14) dX8_isThere_10 (by decide) ?_
    exact s_zret rfl (by decide) dX8_isThere_14 K0
set_option maxHeartbeats 2000000 in
theorem v_X8_one_0 {K : Sh} {x : Cn} {Q : Int32 → Cn → Prop} {b0 : Nat} {l1 : Int32} {l2 : Int32} {b0_3 : Nat} {n_b0_3 : Nat} (k_b0 : kk K b0 = some (8, 0)) (g_b0_3 : gr x b0 3 = some b0_3) (k_b0_3 : kk K b0_3 = some (20, n_b0_3)) (K0 : vp_in ((62 + (12 * l1)) + l2) n_b0_3 ∧ (Q (gi x b0_3 (((62 + (12 * l1)) + l2) : Int32).toNatClampNeg) x)) : mSI mX8_one [.ref b0, .int l1, .int l2] K x Q := by
  refine s_I (by decide) (by simp [Value.category]) (Nat.le_of_ble_eq_true rfl) ?_
  show mGM mX8_one 0 [some (.ref b0), some (.int l1), some (.int l2)] [] (hp K x) (PI K Q)
  refine r_aload_n (pc := 0) dX8_one_0 rfl ?_
  refine s_getR (pc := 1) dX8_one_1 fl_X8_16 rfl k_b0 g_b0_3 ?_
  refine r_bipush (pc := 4) (v := 62) dX8_one_4 (by decide) ?_
  refine r_bipush (pc := 6) (v := 12) dX8_one_6 (by decide) ?_
  refine r_iload_n (pc := 8) dX8_one_8 rfl ?_
  refine r_imul (pc := 9) dX8_one_9 ?_
  refine r_iadd (pc := 10) dX8_one_10 ?_
  refine r_iload_n (pc := 11) dX8_one_11 rfl ?_
  refine r_iadd (pc := 12) dX8_one_12 ?_
  obtain ⟨i_1, K0⟩ := K0
  refine s_iald (pc := 13) dX8_one_13 k_b0_3 i_1 ?_
  exact s_iret rfl dX8_one_14 K0
set_option maxHeartbeats 2000000 in
theorem v_X8_ask0_0 {K : Sh} {x : Cn} {Q : Int32 → Cn → Prop} {b0 : Nat} {l1 : Int32} {l2 : Int32} {b0_3 : Nat} {n_b0_3 : Nat} (k_b0 : kk K b0 = some (8, 0)) (g_b0_3 : gr x b0 3 = some b0_3) (k_b0_3 : kk K b0_3 = some (20, n_b0_3)) (K0 : vp_in ((350 + (7 * l1)) + l2) n_b0_3 ∧ (Q (gi x b0_3 (((350 + (7 * l1)) + l2) : Int32).toNatClampNeg) x)) : mSI mX8_ask0 [.ref b0, .int l1, .int l2] K x Q := by
  refine s_I (by decide) (by simp [Value.category]) (Nat.le_of_ble_eq_true rfl) ?_
  show mGM mX8_ask0 0 [some (.ref b0), some (.int l1), some (.int l2)] [] (hp K x) (PI K Q)
  refine r_aload_n (pc := 0) dX8_ask0_0 rfl ?_
  refine s_getR (pc := 1) dX8_ask0_1 fl_X8_16 rfl k_b0 g_b0_3 ?_
  refine r_sipush (pc := 4) (v := 350) dX8_ask0_4 (by decide) ?_
  refine r_bipush (pc := 7) (v := 7) dX8_ask0_7 (by decide) ?_
  refine r_iload_n (pc := 9) dX8_ask0_9 rfl ?_
  refine r_imul (pc := 10) dX8_ask0_10 ?_
  refine r_iadd (pc := 11) dX8_ask0_11 ?_
  refine r_iload_n (pc := 12) dX8_ask0_12 rfl ?_
  refine r_iadd (pc := 13) dX8_ask0_13 ?_
  obtain ⟨i_1, K0⟩ := K0
  refine s_iald (pc := 14) dX8_ask0_14 k_b0_3 i_1 ?_
  exact s_iret rfl dX8_ask0_15 K0
set_option maxHeartbeats 2000000 in
theorem v_X8_isSeries_0 {K : Sh} {x : Cn} {Q : Int32 → Cn → Prop} {b0 : Nat} {l1 : Int32} {b0_1 : Nat} {n_b0_1 : Nat} (k_b0 : kk K b0 = some (8, 0)) (g_b0_1 : gr x b0 1 = some b0_1) (k_b0_1 : kk K b0_1 = some (20, n_b0_1)) (K0 : vp_in 2 n_b0_1 ∧ (Q (b2i (0 ≤ l1 ∧ l1 ≤ ((gi x b0_1 2) - 1))) x)) : mSI mX8_isSeries [.ref b0, .int l1] K x Q := by
  refine s_I (by decide) (by simp [Value.category]) (Nat.le_of_ble_eq_true rfl) ?_
  show mGM mX8_isSeries 0 [some (.ref b0), some (.int l1)] [] (hp K x) (PI K Q)
  refine r_iload_n (pc := 0) dX8_isSeries_0 rfl ?_
  refine r_i2l (pc := 1) dX8_isSeries_1 ?_
  refine r_lconst (pc := 2) (v := 0) dX8_isSeries_2 (by decide) ?_
  refine r_aload_n (pc := 3) dX8_isSeries_3 rfl ?_
  refine s_getR (pc := 4) dX8_isSeries_4 fl_X8_9 rfl k_b0 g_b0_1 ?_
  refine r_iconst (pc := 7) (v := 2) dX8_isSeries_7 (by decide) ?_
  obtain ⟨i_1, K0⟩ := K0
  refine s_iald (pc := 8) dX8_isSeries_8 k_b0_1 i_1 ?_
  refine r_iconst (pc := 9) (v := 1) dX8_isSeries_9 (by decide) ?_
  refine r_isub (pc := 10) dX8_isSeries_10 ?_
  refine r_i2l (pc := 11) dX8_isSeries_11 ?_
  refine s_SI (pc := 12) mX8_in (As := [.long ((l1 : Int32).toInt64), .long 0, .long ((((gi x b0_1 2) - 1) : Int32).toInt64)]) dX8_isSeries_12 lk_X8_45 st_X8_in mo_X8_in ⟨by decide, by decide⟩ (Nat.le_of_ble_eq_true rfl) (sq_X8_in (v := l1) (lo := 0) (hi := ((gi x b0_1 2) - 1)) rfl (by decide) rfl ?_)
  exact s_zret rfl (b2i_01 _) dX8_isSeries_15 K0
set_option maxHeartbeats 2000000 in
theorem v_X8_isAsk_0 {K : Sh} {x : Cn} {Q : Int32 → Cn → Prop} {b0 : Nat} {l1 : Int32} {b0_1 : Nat} {n_b0_1 : Nat} (k_b0 : kk K b0 = some (8, 0)) (g_b0_1 : gr x b0 1 = some b0_1) (k_b0_1 : kk K b0_1 = some (20, n_b0_1)) (K0 : vp_in 3 n_b0_1 ∧ (Q (b2i (0 ≤ l1 ∧ l1 ≤ ((gi x b0_1 3) - 1))) x)) : mSI mX8_isAsk [.ref b0, .int l1] K x Q := by
  refine s_I (by decide) (by simp [Value.category]) (Nat.le_of_ble_eq_true rfl) ?_
  show mGM mX8_isAsk 0 [some (.ref b0), some (.int l1)] [] (hp K x) (PI K Q)
  refine r_iload_n (pc := 0) dX8_isAsk_0 rfl ?_
  refine r_i2l (pc := 1) dX8_isAsk_1 ?_
  refine r_lconst (pc := 2) (v := 0) dX8_isAsk_2 (by decide) ?_
  refine r_aload_n (pc := 3) dX8_isAsk_3 rfl ?_
  refine s_getR (pc := 4) dX8_isAsk_4 fl_X8_9 rfl k_b0 g_b0_1 ?_
  refine r_iconst (pc := 7) (v := 3) dX8_isAsk_7 (by decide) ?_
  obtain ⟨i_1, K0⟩ := K0
  refine s_iald (pc := 8) dX8_isAsk_8 k_b0_1 i_1 ?_
  refine r_iconst (pc := 9) (v := 1) dX8_isAsk_9 (by decide) ?_
  refine r_isub (pc := 10) dX8_isAsk_10 ?_
  refine r_i2l (pc := 11) dX8_isAsk_11 ?_
  refine s_SI (pc := 12) mX8_in (As := [.long ((l1 : Int32).toInt64), .long 0, .long ((((gi x b0_1 3) - 1) : Int32).toInt64)]) dX8_isAsk_12 lk_X8_45 st_X8_in mo_X8_in ⟨by decide, by decide⟩ (Nat.le_of_ble_eq_true rfl) (sq_X8_in (v := l1) (lo := 0) (hi := ((gi x b0_1 3) - 1)) rfl (by decide) rfl ?_)
  exact s_zret rfl (b2i_01 _) dX8_isAsk_15 K0
set_option maxHeartbeats 2000000 in
theorem v_X8_isCarrier_0 {K : Sh} {x : Cn} {Q : Int32 → Cn → Prop} {b0 : Nat} {l1 : Int32} {b0_1 : Nat} {n_b0_1 : Nat} (k_b0 : kk K b0 = some (8, 0)) (g_b0_1 : gr x b0 1 = some b0_1) (k_b0_1 : kk K b0_1 = some (20, n_b0_1)) (K0 : vp_in 1 n_b0_1 ∧ (Q (b2i (0 ≤ l1 ∧ l1 ≤ ((gi x b0_1 1) - 1))) x)) : mSI mX8_isCarrier [.ref b0, .int l1] K x Q := by
  refine s_I (by decide) (by simp [Value.category]) (Nat.le_of_ble_eq_true rfl) ?_
  show mGM mX8_isCarrier 0 [some (.ref b0), some (.int l1)] [] (hp K x) (PI K Q)
  refine r_iload_n (pc := 0) dX8_isCarrier_0 rfl ?_
  refine r_i2l (pc := 1) dX8_isCarrier_1 ?_
  refine r_lconst (pc := 2) (v := 0) dX8_isCarrier_2 (by decide) ?_
  refine r_aload_n (pc := 3) dX8_isCarrier_3 rfl ?_
  refine s_getR (pc := 4) dX8_isCarrier_4 fl_X8_9 rfl k_b0 g_b0_1 ?_
  refine r_iconst (pc := 7) (v := 1) dX8_isCarrier_7 (by decide) ?_
  obtain ⟨i_1, K0⟩ := K0
  refine s_iald (pc := 8) dX8_isCarrier_8 k_b0_1 i_1 ?_
  refine r_iconst (pc := 9) (v := 1) dX8_isCarrier_9 (by decide) ?_
  refine r_isub (pc := 10) dX8_isCarrier_10 ?_
  refine r_i2l (pc := 11) dX8_isCarrier_11 ?_
  refine s_SI (pc := 12) mX8_in (As := [.long ((l1 : Int32).toInt64), .long 0, .long ((((gi x b0_1 1) - 1) : Int32).toInt64)]) dX8_isCarrier_12 lk_X8_45 st_X8_in mo_X8_in ⟨by decide, by decide⟩ (Nat.le_of_ble_eq_true rfl) (sq_X8_in (v := l1) (lo := 0) (hi := ((gi x b0_1 1) - 1)) rfl (by decide) rfl ?_)
  exact s_zret rfl (b2i_01 _) dX8_isCarrier_15 K0
set_option maxHeartbeats 2000000 in
theorem v_X8_isWeek_0 {K : Sh} {x : Cn} {Q : Int32 → Cn → Prop} {b0 : Nat} {l1 : Int32} {b0_1 : Nat} {n_b0_1 : Nat} (k_b0 : kk K b0 = some (8, 0)) (g_b0_1 : gr x b0 1 = some b0_1) (k_b0_1 : kk K b0_1 = some (20, n_b0_1)) (K0 : vp_in 0 n_b0_1 ∧ (Q (b2i (0 ≤ l1 ∧ l1 ≤ ((gi x b0_1 0) - 1))) x)) : mSI mX8_isWeek [.ref b0, .int l1] K x Q := by
  refine s_I (by decide) (by simp [Value.category]) (Nat.le_of_ble_eq_true rfl) ?_
  show mGM mX8_isWeek 0 [some (.ref b0), some (.int l1)] [] (hp K x) (PI K Q)
  refine r_iload_n (pc := 0) dX8_isWeek_0 rfl ?_
  refine r_i2l (pc := 1) dX8_isWeek_1 ?_
  refine r_lconst (pc := 2) (v := 0) dX8_isWeek_2 (by decide) ?_
  refine r_aload_n (pc := 3) dX8_isWeek_3 rfl ?_
  refine s_getR (pc := 4) dX8_isWeek_4 fl_X8_9 rfl k_b0 g_b0_1 ?_
  refine r_iconst (pc := 7) (v := 0) dX8_isWeek_7 (by decide) ?_
  obtain ⟨i_1, K0⟩ := K0
  refine s_iald (pc := 8) dX8_isWeek_8 k_b0_1 i_1 ?_
  refine r_iconst (pc := 9) (v := 1) dX8_isWeek_9 (by decide) ?_
  refine r_isub (pc := 10) dX8_isWeek_10 ?_
  refine r_i2l (pc := 11) dX8_isWeek_11 ?_
  refine s_SI (pc := 12) mX8_in (As := [.long ((l1 : Int32).toInt64), .long 0, .long ((((gi x b0_1 0) - 1) : Int32).toInt64)]) dX8_isWeek_12 lk_X8_45 st_X8_in mo_X8_in ⟨by decide, by decide⟩ (Nat.le_of_ble_eq_true rfl) (sq_X8_in (v := l1) (lo := 0) (hi := ((gi x b0_1 0) - 1)) rfl (by decide) rfl ?_)
  exact s_zret rfl (b2i_01 _) dX8_isWeek_15 K0
set_option maxHeartbeats 2000000 in
theorem v_X8_good_0 {K : Sh} {x : Cn} {Q : Int32 → Cn → Prop} {b0 : Nat}  (k_b0 : kk K b0 = some (8, 0)) (K0 : (¬ (gi x b0 11) = 0 → (Q 0 x)) ∧ ((gi x b0 11) = 0 → (Q 1 x))) : mSI mX8_good [.ref b0] K x Q := by
  refine s_I (by decide) (by simp [Value.category]) (Nat.le_of_ble_eq_true rfl) ?_
  show mGM mX8_good 0 [some (.ref b0)] [] (hp K x) (PI K Q)
  refine r_aload_n (pc := 0) dX8_good_0 rfl ?_
  refine s_getI (pc := 1) dX8_good_1 fl_X8_101 rfl k_b0 ?_
  refine r_if_ne (pc := 4) (tgt := 11) dX8_good_4 (by decide) (fun q => ?_) (fun q => ?_)
  · have K0 := K0.1 q
    refine r_iconst (pc := 11) (v := 0) dX8_good_11 (by decide) ?_
    exact s_zret rfl (by decide) dX8_good_12 K0
  · have K0 := K0.2 q
    refine r_iconst (pc := 7) (v := 1) dX8_good_7 (by decide) ?_
    refine r_goto (pc := 8) (tgt := 12) dX8_good_8 (by decide) ?_
    exact s_zret rfl (by decide) dX8_good_12 K0
set_option maxHeartbeats 2000000 in
theorem v_X8_isComing_0 {K : Sh} {x : Cn} {Q : Int32 → Cn → Prop} {b0 : Nat} {l1 : Int32} {b0_1 : Nat} {n_b0_1 : Nat} (k_b0 : kk K b0 = some (8, 0)) (g_b0_1 : gr x b0 1 = some b0_1) (k_b0_1 : kk K b0_1 = some (20, n_b0_1)) (K0 : vp_in 4 n_b0_1 ∧ ((l1 < (gi x b0_1 4) → (Q 0 x)) ∧ (¬ l1 < (gi x b0_1 4) → (Q 1 x)))) : mSI mX8_isComing [.ref b0, .int l1] K x Q := by
  refine s_I (by decide) (by simp [Value.category]) (Nat.le_of_ble_eq_true rfl) ?_
  show mGM mX8_isComing 0 [some (.ref b0), some (.int l1)] [] (hp K x) (PI K Q)
  refine r_iload_n (pc := 0) dX8_isComing_0 rfl ?_
  refine r_aload_n (pc := 1) dX8_isComing_1 rfl ?_
  refine s_getR (pc := 2) dX8_isComing_2 fl_X8_9 rfl k_b0 g_b0_1 ?_
  refine r_iconst (pc := 5) (v := 4) dX8_isComing_5 (by decide) ?_
  obtain ⟨i_1, K0⟩ := K0
  refine s_iald (pc := 6) dX8_isComing_6 k_b0_1 i_1 ?_
  refine r_icmp_lt (pc := 7) (tgt := 14) dX8_isComing_7 (by decide) (fun q => ?_) (fun q => ?_)
  · have K0 := K0.1 q
    refine r_iconst (pc := 14) (v := 0) dX8_isComing_14 (by decide) ?_
    exact s_zret rfl (by decide) dX8_isComing_15 K0
  · have K0 := K0.2 q
    refine r_iconst (pc := 10) (v := 1) dX8_isComing_10 (by decide) ?_
    refine r_goto (pc := 11) (tgt := 15) dX8_isComing_11 (by decide) ?_
    exact s_zret rfl (by decide) dX8_isComing_15 K0
set_option maxHeartbeats 2000000 in
theorem v_X5_openBits_0 {K : Sh} {x : Cn} {Q : Int32 → Cn → Prop} {b0 : Nat}  (k_b0 : kk K b0 = some (5, 0)) (K0 : Q ((gi x b0 7) &&& (((((gi x b0 8) ||| (gi x b0 9)) ||| (gi x b0 10)) ||| (gi x b0 11)) ^^^ (-1))) x) : mSI mX5_openBits [.ref b0] K x Q := by
  refine s_I (by decide) (by simp [Value.category]) (Nat.le_of_ble_eq_true rfl) ?_
  show mGM mX5_openBits 0 [some (.ref b0)] [] (hp K x) (PI K Q)
  refine r_aload_n (pc := 0) dX5_openBits_0 rfl ?_
  refine s_getI (pc := 1) dX5_openBits_1 fl_X5_34 rfl k_b0 ?_
  refine r_aload_n (pc := 4) dX5_openBits_4 rfl ?_
  refine s_getI (pc := 5) dX5_openBits_5 fl_X5_37 rfl k_b0 ?_
  refine r_aload_n (pc := 8) dX5_openBits_8 rfl ?_
  refine s_getI (pc := 9) dX5_openBits_9 fl_X5_40 rfl k_b0 ?_
  refine r_ior (pc := 12) dX5_openBits_12 ?_
  refine r_aload_n (pc := 13) dX5_openBits_13 rfl ?_
  refine s_getI (pc := 14) dX5_openBits_14 fl_X5_43 rfl k_b0 ?_
  refine r_ior (pc := 17) dX5_openBits_17 ?_
  refine r_aload_n (pc := 18) dX5_openBits_18 rfl ?_
  refine s_getI (pc := 19) dX5_openBits_19 fl_X5_46 rfl k_b0 ?_
  refine r_ior (pc := 22) dX5_openBits_22 ?_
  refine r_iconst (pc := 23) (v := (-1)) dX5_openBits_23 (by decide) ?_
  refine r_ixor (pc := 24) dX5_openBits_24 ?_
  refine r_iand (pc := 25) dX5_openBits_25 ?_
  exact s_iret rfl dX5_openBits_26 K0
set_option maxHeartbeats 2000000 in
theorem v_X5_heldBits_0 {K : Sh} {x : Cn} {Q : Int32 → Cn → Prop} {b0 : Nat}  (k_b0 : kk K b0 = some (5, 0)) (K0 : Q ((gi x b0 7) &&& ((gi x b0 11) ^^^ (-1))) x) : mSI mX5_heldBits [.ref b0] K x Q := by
  refine s_I (by decide) (by simp [Value.category]) (Nat.le_of_ble_eq_true rfl) ?_
  show mGM mX5_heldBits 0 [some (.ref b0)] [] (hp K x) (PI K Q)
  refine r_aload_n (pc := 0) dX5_heldBits_0 rfl ?_
  refine s_getI (pc := 1) dX5_heldBits_1 fl_X5_34 rfl k_b0 ?_
  refine r_aload_n (pc := 4) dX5_heldBits_4 rfl ?_
  refine s_getI (pc := 5) dX5_heldBits_5 fl_X5_46 rfl k_b0 ?_
  refine r_iconst (pc := 8) (v := (-1)) dX5_heldBits_8 (by decide) ?_
  refine r_ixor (pc := 9) dX5_heldBits_9 ?_
  refine r_iand (pc := 10) dX5_heldBits_10 ?_
  exact s_iret rfl dX5_heldBits_11 K0
set_option maxHeartbeats 2000000 in
theorem v_X5_isOf_0 {K : Sh} {x : Cn} {Q : Int32 → Cn → Prop} {b0 : Nat} {l1 : Int32} {l2 : Int32}  (k_b0 : kk K b0 = some (5, 0)) (K0 : (¬ (gi x b0 0) = l1 → (Q 0 x)) ∧ ((gi x b0 0) = l1 → ((l2 = (-1) → (Q 1 x)) ∧ (¬ l2 = (-1) → ((¬ (gi x b0 1) = l2 → (Q 0 x)) ∧ ((gi x b0 1) = l2 → (Q 1 x))))))) : mSI mX5_isOf [.ref b0, .int l1, .int l2] K x Q := by
  refine s_I (by decide) (by simp [Value.category]) (Nat.le_of_ble_eq_true rfl) ?_
  show mGM mX5_isOf 0 [some (.ref b0), some (.int l1), some (.int l2)] [] (hp K x) (PI K Q)
  refine r_aload_n (pc := 0) dX5_isOf_0 rfl ?_
  refine s_getI (pc := 1) dX5_isOf_1 fl_X5_9 rfl k_b0 ?_
  refine r_iload_n (pc := 4) dX5_isOf_4 rfl ?_
  refine r_icmp_ne (pc := 5) (tgt := 25) dX5_isOf_5 (by decide) (fun q => ?_) (fun q => ?_)
  · have K0 := K0.1 q
    refine r_iconst (pc := 25) (v := 0) dX5_isOf_25 (by decide) ?_
    exact s_zret rfl (by decide) dX5_isOf_26 K0
  · have K0 := K0.2 q
    refine r_iload_n (pc := 8) dX5_isOf_8 rfl ?_
    refine r_iconst (pc := 9) (v := (-1)) dX5_isOf_9 (by decide) ?_
    refine r_icmp_eq (pc := 10) (tgt := 21) dX5_isOf_10 (by decide) (fun q => ?_) (fun q => ?_)
    · have K0 := K0.1 q
      refine r_iconst (pc := 21) (v := 1) dX5_isOf_21 (by decide) ?_
      refine r_goto (pc := 22) (tgt := 26) dX5_isOf_22 (by decide) ?_
      exact s_zret rfl (by decide) dX5_isOf_26 K0
    · have K0 := K0.2 q
      refine r_aload_n (pc := 13) dX5_isOf_13 rfl ?_
      refine s_getI (pc := 14) dX5_isOf_14 fl_X5_15 rfl k_b0 ?_
      refine r_iload_n (pc := 17) dX5_isOf_17 rfl ?_
      refine r_icmp_ne (pc := 18) (tgt := 25) dX5_isOf_18 (by decide) (fun q => ?_) (fun q => ?_)
      · have K0 := K0.1 q
        refine r_iconst (pc := 25) (v := 0) dX5_isOf_25 (by decide) ?_
        exact s_zret rfl (by decide) dX5_isOf_26 K0
      · have K0 := K0.2 q
        refine r_iconst (pc := 21) (v := 1) dX5_isOf_21 (by decide) ?_
        refine r_goto (pc := 22) (tgt := 26) dX5_isOf_22 (by decide) ?_
        exact s_zret rfl (by decide) dX5_isOf_26 K0
set_option maxHeartbeats 2000000 in
theorem v_X0_wantedBits_0 {K : Sh} {x : Cn} {Q : Int32 → Cn → Prop} {b0 : Nat}  (k_b0 : kk K b0 = some (0, 0)) (K0 : Q (f_sb (gi x b0 4) (gi x b0 5)) x) : mSI mX0_wantedBits [.ref b0] K x Q := by
  refine s_I (by decide) (by simp [Value.category]) (Nat.le_of_ble_eq_true rfl) ?_
  show mGM mX0_wantedBits 0 [some (.ref b0)] [] (hp K x) (PI K Q)
  refine r_aload_n (pc := 0) dX0_wantedBits_0 rfl ?_
  refine s_getI (pc := 1) dX0_wantedBits_1 fl_X0_22 rfl k_b0 ?_
  refine r_aload_n (pc := 4) dX0_wantedBits_4 rfl ?_
  refine s_getI (pc := 5) dX0_wantedBits_5 fl_X0_25 rfl k_b0 ?_
  refine s_SNI (pc := 8) mX7_spanBits (As := [.int (gi x b0 4), .int (gi x b0 5)]) dX0_wantedBits_8 nl_X0_39 st_X7_spanBits mo_X7_spanBits ⟨by decide, by decide⟩ (Nat.le_of_ble_eq_true rfl) (sp_X7_spanBits  ?_)
  exact s_iret rfl dX0_wantedBits_11 K0
set_option maxHeartbeats 2000000 in
theorem v_X4_isOver_0 {K : Sh} {x : Cn} {Q : Int32 → Cn → Prop} {b0 : Nat}  (k_b0 : kk K b0 = some (4, 0)) (K0 : ((gi x b0 1) < (gi x b0 0) → (Q 0 x)) ∧ (¬ (gi x b0 1) < (gi x b0 0) → (Q 1 x))) : mSI mX4_isOver [.ref b0] K x Q := by
  refine s_I (by decide) (by simp [Value.category]) (Nat.le_of_ble_eq_true rfl) ?_
  show mGM mX4_isOver 0 [some (.ref b0)] [] (hp K x) (PI K Q)
  refine r_aload_n (pc := 0) dX4_isOver_0 rfl ?_
  refine s_getI (pc := 1) dX4_isOver_1 fl_X4_15 rfl k_b0 ?_
  refine r_aload_n (pc := 4) dX4_isOver_4 rfl ?_
  refine s_getI (pc := 5) dX4_isOver_5 fl_X4_9 rfl k_b0 ?_
  refine r_icmp_lt (pc := 8) (tgt := 15) dX4_isOver_8 (by decide) (fun q => ?_) (fun q => ?_)
  · have K0 := K0.1 q
    refine r_iconst (pc := 15) (v := 0) dX4_isOver_15 (by decide) ?_
    exact s_zret rfl (by decide) dX4_isOver_16 K0
  · have K0 := K0.2 q
    refine r_iconst (pc := 11) (v := 1) dX4_isOver_11 (by decide) ?_
    refine r_goto (pc := 12) (tgt := 16) dX4_isOver_12 (by decide) ?_
    exact s_zret rfl (by decide) dX4_isOver_16 K0
set_option maxHeartbeats 2000000 in
theorem v_X7_hasText_0 {K : Sh} {x : Cn} {Q : Int32 → Cn → Prop} {b0 : Nat} {b0_2 : Nat} (k_b0 : kk K b0 = some (7, 0)) (g_b0_2 : gr x b0 2 = some b0_2) (k_b0_2 : kk K b0_2 = some (4, 0)) (K0 : ((gi x b0_2 0) ≤ 0 → (Q 0 x)) ∧ (¬ (gi x b0_2 0) ≤ 0 → (Q 1 x))) : mSI mX7_hasText [.ref b0] K x Q := by
  refine s_I (by decide) (by simp [Value.category]) (Nat.le_of_ble_eq_true rfl) ?_
  show mGM mX7_hasText 0 [some (.ref b0)] [] (hp K x) (PI K Q)
  refine r_aload_n (pc := 0) dX7_hasText_0 rfl ?_
  refine s_getR (pc := 1) dX7_hasText_1 fl_X7_20 rfl k_b0 g_b0_2 ?_
  refine s_getI (pc := 4) dX7_hasText_4 fl_X7_91 rfl k_b0_2 ?_
  refine r_if_le (pc := 7) (tgt := 14) dX7_hasText_7 (by decide) (fun q => ?_) (fun q => ?_)
  · have K0 := K0.1 q
    refine r_iconst (pc := 14) (v := 0) dX7_hasText_14 (by decide) ?_
    exact s_zret rfl (by decide) dX7_hasText_15 K0
  · have K0 := K0.2 q
    refine r_iconst (pc := 10) (v := 1) dX7_hasText_10 (by decide) ?_
    refine r_goto (pc := 11) (tgt := 15) dX7_hasText_11 (by decide) ?_
    exact s_zret rfl (by decide) dX7_hasText_15 K0
set_option maxHeartbeats 2000000 in
theorem v_X7_isSeries_0 {K : Sh} {x : Cn} {Q : Int32 → Cn → Prop} {b0 : Nat} {l1 : Int32} {b0_2 : Nat} (k_b0 : kk K b0 = some (7, 0)) (g_b0_2 : gr x b0 2 = some b0_2) (k_b0_2 : kk K b0_2 = some (4, 0)) (K0 : (l1 < 0 → (Q 0 x)) ∧ (¬ l1 < 0 → (((gi x b0_2 3) ≤ l1 → (Q 0 x)) ∧ (¬ (gi x b0_2 3) ≤ l1 → (Q 1 x))))) : mSI mX7_isSeries [.ref b0, .int l1] K x Q := by
  refine s_I (by decide) (by simp [Value.category]) (Nat.le_of_ble_eq_true rfl) ?_
  show mGM mX7_isSeries 0 [some (.ref b0), some (.int l1)] [] (hp K x) (PI K Q)
  refine r_iload_n (pc := 0) dX7_isSeries_0 rfl ?_
  refine r_if_lt (pc := 1) (tgt := 19) dX7_isSeries_1 (by decide) (fun q => ?_) (fun q => ?_)
  · have K0 := K0.1 q
    refine r_iconst (pc := 19) (v := 0) dX7_isSeries_19 (by decide) ?_
    exact s_zret rfl (by decide) dX7_isSeries_20 K0
  · have K0 := K0.2 q
    refine r_iload_n (pc := 4) dX7_isSeries_4 rfl ?_
    refine r_aload_n (pc := 5) dX7_isSeries_5 rfl ?_
    refine s_getR (pc := 6) dX7_isSeries_6 fl_X7_20 rfl k_b0 g_b0_2 ?_
    refine s_getI (pc := 9) dX7_isSeries_9 fl_X7_97 rfl k_b0_2 ?_
    refine r_icmp_ge (pc := 12) (tgt := 19) dX7_isSeries_12 (by decide) (fun q => ?_) (fun q => ?_)
    · have K0 := K0.1 q
      refine r_iconst (pc := 19) (v := 0) dX7_isSeries_19 (by decide) ?_
      exact s_zret rfl (by decide) dX7_isSeries_20 K0
    · have K0 := K0.2 q
      refine r_iconst (pc := 15) (v := 1) dX7_isSeries_15 (by decide) ?_
      refine r_goto (pc := 16) (tgt := 20) dX7_isSeries_16 (by decide) ?_
      exact s_zret rfl (by decide) dX7_isSeries_20 K0
set_option maxHeartbeats 2000000 in
theorem v_X7_isAsk_0 {K : Sh} {x : Cn} {Q : Int32 → Cn → Prop} {b0 : Nat} {l1 : Int32} {b0_2 : Nat} (k_b0 : kk K b0 = some (7, 0)) (g_b0_2 : gr x b0 2 = some b0_2) (k_b0_2 : kk K b0_2 = some (4, 0)) (K0 : (l1 < 0 → (Q 0 x)) ∧ (¬ l1 < 0 → (((gi x b0_2 4) ≤ l1 → (Q 0 x)) ∧ (¬ (gi x b0_2 4) ≤ l1 → (Q 1 x))))) : mSI mX7_isAsk [.ref b0, .int l1] K x Q := by
  refine s_I (by decide) (by simp [Value.category]) (Nat.le_of_ble_eq_true rfl) ?_
  show mGM mX7_isAsk 0 [some (.ref b0), some (.int l1)] [] (hp K x) (PI K Q)
  refine r_iload_n (pc := 0) dX7_isAsk_0 rfl ?_
  refine r_if_lt (pc := 1) (tgt := 19) dX7_isAsk_1 (by decide) (fun q => ?_) (fun q => ?_)
  · have K0 := K0.1 q
    refine r_iconst (pc := 19) (v := 0) dX7_isAsk_19 (by decide) ?_
    exact s_zret rfl (by decide) dX7_isAsk_20 K0
  · have K0 := K0.2 q
    refine r_iload_n (pc := 4) dX7_isAsk_4 rfl ?_
    refine r_aload_n (pc := 5) dX7_isAsk_5 rfl ?_
    refine s_getR (pc := 6) dX7_isAsk_6 fl_X7_20 rfl k_b0 g_b0_2 ?_
    refine s_getI (pc := 9) dX7_isAsk_9 fl_X7_100 rfl k_b0_2 ?_
    refine r_icmp_ge (pc := 12) (tgt := 19) dX7_isAsk_12 (by decide) (fun q => ?_) (fun q => ?_)
    · have K0 := K0.1 q
      refine r_iconst (pc := 19) (v := 0) dX7_isAsk_19 (by decide) ?_
      exact s_zret rfl (by decide) dX7_isAsk_20 K0
    · have K0 := K0.2 q
      refine r_iconst (pc := 15) (v := 1) dX7_isAsk_15 (by decide) ?_
      refine r_goto (pc := 16) (tgt := 20) dX7_isAsk_16 (by decide) ?_
      exact s_zret rfl (by decide) dX7_isAsk_20 K0
set_option maxHeartbeats 2000000 in
theorem v_X7_isCarrier_0 {K : Sh} {x : Cn} {Q : Int32 → Cn → Prop} {b0 : Nat} {l1 : Int32} {b0_3 : Nat} (k_b0 : kk K b0 = some (7, 0)) (g_b0_3 : gr x b0 3 = some b0_3) (k_b0_3 : kk K b0_3 = some (1, 0)) (K0 : (l1 < 0 → (Q 0 x)) ∧ (¬ l1 < 0 → (((gi x b0_3 0) ≤ l1 → (Q 0 x)) ∧ (¬ (gi x b0_3 0) ≤ l1 → (Q 1 x))))) : mSI mX7_isCarrier [.ref b0, .int l1] K x Q := by
  refine s_I (by decide) (by simp [Value.category]) (Nat.le_of_ble_eq_true rfl) ?_
  show mGM mX7_isCarrier 0 [some (.ref b0), some (.int l1)] [] (hp K x) (PI K Q)
  refine r_iload_n (pc := 0) dX7_isCarrier_0 rfl ?_
  refine r_if_lt (pc := 1) (tgt := 19) dX7_isCarrier_1 (by decide) (fun q => ?_) (fun q => ?_)
  · have K0 := K0.1 q
    refine r_iconst (pc := 19) (v := 0) dX7_isCarrier_19 (by decide) ?_
    exact s_zret rfl (by decide) dX7_isCarrier_20 K0
  · have K0 := K0.2 q
    refine r_iload_n (pc := 4) dX7_isCarrier_4 rfl ?_
    refine r_aload_n (pc := 5) dX7_isCarrier_5 rfl ?_
    refine s_getR (pc := 6) dX7_isCarrier_6 fl_X7_27 rfl k_b0 g_b0_3 ?_
    refine s_getI (pc := 9) dX7_isCarrier_9 fl_X7_94 rfl k_b0_3 ?_
    refine r_icmp_ge (pc := 12) (tgt := 19) dX7_isCarrier_12 (by decide) (fun q => ?_) (fun q => ?_)
    · have K0 := K0.1 q
      refine r_iconst (pc := 19) (v := 0) dX7_isCarrier_19 (by decide) ?_
      exact s_zret rfl (by decide) dX7_isCarrier_20 K0
    · have K0 := K0.2 q
      refine r_iconst (pc := 15) (v := 1) dX7_isCarrier_15 (by decide) ?_
      refine r_goto (pc := 16) (tgt := 20) dX7_isCarrier_16 (by decide) ?_
      exact s_zret rfl (by decide) dX7_isCarrier_20 K0
set_option maxHeartbeats 2000000 in
theorem v_X7_isWeek_0 {K : Sh} {x : Cn} {Q : Int32 → Cn → Prop} {b0 : Nat} {l1 : Int32} {b0_2 : Nat} (k_b0 : kk K b0 = some (7, 0)) (g_b0_2 : gr x b0 2 = some b0_2) (k_b0_2 : kk K b0_2 = some (4, 0)) (K0 : (l1 < 0 → (Q 0 x)) ∧ (¬ l1 < 0 → (((gi x b0_2 0) ≤ l1 → (Q 0 x)) ∧ (¬ (gi x b0_2 0) ≤ l1 → (Q 1 x))))) : mSI mX7_isWeek [.ref b0, .int l1] K x Q := by
  refine s_I (by decide) (by simp [Value.category]) (Nat.le_of_ble_eq_true rfl) ?_
  show mGM mX7_isWeek 0 [some (.ref b0), some (.int l1)] [] (hp K x) (PI K Q)
  refine r_iload_n (pc := 0) dX7_isWeek_0 rfl ?_
  refine r_if_lt (pc := 1) (tgt := 19) dX7_isWeek_1 (by decide) (fun q => ?_) (fun q => ?_)
  · have K0 := K0.1 q
    refine r_iconst (pc := 19) (v := 0) dX7_isWeek_19 (by decide) ?_
    exact s_zret rfl (by decide) dX7_isWeek_20 K0
  · have K0 := K0.2 q
    refine r_iload_n (pc := 4) dX7_isWeek_4 rfl ?_
    refine r_aload_n (pc := 5) dX7_isWeek_5 rfl ?_
    refine s_getR (pc := 6) dX7_isWeek_6 fl_X7_20 rfl k_b0 g_b0_2 ?_
    refine s_getI (pc := 9) dX7_isWeek_9 fl_X7_91 rfl k_b0_2 ?_
    refine r_icmp_ge (pc := 12) (tgt := 19) dX7_isWeek_12 (by decide) (fun q => ?_) (fun q => ?_)
    · have K0 := K0.1 q
      refine r_iconst (pc := 19) (v := 0) dX7_isWeek_19 (by decide) ?_
      exact s_zret rfl (by decide) dX7_isWeek_20 K0
    · have K0 := K0.2 q
      refine r_iconst (pc := 15) (v := 1) dX7_isWeek_15 (by decide) ?_
      refine r_goto (pc := 16) (tgt := 20) dX7_isWeek_16 (by decide) ?_
      exact s_zret rfl (by decide) dX7_isWeek_20 K0

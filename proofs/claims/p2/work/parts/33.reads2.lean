theorem ixh {h : Nat} : ((6 : Int32) + (2 * nI h)) = nI (6 + 2 * h) := by rw [show (6 : Int32) = nI 6 by decide, show (2 : Int32) = nI 2 by decide, pk_mul, nI_add]
theorem ixh1 {h : Nat} : (((6 : Int32) + (2 * nI h)) + 1) = nI (7 + 2 * h) := by rw [ixh, nI_1]; congr 1; omega
theorem d7 {l : Int32} : (0 ≤ l ∧ l ≤ 6) ↔ (0 ≤ l ∧ l < 7) := by
  have a2 := inN' (v := l) (n := 7) (by decide)
  rwa [show nI 7 - 1 = (6 : Int32) by decide, show nI 7 = (7 : Int32) by decide] at a2
theorem d24 {l : Int32} : (0 ≤ l ∧ l ≤ 23) ↔ (0 ≤ l ∧ l < 24) := by
  have a2 := inN' (v := l) (n := 24) (by decide)
  rwa [show nI 24 - 1 = (23 : Int32) by decide, show nI 24 = (24 : Int32) by decide] at a2
set_option maxHeartbeats 2000000 in
theorem v_X7_series_0 {K : Sh} {x : Cn} {Q : Int32 → Cn → Prop} {b0 : Nat} {l1 : Int32} {l2 : Int32} {b0_2 : Nat} {b0_2_7 : Nat} {n_b0_2_7 : Nat} (k_b0 : kk K b0 = some (7, 0)) (g_b0_2 : gr x b0 2 = some b0_2) (k_b0_2 : kk K b0_2 = some (4, 0)) (g_b0_2_7 : gr x b0_2 7 = some b0_2_7) (k_b0_2_7 : kk K b0_2_7 = some (23, n_b0_2_7)) (K0 : ((0 ≤ l1 ∧ l1 < gi x b0_2 3) → (vp_in l1 n_b0_2_7 ∧ (∃ c_3 : Nat, gr x b0_2_7 ((l1 : Int32).toNatClampNeg) = some c_3 ∧ ((l2 = 0 → (kk K c_3 = some (5, 0) ∧ (Q (gi x c_3 0) x))) ∧ (l2 = 1 → (kk K c_3 = some (5, 0) ∧ (Q (gi x c_3 1) x))) ∧ (l2 = 2 → (kk K c_3 = some (5, 0) ∧ (Q (gi x c_3 2) x))) ∧ (l2 = 3 → (kk K c_3 = some (5, 0) ∧ (Q (gi x c_3 3) x))) ∧ (l2 = 4 → (kk K c_3 = some (5, 0) ∧ (((gi x c_3 4) = 0 → (Q 0 x)) ∧ (¬ (gi x c_3 4) = 0 → (Q 1 x))))) ∧ (l2 = 5 → (kk K c_3 = some (5, 0) ∧ (Q (gi x c_3 7) x))) ∧ ((¬ l2 = 0 ∧ ¬ l2 = 1 ∧ ¬ l2 = 2 ∧ ¬ l2 = 3 ∧ ¬ l2 = 4 ∧ ¬ l2 = 5) → (Q (-2) x)))))) ∧ (¬ (0 ≤ l1 ∧ l1 < gi x b0_2 3) → (Q (-2) x))) : mSI mX7_series [.ref b0, .int l1, .int l2] K x Q := by
  refine s_I (by decide) (by simp [Value.category]) (Nat.le_of_ble_eq_true rfl) ?_
  show mGM mX7_series 0 [some (.ref b0), some (.int l1), some (.int l2), none] [] (hp K x) (PI K Q)
  refine r_aload_n (pc := 0) dX7_series_0 rfl ?_
  refine r_iload_n (pc := 1) dX7_series_1 rfl ?_
  refine s_VI (pc := 2) mX7_isSeries (ci := 7) (a := b0) (As := [.int l1]) dX7_series_2 lk_X7_132 in_X7_isSeries mo_X7_isSeries ⟨by decide, rfl⟩ ⟨by decide, by decide⟩ (Nat.le_of_ble_eq_true rfl) k_b0 (sp_X7_isSeries k_b0 g_b0_2 k_b0_2 ?_)
  refine r_if_ne (pc := 5) (tgt := 11) dX7_series_5 (by decide) (fun q => ?_) (fun q => ?_)
  · have q := b2i_nz q
    have K0 := K0.1 q
    refine r_aload_n (pc := 11) dX7_series_11 rfl ?_
    refine s_getR (pc := 12) dX7_series_12 fl_X7_20 rfl k_b0 g_b0_2 ?_
    refine s_getR (pc := 15) dX7_series_15 fl_X7_135 rfl k_b0_2 g_b0_2_7 ?_
    refine r_iload_n (pc := 18) dX7_series_18 rfl ?_
    obtain ⟨i_2, K0⟩ := K0
    obtain ⟨c_3, g_4, K0⟩ := K0
    refine s_aald (pc := 19) dX7_series_19 (by decide) rfl k_b0_2_7 i_2 g_4 ?_
    refine r_astore_n (pc := 20) dX7_series_20 (by decide) ?_
    refine r_iload_n (pc := 21) (L := [some (.ref b0), some (.int l1), some (.int l2), some (.ref c_3)]) dX7_series_21 rfl ?_
    by_cases q0 : l2 = 0
    · have K0 := K0.1 q0
      refine r_tabIn (pc := 22) (tgt := 60) (off := 38) dX7_series_22 (by rw [q0]; decide) (by rw [q0]; decide) (by rw [q0]; decide) (by decide) ?_
      refine r_aload_n (pc := 60) dX7_series_60 rfl ?_
      obtain ⟨e_5, K0⟩ := K0
      refine s_getI (pc := 61) dX7_series_61 fl_X7_139 rfl e_5 ?_
      exact s_iret rfl dX7_series_64 K0
    have K0 := K0.2
    by_cases q1 : l2 = 1
    · have K0 := K0.1 q1
      refine r_tabIn (pc := 22) (tgt := 65) (off := 43) dX7_series_22 (by rw [q1]; decide) (by rw [q1]; decide) (by rw [q1]; decide) (by decide) ?_
      refine r_aload_n (pc := 65) dX7_series_65 rfl ?_
      obtain ⟨e_6, K0⟩ := K0
      refine s_getI (pc := 66) dX7_series_66 fl_X7_144 rfl e_6 ?_
      exact s_iret rfl dX7_series_69 K0
    have K0 := K0.2
    by_cases q2 : l2 = 2
    · have K0 := K0.1 q2
      refine r_tabIn (pc := 22) (tgt := 70) (off := 48) dX7_series_22 (by rw [q2]; decide) (by rw [q2]; decide) (by rw [q2]; decide) (by decide) ?_
      refine r_aload_n (pc := 70) dX7_series_70 rfl ?_
      obtain ⟨e_7, K0⟩ := K0
      refine s_getI (pc := 71) dX7_series_71 fl_X7_147 rfl e_7 ?_
      exact s_iret rfl dX7_series_74 K0
    have K0 := K0.2
    by_cases q3 : l2 = 3
    · have K0 := K0.1 q3
      refine r_tabIn (pc := 22) (tgt := 75) (off := 53) dX7_series_22 (by rw [q3]; decide) (by rw [q3]; decide) (by rw [q3]; decide) (by decide) ?_
      refine r_aload_n (pc := 75) dX7_series_75 rfl ?_
      obtain ⟨e_8, K0⟩ := K0
      refine s_getI (pc := 76) dX7_series_76 fl_X7_150 rfl e_8 ?_
      exact s_iret rfl dX7_series_79 K0
    have K0 := K0.2
    by_cases q4 : l2 = 4
    · have K0 := K0.1 q4
      refine r_tabIn (pc := 22) (tgt := 80) (off := 58) dX7_series_22 (by rw [q4]; decide) (by rw [q4]; decide) (by rw [q4]; decide) (by decide) ?_
      refine r_aload_n (pc := 80) dX7_series_80 rfl ?_
      obtain ⟨e_9, K0⟩ := K0
      refine s_getI (pc := 81) dX7_series_81 fl_X7_153 rfl e_9 ?_
      refine r_if_eq (pc := 84) (tgt := 91) dX7_series_84 (by decide) (fun q => ?_) (fun q => ?_)
      · have K0 := K0.1 q
        refine r_iconst (pc := 91) (v := 0) dX7_series_91 (by decide) ?_
        exact s_iret rfl dX7_series_92 K0
      · have K0 := K0.2 q
        refine r_iconst (pc := 87) (v := 1) dX7_series_87 (by decide) ?_
        refine r_goto (pc := 88) (tgt := 92) dX7_series_88 (by decide) ?_
        exact s_iret rfl dX7_series_92 K0
    have K0 := K0.2
    by_cases q5 : l2 = 5
    · have K0 := K0.1 q5
      refine r_tabIn (pc := 22) (tgt := 93) (off := 71) dX7_series_22 (by rw [q5]; decide) (by rw [q5]; decide) (by rw [q5]; decide) (by decide) ?_
      refine r_aload_n (pc := 93) dX7_series_93 rfl ?_
      obtain ⟨e_11, K0⟩ := K0
      refine s_getI (pc := 94) dX7_series_94 fl_X7_157 rfl e_11 ?_
      exact s_iret rfl dX7_series_97 K0
    have K0 := K0.2
    have K0 := K0 ⟨q0, q1, q2, q3, q4, q5⟩
    refine r_tabOut (pc := 22) (tgt := 98) dX7_series_22 (by have z0 : ¬ Int32.toInt (l2) = 0 := fun z => q0 (Int32.toInt_inj.mp (z.trans (by decide))); have z1 : ¬ Int32.toInt (l2) = 1 := fun z => q1 (Int32.toInt_inj.mp (z.trans (by decide))); have z2 : ¬ Int32.toInt (l2) = 2 := fun z => q2 (Int32.toInt_inj.mp (z.trans (by decide))); have z3 : ¬ Int32.toInt (l2) = 3 := fun z => q3 (Int32.toInt_inj.mp (z.trans (by decide))); have z4 : ¬ Int32.toInt (l2) = 4 := fun z => q4 (Int32.toInt_inj.mp (z.trans (by decide))); have z5 : ¬ Int32.toInt (l2) = 5 := fun z => q5 (Int32.toInt_inj.mp (z.trans (by decide))); omega) (by decide) ?_
    refine r_bipush (pc := 98) (v := (-2)) dX7_series_98 (by decide) ?_
    exact s_iret rfl dX7_series_100 K0
  · have q := (b2i_z _).mp q
    have K0 := K0.2 q
    refine r_bipush (pc := 8) (v := (-2)) dX7_series_8 (by decide) ?_
    exact s_iret rfl dX7_series_10 K0
set_option maxHeartbeats 2000000 in
theorem v_X8_series_0 {K : Sh} {x : Cn} {Q : Int32 → Cn → Prop} {b0 : Nat} {l1 : Int32} {l2 : Int32} {b0_1 : Nat} {n_b0_1 : Nat} {b0_3 : Nat} {n_b0_3 : Nat} (k_b0 : kk K b0 = some (8, 0)) (g_b0_1 : gr x b0 1 = some b0_1) (k_b0_1 : kk K b0_1 = some (20, n_b0_1)) (g_b0_3 : gr x b0 3 = some b0_3) (k_b0_3 : kk K b0_3 = some (20, n_b0_3)) (K0 : vp_in 2 n_b0_1 ∧ ((¬ (0 ≤ l1 ∧ l1 ≤ gi x b0_1 2 - 1) → (Q (-2) x)) ∧ ((0 ≤ l1 ∧ l1 ≤ gi x b0_1 2 - 1) → (((0 ≤ l2 ∧ l2 ≤ 5) → ((5 ≤ l2 → ((l24 l1 n_b0_3) ∧ (Q ((bas (gi x b0_3) (l1 : Int32).toNatClampNeg) ||| (so (gi x b0_3) (l1 : Int32).toNatClampNeg 11)) x))) ∧ (¬ 5 ≤ l2 → ((l24 l1 n_b0_3) ∧ ((l12 l2) ∧ (Q (so (gi x b0_3) (l1 : Int32).toNatClampNeg (l2 : Int32).toNatClampNeg) x)))))) ∧ (¬ (0 ≤ l2 ∧ l2 ≤ 5) → (Q (-2) x)))))) : mSI mX8_series [.ref b0, .int l1, .int l2] K x Q := by
  refine s_I (by decide) (by simp [Value.category]) (Nat.le_of_ble_eq_true rfl) ?_
  show mGM mX8_series 0 [some (.ref b0), some (.int l1), some (.int l2)] [] (hp K x) (PI K Q)
  refine r_aload_n (pc := 0) dX8_series_0 rfl ?_
  refine r_iload_n (pc := 1) dX8_series_1 rfl ?_
  obtain ⟨i_1, K0⟩ := K0
  refine s_VI (pc := 2) mX8_isSeries (ci := 8) (a := b0) (As := [.int l1]) dX8_series_2 lk_X8_273 in_X8_isSeries mo_X8_isSeries ⟨by decide, rfl⟩ ⟨by decide, by decide⟩ (Nat.le_of_ble_eq_true rfl) k_b0 (sp_X8_isSeries k_b0 g_b0_1 k_b0_1 i_1 ?_)
  refine r_if_eq (pc := 5) (tgt := 20) dX8_series_5 (by decide) (fun q => ?_) (fun q => ?_)
  · have q := (b2i_z _).mp q
    have K0 := K0.1 q
    refine r_bipush (pc := 20) (v := (-2)) dX8_series_20 (by decide) ?_
    exact s_iret rfl dX8_series_22 K0
  · have q := b2i_nz q
    have K0 := K0.2 q
    refine r_iload_n (pc := 8) dX8_series_8 rfl ?_
    refine r_i2l (pc := 9) dX8_series_9 ?_
    refine r_lconst (pc := 10) (v := 0) dX8_series_10 (by decide) ?_
    refine r_ldc2 (pc := 11) (v := 5) dX8_series_11 cn_X8_268 ?_
    refine s_SI (pc := 14) mX8_in (As := [.long ((l2 : Int32).toInt64), .long 0, .long 5]) dX8_series_14 lk_X8_45 st_X8_in mo_X8_in ⟨by decide, by decide⟩ (Nat.le_of_ble_eq_true rfl) (sq_X8_in (v := l2) (lo := 0) (hi := 5) rfl (by decide) (by decide) ?_)
    refine r_if_ne (pc := 17) (tgt := 23) dX8_series_17 (by decide) (fun q => ?_) (fun q => ?_)
    · have q := b2i_nz q
      have K0 := K0.1 q
      refine r_iload_n (pc := 23) dX8_series_23 rfl ?_
      refine r_iconst (pc := 24) (v := 5) dX8_series_24 (by decide) ?_
      refine r_icmp_ge (pc := 25) (tgt := 37) dX8_series_25 (by decide) (fun q => ?_) (fun q => ?_)
      · have K0 := K0.1 q
        refine r_aload_n (pc := 37) dX8_series_37 rfl ?_
        refine r_iload_n (pc := 38) dX8_series_38 rfl ?_
        obtain ⟨p_5, K0⟩ := K0
        refine s_VI (pc := 39) mX8_basisOf (ci := 8) (a := b0) (As := [.int l1]) dX8_series_39 lk_X8_71 in_X8_basisOf mo_X8_basisOf ⟨by decide, rfl⟩ ⟨by decide, by decide⟩ (Nat.le_of_ble_eq_true rfl) k_b0 (sr_X8_basisOf k_b0 g_b0_3 k_b0_3 p_5 ?_)
        refine r_aload_n (pc := 42) dX8_series_42 rfl ?_
        refine r_iload_n (pc := 43) dX8_series_43 rfl ?_
        refine r_bipush (pc := 44) (v := 11) dX8_series_44 (by decide) ?_
        refine s_VI (pc := 46) mX8_one (ci := 8) (a := b0) (As := [.int l1, .int 11]) dX8_series_46 lk_X8_67 in_X8_one mo_X8_one ⟨by decide, rfl⟩ ⟨by decide, by decide⟩ (Nat.le_of_ble_eq_true rfl) k_b0 (sr_X8_one k_b0 g_b0_3 k_b0_3 p_5 ⟨by decide, by decide⟩ ?_)
        refine r_ior (pc := 49) dX8_series_49 ?_
        exact s_iret rfl dX8_series_50 K0
      · have K0 := K0.2 q
        refine r_aload_n (pc := 28) dX8_series_28 rfl ?_
        refine r_iload_n (pc := 29) dX8_series_29 rfl ?_
        refine r_iload_n (pc := 30) dX8_series_30 rfl ?_
        obtain ⟨p_6, K0⟩ := K0
        obtain ⟨p_7, K0⟩ := K0
        refine s_VI (pc := 31) mX8_one (ci := 8) (a := b0) (As := [.int l1, .int l2]) dX8_series_31 lk_X8_67 in_X8_one mo_X8_one ⟨by decide, rfl⟩ ⟨by decide, by decide⟩ (Nat.le_of_ble_eq_true rfl) k_b0 (sr_X8_one k_b0 g_b0_3 k_b0_3 p_6 p_7 ?_)
        refine r_goto (pc := 34) (tgt := 50) dX8_series_34 (by decide) ?_
        exact s_iret rfl dX8_series_50 K0
    · have q := (b2i_z _).mp q
      have K0 := K0.2 q
      refine r_bipush (pc := 20) (v := (-2)) dX8_series_20 (by decide) ?_
      exact s_iret rfl dX8_series_22 K0
set_option maxHeartbeats 2000000 in
theorem v_X7_asked_0 {K : Sh} {x : Cn} {Q : Int32 → Cn → Prop} {b0 : Nat} {l1 : Int32} {l2 : Int32} {b0_2 : Nat} {b0_2_8 : Nat} {n_b0_2_8 : Nat} (k_b0 : kk K b0 = some (7, 0)) (g_b0_2 : gr x b0 2 = some b0_2) (k_b0_2 : kk K b0_2 = some (4, 0)) (g_b0_2_8 : gr x b0_2 8 = some b0_2_8) (k_b0_2_8 : kk K b0_2_8 = some (24, n_b0_2_8)) (K0 : ((0 ≤ l1 ∧ l1 < gi x b0_2 4) → (vp_in l1 n_b0_2_8 ∧ (∃ c_3 : Nat, gr x b0_2_8 ((l1 : Int32).toNatClampNeg) = some c_3 ∧ ((l2 = 0 → (kk K c_3 = some (0, 0) ∧ (Q (gi x c_3 0) x))) ∧ (l2 = 1 → (kk K c_3 = some (0, 0) ∧ (Q (gi x c_3 1) x))) ∧ (l2 = 2 → (kk K c_3 = some (0, 0) ∧ (Q (gi x c_3 2) x))) ∧ (l2 = 3 → (kk K c_3 = some (0, 0) ∧ (Q (gi x c_3 3) x))) ∧ (l2 = 4 → (kk K c_3 = some (0, 0) ∧ (Q (gi x c_3 4) x))) ∧ (l2 = 5 → (kk K c_3 = some (0, 0) ∧ (Q (gi x c_3 5) x))) ∧ (l2 = 6 → (kk K c_3 = some (0, 0) ∧ (Q (gi x c_3 6) x))) ∧ ((¬ l2 = 0 ∧ ¬ l2 = 1 ∧ ¬ l2 = 2 ∧ ¬ l2 = 3 ∧ ¬ l2 = 4 ∧ ¬ l2 = 5 ∧ ¬ l2 = 6) → (Q (-2) x)))))) ∧ (¬ (0 ≤ l1 ∧ l1 < gi x b0_2 4) → (Q (-2) x))) : mSI mX7_asked [.ref b0, .int l1, .int l2] K x Q := by
  refine s_I (by decide) (by simp [Value.category]) (Nat.le_of_ble_eq_true rfl) ?_
  show mGM mX7_asked 0 [some (.ref b0), some (.int l1), some (.int l2), none] [] (hp K x) (PI K Q)
  refine r_aload_n (pc := 0) dX7_asked_0 rfl ?_
  refine r_iload_n (pc := 1) dX7_asked_1 rfl ?_
  refine s_VI (pc := 2) mX7_isAsk (ci := 7) (a := b0) (As := [.int l1]) dX7_asked_2 lk_X7_173 in_X7_isAsk mo_X7_isAsk ⟨by decide, rfl⟩ ⟨by decide, by decide⟩ (Nat.le_of_ble_eq_true rfl) k_b0 (sp_X7_isAsk k_b0 g_b0_2 k_b0_2 ?_)
  refine r_if_ne (pc := 5) (tgt := 11) dX7_asked_5 (by decide) (fun q => ?_) (fun q => ?_)
  · have q := b2i_nz q
    have K0 := K0.1 q
    refine r_aload_n (pc := 11) dX7_asked_11 rfl ?_
    refine s_getR (pc := 12) dX7_asked_12 fl_X7_20 rfl k_b0 g_b0_2 ?_
    refine s_getR (pc := 15) dX7_asked_15 fl_X7_176 rfl k_b0_2 g_b0_2_8 ?_
    refine r_iload_n (pc := 18) dX7_asked_18 rfl ?_
    obtain ⟨i_2, K0⟩ := K0
    obtain ⟨c_3, g_4, K0⟩ := K0
    refine s_aald (pc := 19) dX7_asked_19 (by decide) rfl k_b0_2_8 i_2 g_4 ?_
    refine r_astore_n (pc := 20) dX7_asked_20 (by decide) ?_
    refine r_iload_n (pc := 21) (L := [some (.ref b0), some (.int l1), some (.int l2), some (.ref c_3)]) dX7_asked_21 rfl ?_
    by_cases q0 : l2 = 0
    · have K0 := K0.1 q0
      refine r_tabIn (pc := 22) (tgt := 64) (off := 42) dX7_asked_22 (by rw [q0]; decide) (by rw [q0]; decide) (by rw [q0]; decide) (by decide) ?_
      refine r_aload_n (pc := 64) dX7_asked_64 rfl ?_
      obtain ⟨e_5, K0⟩ := K0
      refine s_getI (pc := 65) dX7_asked_65 fl_X7_180 rfl e_5 ?_
      exact s_iret rfl dX7_asked_68 K0
    have K0 := K0.2
    by_cases q1 : l2 = 1
    · have K0 := K0.1 q1
      refine r_tabIn (pc := 22) (tgt := 69) (off := 47) dX7_asked_22 (by rw [q1]; decide) (by rw [q1]; decide) (by rw [q1]; decide) (by decide) ?_
      refine r_aload_n (pc := 69) dX7_asked_69 rfl ?_
      obtain ⟨e_6, K0⟩ := K0
      refine s_getI (pc := 70) dX7_asked_70 fl_X7_183 rfl e_6 ?_
      exact s_iret rfl dX7_asked_73 K0
    have K0 := K0.2
    by_cases q2 : l2 = 2
    · have K0 := K0.1 q2
      refine r_tabIn (pc := 22) (tgt := 74) (off := 52) dX7_asked_22 (by rw [q2]; decide) (by rw [q2]; decide) (by rw [q2]; decide) (by decide) ?_
      refine r_aload_n (pc := 74) dX7_asked_74 rfl ?_
      obtain ⟨e_7, K0⟩ := K0
      refine s_getI (pc := 75) dX7_asked_75 fl_X7_184 rfl e_7 ?_
      exact s_iret rfl dX7_asked_78 K0
    have K0 := K0.2
    by_cases q3 : l2 = 3
    · have K0 := K0.1 q3
      refine r_tabIn (pc := 22) (tgt := 79) (off := 57) dX7_asked_22 (by rw [q3]; decide) (by rw [q3]; decide) (by rw [q3]; decide) (by decide) ?_
      refine r_aload_n (pc := 79) dX7_asked_79 rfl ?_
      obtain ⟨e_8, K0⟩ := K0
      refine s_getI (pc := 80) dX7_asked_80 fl_X7_185 rfl e_8 ?_
      exact s_iret rfl dX7_asked_83 K0
    have K0 := K0.2
    by_cases q4 : l2 = 4
    · have K0 := K0.1 q4
      refine r_tabIn (pc := 22) (tgt := 84) (off := 62) dX7_asked_22 (by rw [q4]; decide) (by rw [q4]; decide) (by rw [q4]; decide) (by decide) ?_
      refine r_aload_n (pc := 84) dX7_asked_84 rfl ?_
      obtain ⟨e_9, K0⟩ := K0
      refine s_getI (pc := 85) dX7_asked_85 fl_X7_186 rfl e_9 ?_
      exact s_iret rfl dX7_asked_88 K0
    have K0 := K0.2
    by_cases q5 : l2 = 5
    · have K0 := K0.1 q5
      refine r_tabIn (pc := 22) (tgt := 89) (off := 67) dX7_asked_22 (by rw [q5]; decide) (by rw [q5]; decide) (by rw [q5]; decide) (by decide) ?_
      refine r_aload_n (pc := 89) dX7_asked_89 rfl ?_
      obtain ⟨e_10, K0⟩ := K0
      refine s_getI (pc := 90) dX7_asked_90 fl_X7_189 rfl e_10 ?_
      exact s_iret rfl dX7_asked_93 K0
    have K0 := K0.2
    by_cases q6 : l2 = 6
    · have K0 := K0.1 q6
      refine r_tabIn (pc := 22) (tgt := 94) (off := 72) dX7_asked_22 (by rw [q6]; decide) (by rw [q6]; decide) (by rw [q6]; decide) (by decide) ?_
      refine r_aload_n (pc := 94) dX7_asked_94 rfl ?_
      obtain ⟨e_11, K0⟩ := K0
      refine s_getI (pc := 95) dX7_asked_95 fl_X7_192 rfl e_11 ?_
      exact s_iret rfl dX7_asked_98 K0
    have K0 := K0.2
    have K0 := K0 ⟨q0, q1, q2, q3, q4, q5, q6⟩
    refine r_tabOut (pc := 22) (tgt := 99) dX7_asked_22 (by have z0 : ¬ Int32.toInt (l2) = 0 := fun z => q0 (Int32.toInt_inj.mp (z.trans (by decide))); have z1 : ¬ Int32.toInt (l2) = 1 := fun z => q1 (Int32.toInt_inj.mp (z.trans (by decide))); have z2 : ¬ Int32.toInt (l2) = 2 := fun z => q2 (Int32.toInt_inj.mp (z.trans (by decide))); have z3 : ¬ Int32.toInt (l2) = 3 := fun z => q3 (Int32.toInt_inj.mp (z.trans (by decide))); have z4 : ¬ Int32.toInt (l2) = 4 := fun z => q4 (Int32.toInt_inj.mp (z.trans (by decide))); have z5 : ¬ Int32.toInt (l2) = 5 := fun z => q5 (Int32.toInt_inj.mp (z.trans (by decide))); have z6 : ¬ Int32.toInt (l2) = 6 := fun z => q6 (Int32.toInt_inj.mp (z.trans (by decide))); omega) (by decide) ?_
    refine r_bipush (pc := 99) (v := (-2)) dX7_asked_99 (by decide) ?_
    exact s_iret rfl dX7_asked_101 K0
  · have q := (b2i_z _).mp q
    have K0 := K0.2 q
    refine r_bipush (pc := 8) (v := (-2)) dX7_asked_8 (by decide) ?_
    exact s_iret rfl dX7_asked_10 K0
set_option maxHeartbeats 2000000 in
theorem v_X8_asked_0 {K : Sh} {x : Cn} {Q : Int32 → Cn → Prop} {b0 : Nat} {l1 : Int32} {l2 : Int32} {b0_1 : Nat} {n_b0_1 : Nat} {b0_3 : Nat} {n_b0_3 : Nat} (k_b0 : kk K b0 = some (8, 0)) (g_b0_1 : gr x b0 1 = some b0_1) (k_b0_1 : kk K b0_1 = some (20, n_b0_1)) (g_b0_3 : gr x b0 3 = some b0_3) (k_b0_3 : kk K b0_3 = some (20, n_b0_3)) (K0 : vp_in 3 n_b0_1 ∧ ((¬ (0 ≤ l1 ∧ l1 ≤ gi x b0_1 3 - 1) → (Q (-2) x)) ∧ ((0 ≤ l1 ∧ l1 ≤ gi x b0_1 3 - 1) → ((¬ (0 ≤ l2 ∧ l2 ≤ 6) → (Q (-2) x)) ∧ ((0 ≤ l2 ∧ l2 ≤ 6) → ((l24 l1 n_b0_3) ∧ ((l7 l2) ∧ (Q (ao (gi x b0_3) (l1 : Int32).toNatClampNeg (l2 : Int32).toNatClampNeg) x)))))))) : mSI mX8_asked [.ref b0, .int l1, .int l2] K x Q := by
  refine s_I (by decide) (by simp [Value.category]) (Nat.le_of_ble_eq_true rfl) ?_
  show mGM mX8_asked 0 [some (.ref b0), some (.int l1), some (.int l2)] [] (hp K x) (PI K Q)
  refine r_aload_n (pc := 0) dX8_asked_0 rfl ?_
  refine r_iload_n (pc := 1) dX8_asked_1 rfl ?_
  obtain ⟨i_1, K0⟩ := K0
  refine s_VI (pc := 2) mX8_isAsk (ci := 8) (a := b0) (As := [.int l1]) dX8_asked_2 lk_X8_281 in_X8_isAsk mo_X8_isAsk ⟨by decide, rfl⟩ ⟨by decide, by decide⟩ (Nat.le_of_ble_eq_true rfl) k_b0 (sp_X8_isAsk k_b0 g_b0_1 k_b0_1 i_1 ?_)
  refine r_if_eq (pc := 5) (tgt := 29) dX8_asked_5 (by decide) (fun q => ?_) (fun q => ?_)
  · have q := (b2i_z _).mp q
    have K0 := K0.1 q
    refine r_bipush (pc := 29) (v := (-2)) dX8_asked_29 (by decide) ?_
    exact s_iret rfl dX8_asked_31 K0
  · have q := b2i_nz q
    have K0 := K0.2 q
    refine r_iload_n (pc := 8) dX8_asked_8 rfl ?_
    refine r_i2l (pc := 9) dX8_asked_9 ?_
    refine r_lconst (pc := 10) (v := 0) dX8_asked_10 (by decide) ?_
    refine r_ldc2 (pc := 11) (v := 6) dX8_asked_11 cn_X8_53 ?_
    refine s_SI (pc := 14) mX8_in (As := [.long ((l2 : Int32).toInt64), .long 0, .long 6]) dX8_asked_14 lk_X8_45 st_X8_in mo_X8_in ⟨by decide, by decide⟩ (Nat.le_of_ble_eq_true rfl) (sq_X8_in (v := l2) (lo := 0) (hi := 6) rfl (by decide) (by decide) ?_)
    refine r_if_eq (pc := 17) (tgt := 29) dX8_asked_17 (by decide) (fun q => ?_) (fun q => ?_)
    · have q := (b2i_z _).mp q
      have K0 := K0.1 q
      refine r_bipush (pc := 29) (v := (-2)) dX8_asked_29 (by decide) ?_
      exact s_iret rfl dX8_asked_31 K0
    · have q := b2i_nz q
      have K0 := K0.2 q
      refine r_aload_n (pc := 20) dX8_asked_20 rfl ?_
      refine r_iload_n (pc := 21) dX8_asked_21 rfl ?_
      refine r_iload_n (pc := 22) dX8_asked_22 rfl ?_
      obtain ⟨p_4, K0⟩ := K0
      obtain ⟨p_5, K0⟩ := K0
      refine s_VI (pc := 23) mX8_ask0 (ci := 8) (a := b0) (As := [.int l1, .int l2]) dX8_asked_23 lk_X8_284 in_X8_ask0 mo_X8_ask0 ⟨by decide, rfl⟩ ⟨by decide, by decide⟩ (Nat.le_of_ble_eq_true rfl) k_b0 (sr_X8_ask0 k_b0 g_b0_3 k_b0_3 p_4 p_5 ?_)
      refine r_goto (pc := 26) (tgt := 31) dX8_asked_26 (by decide) ?_
      exact s_iret rfl dX8_asked_31 K0
set_option maxHeartbeats 2000000 in
theorem v_X7_limitOf_0 {K : Sh} {x : Cn} {Q : Int32 → Cn → Prop} {b0 : Nat} {l1 : Int32} {l2 : Int32} {b0_2 : Nat} {b0_2_6 : Nat} {n_b0_2_6 : Nat} {b0_2_5 : Nat} {n_b0_2_5 : Nat} (k_b0 : kk K b0 = some (7, 0)) (g_b0_2 : gr x b0 2 = some b0_2) (k_b0_2 : kk K b0_2 = some (4, 0)) (g_b0_2_6 : gr x b0_2 6 = some b0_2_6) (k_b0_2_6 : kk K b0_2_6 = some (20, n_b0_2_6)) (g_b0_2_5 : gr x b0_2 5 = some b0_2_5) (k_b0_2_5 : kk K b0_2_5 = some (20, n_b0_2_5)) (K0 : (¬ (0 < gi x b0_2 0 ∧ 0 ≤ l1 ∧ l1 < 24) → (Q (-2) x)) ∧ ((0 < gi x b0_2 0 ∧ 0 ≤ l1 ∧ l1 < 24) → (((0 ≤ l2 ∧ l2 ≤ 1) → ((¬ l2 = 0 → (vp_in l1 n_b0_2_6 ∧ (Q (gi x b0_2_6 (l1 : Int32).toNatClampNeg) x))) ∧ (l2 = 0 → (vp_in l1 n_b0_2_5 ∧ (Q (gi x b0_2_5 (l1 : Int32).toNatClampNeg) x))))) ∧ (¬ (0 ≤ l2 ∧ l2 ≤ 1) → (Q (-2) x))))) : mSI mX7_limitOf [.ref b0, .int l1, .int l2] K x Q := by
  refine s_I (by decide) (by simp [Value.category]) (Nat.le_of_ble_eq_true rfl) ?_
  show mGM mX7_limitOf 0 [some (.ref b0), some (.int l1), some (.int l2)] [] (hp K x) (PI K Q)
  refine r_aload_n (pc := 0) dX7_limitOf_0 rfl ?_
  refine r_iload_n (pc := 1) dX7_limitOf_1 rfl ?_
  refine s_VI (pc := 2) mX7_isHour (ci := 7) (a := b0) (As := [.int l1]) dX7_limitOf_2 lk_X7_195 in_X7_isHour mo_X7_isHour ⟨by decide, rfl⟩ ⟨by decide, by decide⟩ (Nat.le_of_ble_eq_true rfl) k_b0 (sp_X7_isHour k_b0 g_b0_2 k_b0_2 ?_)
  refine r_if_eq (pc := 5) (tgt := 17) dX7_limitOf_5 (by decide) (fun q => ?_) (fun q => ?_)
  · have q := (b2i_z _).mp q
    have K0 := K0.1 q
    refine r_bipush (pc := 17) (v := (-2)) dX7_limitOf_17 (by decide) ?_
    exact s_iret rfl dX7_limitOf_19 K0
  · have q := b2i_nz q
    have K0 := K0.2 q
    refine r_iload_n (pc := 8) dX7_limitOf_8 rfl ?_
    refine r_iconst (pc := 9) (v := 0) dX7_limitOf_9 (by decide) ?_
    refine r_iconst (pc := 10) (v := 1) dX7_limitOf_10 (by decide) ?_
    refine s_SI (pc := 11) mX7_isWithin (As := [.int l2, .int 0, .int 1]) dX7_limitOf_11 lk_X7_113 st_X7_isWithin mo_X7_isWithin ⟨by decide, by decide⟩ (Nat.le_of_ble_eq_true rfl) (sp_X7_isWithin  ?_)
    refine r_if_ne (pc := 14) (tgt := 20) dX7_limitOf_14 (by decide) (fun q => ?_) (fun q => ?_)
    · have q := b2i_nz q
      have K0 := K0.1 q
      refine r_iload_n (pc := 20) dX7_limitOf_20 rfl ?_
      refine r_if_ne (pc := 21) (tgt := 36) dX7_limitOf_21 (by decide) (fun q => ?_) (fun q => ?_)
      · have K0 := K0.1 q
        refine r_aload_n (pc := 36) dX7_limitOf_36 rfl ?_
        refine s_getR (pc := 37) dX7_limitOf_37 fl_X7_20 rfl k_b0 g_b0_2 ?_
        refine s_getR (pc := 40) dX7_limitOf_40 fl_X7_202 rfl k_b0_2 g_b0_2_6 ?_
        refine r_iload_n (pc := 43) dX7_limitOf_43 rfl ?_
        obtain ⟨i_4, K0⟩ := K0
        refine s_iald (pc := 44) dX7_limitOf_44 k_b0_2_6 i_4 ?_
        exact s_iret rfl dX7_limitOf_45 K0
      · have K0 := K0.2 q
        refine r_aload_n (pc := 24) dX7_limitOf_24 rfl ?_
        refine s_getR (pc := 25) dX7_limitOf_25 fl_X7_20 rfl k_b0 g_b0_2 ?_
        refine s_getR (pc := 28) dX7_limitOf_28 fl_X7_198 rfl k_b0_2 g_b0_2_5 ?_
        refine r_iload_n (pc := 31) dX7_limitOf_31 rfl ?_
        obtain ⟨i_5, K0⟩ := K0
        refine s_iald (pc := 32) dX7_limitOf_32 k_b0_2_5 i_5 ?_
        refine r_goto (pc := 33) (tgt := 45) dX7_limitOf_33 (by decide) ?_
        exact s_iret rfl dX7_limitOf_45 K0
    · have q := (b2i_z _).mp q
      have K0 := K0.2 q
      refine r_bipush (pc := 17) (v := (-2)) dX7_limitOf_17 (by decide) ?_
      exact s_iret rfl dX7_limitOf_19 K0
set_option maxHeartbeats 2000000 in
theorem v_X8_limitOf_0 {K : Sh} {x : Cn} {Q : Int32 → Cn → Prop} {b0 : Nat} {l1 : Int32} {l2 : Int32} {b0_1 : Nat} {n_b0_1 : Nat} (k_b0 : kk K b0 = some (8, 0)) (g_b0_1 : gr x b0 1 = some b0_1) (k_b0_1 : kk K b0_1 = some (20, n_b0_1)) (K0 : vp_in 0 n_b0_1 ∧ ((¬ (0 < gi x b0_1 0 ∧ 0 ≤ l1 ∧ l1 ≤ 23) → (Q (-2) x)) ∧ ((0 < gi x b0_1 0 ∧ 0 ≤ l1 ∧ l1 ≤ 23) → ((¬ (0 ≤ l2 ∧ l2 ≤ 1) → (Q (-2) x)) ∧ ((0 ≤ l2 ∧ l2 ≤ 1) → (vp_in ((6 + (2 * l1)) + l2) n_b0_1 ∧ (Q (gi x b0_1 (((6 + (2 * l1)) + l2) : Int32).toNatClampNeg) x))))))) : mSI mX8_limitOf [.ref b0, .int l1, .int l2] K x Q := by
  refine s_I (by decide) (by simp [Value.category]) (Nat.le_of_ble_eq_true rfl) ?_
  show mGM mX8_limitOf 0 [some (.ref b0), some (.int l1), some (.int l2)] [] (hp K x) (PI K Q)
  refine r_aload_n (pc := 0) dX8_limitOf_0 rfl ?_
  refine r_iload_n (pc := 1) dX8_limitOf_1 rfl ?_
  obtain ⟨i_1, K0⟩ := K0
  refine s_VI (pc := 2) mX8_isHour (ci := 8) (a := b0) (As := [.int l1]) dX8_limitOf_2 lk_X8_64 in_X8_isHour mo_X8_isHour ⟨by decide, rfl⟩ ⟨by decide, by decide⟩ (Nat.le_of_ble_eq_true rfl) k_b0 (sp_X8_isHour k_b0 g_b0_1 k_b0_1 i_1 ?_)
  refine r_if_eq (pc := 5) (tgt := 34) dX8_limitOf_5 (by decide) (fun q => ?_) (fun q => ?_)
  · have q := (b2i_z _).mp q
    have K0 := K0.1 q
    refine r_bipush (pc := 34) (v := (-2)) dX8_limitOf_34 (by decide) ?_
    exact s_iret rfl dX8_limitOf_36 K0
  · have q := b2i_nz q
    have K0 := K0.2 q
    refine r_iload_n (pc := 8) dX8_limitOf_8 rfl ?_
    refine r_i2l (pc := 9) dX8_limitOf_9 ?_
    refine r_lconst (pc := 10) (v := 0) dX8_limitOf_10 (by decide) ?_
    refine r_lconst (pc := 11) (v := 1) dX8_limitOf_11 (by decide) ?_
    refine s_SI (pc := 12) mX8_in (As := [.long ((l2 : Int32).toInt64), .long 0, .long 1]) dX8_limitOf_12 lk_X8_45 st_X8_in mo_X8_in ⟨by decide, by decide⟩ (Nat.le_of_ble_eq_true rfl) (sq_X8_in (v := l2) (lo := 0) (hi := 1) rfl (by decide) (by decide) ?_)
    refine r_if_eq (pc := 15) (tgt := 34) dX8_limitOf_15 (by decide) (fun q => ?_) (fun q => ?_)
    · have q := (b2i_z _).mp q
      have K0 := K0.1 q
      refine r_bipush (pc := 34) (v := (-2)) dX8_limitOf_34 (by decide) ?_
      exact s_iret rfl dX8_limitOf_36 K0
    · have q := b2i_nz q
      have K0 := K0.2 q
      refine r_aload_n (pc := 18) dX8_limitOf_18 rfl ?_
      refine s_getR (pc := 19) dX8_limitOf_19 fl_X8_9 rfl k_b0 g_b0_1 ?_
      refine r_bipush (pc := 22) (v := 6) dX8_limitOf_22 (by decide) ?_
      refine r_iconst (pc := 24) (v := 2) dX8_limitOf_24 (by decide) ?_
      refine r_iload_n (pc := 25) dX8_limitOf_25 rfl ?_
      refine r_imul (pc := 26) dX8_limitOf_26 ?_
      refine r_iadd (pc := 27) dX8_limitOf_27 ?_
      refine r_iload_n (pc := 28) dX8_limitOf_28 rfl ?_
      refine r_iadd (pc := 29) dX8_limitOf_29 ?_
      obtain ⟨i_4, K0⟩ := K0
      refine s_iald (pc := 30) dX8_limitOf_30 k_b0_1 i_4 ?_
      refine r_goto (pc := 31) (tgt := 36) dX8_limitOf_31 (by decide) ?_
      exact s_iret rfl dX8_limitOf_36 K0
set_option maxHeartbeats 2000000 in
theorem v_X7_use_0 {K : Sh} {x : Cn} {Q : Int32 → Cn → Prop} {b0 : Nat} {l1 : Int32} {l2 : Int32} {b0_2 : Nat} {b0_2_7 : Nat} {n_b0_2_7 : Nat} (k_b0 : kk K b0 = some (7, 0)) (g_b0_2 : gr x b0 2 = some b0_2) (k_b0_2 : kk K b0_2 = some (4, 0)) (g_b0_2_7 : gr x b0_2 7 = some b0_2_7) (k_b0_2_7 : kk K b0_2_7 = some (23, n_b0_2_7)) (K0 : (¬ (0 ≤ l1 ∧ l1 < gi x b0_2 3) → (Q (-2) x)) ∧ ((0 ≤ l1 ∧ l1 < gi x b0_2 3) → (((0 ≤ l2 ∧ l2 ≤ 1) → ((¬ l2 = 0 → (vp_in l1 n_b0_2_7 ∧ (∃ c_5 : Nat, gr x b0_2_7 ((l1 : Int32).toNatClampNeg) = some c_5 ∧ (kk K c_5 = some (5, 0) ∧ (Q (nI (cpt (gi x c_5 8 ||| gi x c_5 10))) x))))) ∧ (l2 = 0 → (vp_in l1 n_b0_2_7 ∧ (∃ c_9 : Nat, gr x b0_2_7 ((l1 : Int32).toNatClampNeg) = some c_9 ∧ (kk K c_9 = some (5, 0) ∧ (Q (nI (cpt (f_held x c_9))) x))))))) ∧ (¬ (0 ≤ l2 ∧ l2 ≤ 1) → (Q (-2) x))))) : mSI mX7_use [.ref b0, .int l1, .int l2] K x Q := by
  refine s_I (by decide) (by simp [Value.category]) (Nat.le_of_ble_eq_true rfl) ?_
  show mGM mX7_use 0 [some (.ref b0), some (.int l1), some (.int l2)] [] (hp K x) (PI K Q)
  refine r_aload_n (pc := 0) dX7_use_0 rfl ?_
  refine r_iload_n (pc := 1) dX7_use_1 rfl ?_
  refine s_VI (pc := 2) mX7_isSeries (ci := 7) (a := b0) (As := [.int l1]) dX7_use_2 lk_X7_132 in_X7_isSeries mo_X7_isSeries ⟨by decide, rfl⟩ ⟨by decide, by decide⟩ (Nat.le_of_ble_eq_true rfl) k_b0 (sp_X7_isSeries k_b0 g_b0_2 k_b0_2 ?_)
  refine r_if_eq (pc := 5) (tgt := 17) dX7_use_5 (by decide) (fun q => ?_) (fun q => ?_)
  · have q := (b2i_z _).mp q
    have K0 := K0.1 q
    refine r_bipush (pc := 17) (v := (-2)) dX7_use_17 (by decide) ?_
    exact s_iret rfl dX7_use_19 K0
  · have q := b2i_nz q
    have K0 := K0.2 q
    refine r_iload_n (pc := 8) dX7_use_8 rfl ?_
    refine r_iconst (pc := 9) (v := 0) dX7_use_9 (by decide) ?_
    refine r_iconst (pc := 10) (v := 1) dX7_use_10 (by decide) ?_
    refine s_SI (pc := 11) mX7_isWithin (As := [.int l2, .int 0, .int 1]) dX7_use_11 lk_X7_113 st_X7_isWithin mo_X7_isWithin ⟨by decide, by decide⟩ (Nat.le_of_ble_eq_true rfl) (sp_X7_isWithin  ?_)
    refine r_if_ne (pc := 14) (tgt := 20) dX7_use_14 (by decide) (fun q => ?_) (fun q => ?_)
    · have q := b2i_nz q
      have K0 := K0.1 q
      refine r_iload_n (pc := 20) dX7_use_20 rfl ?_
      refine r_if_ne (pc := 21) (tgt := 39) dX7_use_21 (by decide) (fun q => ?_) (fun q => ?_)
      · have K0 := K0.1 q
        refine r_aload_n (pc := 39) dX7_use_39 rfl ?_
        refine s_getR (pc := 40) dX7_use_40 fl_X7_20 rfl k_b0 g_b0_2 ?_
        refine s_getR (pc := 43) dX7_use_43 fl_X7_135 rfl k_b0_2 g_b0_2_7 ?_
        refine r_iload_n (pc := 46) dX7_use_46 rfl ?_
        obtain ⟨i_4, K0⟩ := K0
        obtain ⟨c_5, g_6, K0⟩ := K0
        refine s_aald (pc := 47) dX7_use_47 (by decide) rfl k_b0_2_7 i_4 g_6 ?_
        obtain ⟨e_7, K0⟩ := K0
        refine s_VI (pc := 48) mX5_good (ci := 5) (a := c_5) (As := []) dX7_use_48 lk_X7_233 in_X5_good mo_X5_good ⟨by decide, rfl⟩ ⟨by decide, by decide⟩ (Nat.le_of_ble_eq_true rfl) e_7 (sp_X5_good e_7 ?_)
        exact s_iret rfl dX7_use_51 K0
      · have K0 := K0.2 q
        refine r_aload_n (pc := 24) dX7_use_24 rfl ?_
        refine s_getR (pc := 25) dX7_use_25 fl_X7_20 rfl k_b0 g_b0_2 ?_
        refine s_getR (pc := 28) dX7_use_28 fl_X7_135 rfl k_b0_2 g_b0_2_7 ?_
        refine r_iload_n (pc := 31) dX7_use_31 rfl ?_
        obtain ⟨i_8, K0⟩ := K0
        obtain ⟨c_9, g_10, K0⟩ := K0
        refine s_aald (pc := 32) dX7_use_32 (by decide) rfl k_b0_2_7 i_8 g_10 ?_
        obtain ⟨e_11, K0⟩ := K0
        refine s_VI (pc := 33) mX5_basis (ci := 5) (a := c_9) (As := []) dX7_use_33 lk_X7_229 in_X5_basis mo_X5_basis ⟨by decide, rfl⟩ ⟨by decide, by decide⟩ (Nat.le_of_ble_eq_true rfl) e_11 (sp_X5_basis e_11 ?_)
        refine r_goto (pc := 36) (tgt := 51) dX7_use_36 (by decide) ?_
        exact s_iret rfl dX7_use_51 K0
    · have q := (b2i_z _).mp q
      have K0 := K0.2 q
      refine r_bipush (pc := 17) (v := (-2)) dX7_use_17 (by decide) ?_
      exact s_iret rfl dX7_use_19 K0
set_option maxHeartbeats 2000000 in
theorem v_X8_use_0 {K : Sh} {x : Cn} {Q : Int32 → Cn → Prop} {b0 : Nat} {l1 : Int32} {l2 : Int32} {b0_1 : Nat} {n_b0_1 : Nat} {b0_3 : Nat} {n_b0_3 : Nat} (k_b0 : kk K b0 = some (8, 0)) (g_b0_1 : gr x b0 1 = some b0_1) (k_b0_1 : kk K b0_1 = some (20, n_b0_1)) (g_b0_3 : gr x b0 3 = some b0_3) (k_b0_3 : kk K b0_3 = some (20, n_b0_3)) (K0 : vp_in 2 n_b0_1 ∧ ((¬ (0 ≤ l1 ∧ l1 ≤ gi x b0_1 2 - 1) → (Q (-2) x)) ∧ ((0 ≤ l1 ∧ l1 ≤ gi x b0_1 2 - 1) → (((0 ≤ l2 ∧ l2 ≤ 1) → ((¬ l2 = 0 → ((l24 l1 n_b0_3) ∧ (Q (nI (cpt (so (gi x b0_3) (l1 : Int32).toNatClampNeg 8 ||| so (gi x b0_3) (l1 : Int32).toNatClampNeg 10))) x))) ∧ (l2 = 0 → ((l24 l1 n_b0_3) ∧ (Q (nI (cpt (bas (gi x b0_3) (l1 : Int32).toNatClampNeg))) x))))) ∧ (¬ (0 ≤ l2 ∧ l2 ≤ 1) → (Q (-2) x)))))) : mSI mX8_use [.ref b0, .int l1, .int l2] K x Q := by
  refine s_I (by decide) (by simp [Value.category]) (Nat.le_of_ble_eq_true rfl) ?_
  show mGM mX8_use 0 [some (.ref b0), some (.int l1), some (.int l2)] [] (hp K x) (PI K Q)
  refine r_aload_n (pc := 0) dX8_use_0 rfl ?_
  refine r_iload_n (pc := 1) dX8_use_1 rfl ?_
  obtain ⟨i_1, K0⟩ := K0
  refine s_VI (pc := 2) mX8_isSeries (ci := 8) (a := b0) (As := [.int l1]) dX8_use_2 lk_X8_273 in_X8_isSeries mo_X8_isSeries ⟨by decide, rfl⟩ ⟨by decide, by decide⟩ (Nat.le_of_ble_eq_true rfl) k_b0 (sp_X8_isSeries k_b0 g_b0_1 k_b0_1 i_1 ?_)
  refine r_if_eq (pc := 5) (tgt := 18) dX8_use_5 (by decide) (fun q => ?_) (fun q => ?_)
  · have q := (b2i_z _).mp q
    have K0 := K0.1 q
    refine r_bipush (pc := 18) (v := (-2)) dX8_use_18 (by decide) ?_
    exact s_iret rfl dX8_use_20 K0
  · have q := b2i_nz q
    have K0 := K0.2 q
    refine r_iload_n (pc := 8) dX8_use_8 rfl ?_
    refine r_i2l (pc := 9) dX8_use_9 ?_
    refine r_lconst (pc := 10) (v := 0) dX8_use_10 (by decide) ?_
    refine r_lconst (pc := 11) (v := 1) dX8_use_11 (by decide) ?_
    refine s_SI (pc := 12) mX8_in (As := [.long ((l2 : Int32).toInt64), .long 0, .long 1]) dX8_use_12 lk_X8_45 st_X8_in mo_X8_in ⟨by decide, by decide⟩ (Nat.le_of_ble_eq_true rfl) (sq_X8_in (v := l2) (lo := 0) (hi := 1) rfl (by decide) (by decide) ?_)
    refine r_if_ne (pc := 15) (tgt := 21) dX8_use_15 (by decide) (fun q => ?_) (fun q => ?_)
    · have q := b2i_nz q
      have K0 := K0.1 q
      refine r_iload_n (pc := 21) dX8_use_21 rfl ?_
      refine r_if_ne (pc := 22) (tgt := 36) dX8_use_22 (by decide) (fun q => ?_) (fun q => ?_)
      · have K0 := K0.1 q
        refine r_aload_n (pc := 36) dX8_use_36 rfl ?_
        refine r_iload_n (pc := 37) dX8_use_37 rfl ?_
        obtain ⟨p_5, K0⟩ := K0
        refine s_VI (pc := 38) mX8_goodOf (ci := 8) (a := b0) (As := [.int l1]) dX8_use_38 lk_X8_299 in_X8_goodOf mo_X8_goodOf ⟨by decide, rfl⟩ ⟨by decide, by decide⟩ (Nat.le_of_ble_eq_true rfl) k_b0 (sr_X8_goodOf k_b0 g_b0_3 k_b0_3 p_5 ?_)
        exact s_iret rfl dX8_use_41 K0
      · have K0 := K0.2 q
        refine r_aload_n (pc := 25) dX8_use_25 rfl ?_
        refine r_iload_n (pc := 26) dX8_use_26 rfl ?_
        obtain ⟨p_6, K0⟩ := K0
        refine s_VI (pc := 27) mX8_basisOf (ci := 8) (a := b0) (As := [.int l1]) dX8_use_27 lk_X8_71 in_X8_basisOf mo_X8_basisOf ⟨by decide, rfl⟩ ⟨by decide, by decide⟩ (Nat.le_of_ble_eq_true rfl) k_b0 (sr_X8_basisOf k_b0 g_b0_3 k_b0_3 p_6 ?_)
        refine s_SI (pc := 30) mX8_bits (As := [.int (bas (gi x b0_3) (l1 : Int32).toNatClampNeg)]) dX8_use_30 lk_X8_296 st_X8_bits mo_X8_bits ⟨by decide, by decide⟩ (Nat.le_of_ble_eq_true rfl) (sp_X8_bits  ?_)
        refine r_goto (pc := 33) (tgt := 41) dX8_use_33 (by decide) ?_
        exact s_iret rfl dX8_use_41 K0
    · have q := (b2i_z _).mp q
      have K0 := K0.2 q
      refine r_bipush (pc := 18) (v := (-2)) dX8_use_18 (by decide) ?_
      exact s_iret rfl dX8_use_20 K0
set_option maxHeartbeats 2000000 in
theorem v_X7_rate_0 {K : Sh} {x : Cn} {Q : Int32 → Cn → Prop} {b0 : Nat} {l1 : Int32} {b0_2 : Nat} {b0_2_7 : Nat} {n_b0_2_7 : Nat} (k_b0 : kk K b0 = some (7, 0)) (g_b0_2 : gr x b0 2 = some b0_2) (k_b0_2 : kk K b0_2 = some (4, 0)) (g_b0_2_7 : gr x b0_2 7 = some b0_2_7) (k_b0_2_7 : kk K b0_2_7 = some (23, n_b0_2_7)) (K0 : ((0 ≤ l1 ∧ l1 < gi x b0_2 3) → (vp_in l1 n_b0_2_7 ∧ (∃ c_3 : Nat, gr x b0_2_7 ((l1 : Int32).toNatClampNeg) = some c_3 ∧ (kk K c_3 = some (5, 0) ∧ (((nI (cpt (f_held x c_3))) ≤ 0 → (Q (-1) x)) ∧ (¬ (nI (cpt (f_held x c_3))) ≤ 0 → ((¬ (nI (cpt (f_held x c_3))) = 0) ∧ (Q ((100 * (nI (cpt (gi x c_3 8 ||| gi x c_3 10)))) / (nI (cpt (f_held x c_3)))) x)))))))) ∧ (¬ (0 ≤ l1 ∧ l1 < gi x b0_2 3) → (Q (-2) x))) : mSI mX7_rate [.ref b0, .int l1] K x Q := by
  refine s_I (by decide) (by simp [Value.category]) (Nat.le_of_ble_eq_true rfl) ?_
  show mGM mX7_rate 0 [some (.ref b0), some (.int l1), none] [] (hp K x) (PI K Q)
  refine r_aload_n (pc := 0) dX7_rate_0 rfl ?_
  refine r_iload_n (pc := 1) dX7_rate_1 rfl ?_
  refine s_VI (pc := 2) mX7_isSeries (ci := 7) (a := b0) (As := [.int l1]) dX7_rate_2 lk_X7_132 in_X7_isSeries mo_X7_isSeries ⟨by decide, rfl⟩ ⟨by decide, by decide⟩ (Nat.le_of_ble_eq_true rfl) k_b0 (sp_X7_isSeries k_b0 g_b0_2 k_b0_2 ?_)
  refine r_if_ne (pc := 5) (tgt := 11) dX7_rate_5 (by decide) (fun q => ?_) (fun q => ?_)
  · have q := b2i_nz q
    have K0 := K0.1 q
    refine r_aload_n (pc := 11) dX7_rate_11 rfl ?_
    refine s_getR (pc := 12) dX7_rate_12 fl_X7_20 rfl k_b0 g_b0_2 ?_
    refine s_getR (pc := 15) dX7_rate_15 fl_X7_135 rfl k_b0_2 g_b0_2_7 ?_
    refine r_iload_n (pc := 18) dX7_rate_18 rfl ?_
    obtain ⟨i_2, K0⟩ := K0
    obtain ⟨c_3, g_4, K0⟩ := K0
    refine s_aald (pc := 19) dX7_rate_19 (by decide) rfl k_b0_2_7 i_2 g_4 ?_
    obtain ⟨e_5, K0⟩ := K0
    refine s_VI (pc := 20) mX5_basis (ci := 5) (a := c_3) (As := []) dX7_rate_20 lk_X7_229 in_X5_basis mo_X5_basis ⟨by decide, rfl⟩ ⟨by decide, by decide⟩ (Nat.le_of_ble_eq_true rfl) e_5 (sp_X5_basis e_5 ?_)
    refine r_istore_n (pc := 23) dX7_rate_23 (by decide) ?_
    refine r_iload_n (pc := 24) (L := [some (.ref b0), some (.int l1), some (.int (nI (cpt (f_held x c_3))))]) dX7_rate_24 rfl ?_
    refine r_if_le (pc := 25) (tgt := 48) dX7_rate_25 (by decide) (fun q => ?_) (fun q => ?_)
    · have K0 := K0.1 q
      refine r_iconst (pc := 48) (v := (-1)) dX7_rate_48 (by decide) ?_
      exact s_iret rfl dX7_rate_49 K0
    · have K0 := K0.2 q
      refine r_bipush (pc := 28) (v := 100) dX7_rate_28 (by decide) ?_
      refine r_aload_n (pc := 30) dX7_rate_30 rfl ?_
      refine s_getR (pc := 31) dX7_rate_31 fl_X7_20 rfl k_b0 g_b0_2 ?_
      refine s_getR (pc := 34) dX7_rate_34 fl_X7_135 rfl k_b0_2 g_b0_2_7 ?_
      refine r_iload_n (pc := 37) dX7_rate_37 rfl ?_
      refine s_aald (pc := 38) dX7_rate_38 (by decide) rfl k_b0_2_7 i_2 g_4 ?_
      refine s_VI (pc := 39) mX5_good (ci := 5) (a := c_3) (As := []) dX7_rate_39 lk_X7_233 in_X5_good mo_X5_good ⟨by decide, rfl⟩ ⟨by decide, by decide⟩ (Nat.le_of_ble_eq_true rfl) e_5 (sp_X5_good e_5 ?_)
      refine r_imul (pc := 42) dX7_rate_42 ?_
      refine r_iload_n (pc := 43) dX7_rate_43 rfl ?_
      obtain ⟨p_7, K0⟩ := K0
      refine r_idiv (pc := 44) dX7_rate_44 p_7 ?_
      refine r_goto (pc := 45) (tgt := 49) dX7_rate_45 (by decide) ?_
      exact s_iret rfl dX7_rate_49 K0
  · have q := (b2i_z _).mp q
    have K0 := K0.2 q
    refine r_bipush (pc := 8) (v := (-2)) dX7_rate_8 (by decide) ?_
    exact s_iret rfl dX7_rate_10 K0
set_option maxHeartbeats 2000000 in
theorem v_X8_rate_0 {K : Sh} {x : Cn} {Q : Int32 → Cn → Prop} {b0 : Nat} {l1 : Int32} {b0_1 : Nat} {n_b0_1 : Nat} {b0_3 : Nat} {n_b0_3 : Nat} (k_b0 : kk K b0 = some (8, 0)) (g_b0_1 : gr x b0 1 = some b0_1) (k_b0_1 : kk K b0_1 = some (20, n_b0_1)) (g_b0_3 : gr x b0 3 = some b0_3) (k_b0_3 : kk K b0_3 = some (20, n_b0_3)) (K0 : vp_in 2 n_b0_1 ∧ (((0 ≤ l1 ∧ l1 ≤ gi x b0_1 2 - 1) → ((l24 l1 n_b0_3) ∧ ((¬ (nI (cpt (bas (gi x b0_3) (l1 : Int32).toNatClampNeg))) = 0 → ((¬ (nI (cpt (bas (gi x b0_3) (l1 : Int32).toNatClampNeg))) = 0) ∧ (Q ((100 * (nI (cpt (so (gi x b0_3) (l1 : Int32).toNatClampNeg 8 ||| so (gi x b0_3) (l1 : Int32).toNatClampNeg 10)))) / (nI (cpt (bas (gi x b0_3) (l1 : Int32).toNatClampNeg)))) x))) ∧ ((nI (cpt (bas (gi x b0_3) (l1 : Int32).toNatClampNeg))) = 0 → (Q (-1) x))))) ∧ (¬ (0 ≤ l1 ∧ l1 ≤ gi x b0_1 2 - 1) → (Q (-2) x)))) : mSI mX8_rate [.ref b0, .int l1] K x Q := by
  refine s_I (by decide) (by simp [Value.category]) (Nat.le_of_ble_eq_true rfl) ?_
  show mGM mX8_rate 0 [some (.ref b0), some (.int l1), none] [] (hp K x) (PI K Q)
  refine r_aload_n (pc := 0) dX8_rate_0 rfl ?_
  refine r_iload_n (pc := 1) dX8_rate_1 rfl ?_
  obtain ⟨i_1, K0⟩ := K0
  refine s_VI (pc := 2) mX8_isSeries (ci := 8) (a := b0) (As := [.int l1]) dX8_rate_2 lk_X8_273 in_X8_isSeries mo_X8_isSeries ⟨by decide, rfl⟩ ⟨by decide, by decide⟩ (Nat.le_of_ble_eq_true rfl) k_b0 (sp_X8_isSeries k_b0 g_b0_1 k_b0_1 i_1 ?_)
  refine r_if_ne (pc := 5) (tgt := 11) dX8_rate_5 (by decide) (fun q => ?_) (fun q => ?_)
  · have q := b2i_nz q
    have K0 := K0.1 q
    refine r_aload_n (pc := 11) dX8_rate_11 rfl ?_
    refine r_iload_n (pc := 12) dX8_rate_12 rfl ?_
    obtain ⟨p_3, K0⟩ := K0
    refine s_VI (pc := 13) mX8_basisOf (ci := 8) (a := b0) (As := [.int l1]) dX8_rate_13 lk_X8_71 in_X8_basisOf mo_X8_basisOf ⟨by decide, rfl⟩ ⟨by decide, by decide⟩ (Nat.le_of_ble_eq_true rfl) k_b0 (sr_X8_basisOf k_b0 g_b0_3 k_b0_3 p_3 ?_)
    refine s_SI (pc := 16) mX8_bits (As := [.int (bas (gi x b0_3) (l1 : Int32).toNatClampNeg)]) dX8_rate_16 lk_X8_296 st_X8_bits mo_X8_bits ⟨by decide, by decide⟩ (Nat.le_of_ble_eq_true rfl) (sp_X8_bits  ?_)
    refine r_istore_n (pc := 19) dX8_rate_19 (by decide) ?_
    refine r_iload_n (pc := 20) (L := [some (.ref b0), some (.int l1), some (.int (nI (cpt (bas (gi x b0_3) (l1 : Int32).toNatClampNeg))))]) dX8_rate_20 rfl ?_
    refine r_if_ne (pc := 21) (tgt := 28) dX8_rate_21 (by decide) (fun q => ?_) (fun q => ?_)
    · have K0 := K0.1 q
      refine r_bipush (pc := 28) (v := 100) dX8_rate_28 (by decide) ?_
      refine r_aload_n (pc := 30) dX8_rate_30 rfl ?_
      refine r_iload_n (pc := 31) dX8_rate_31 rfl ?_
      refine s_VI (pc := 32) mX8_goodOf (ci := 8) (a := b0) (As := [.int l1]) dX8_rate_32 lk_X8_299 in_X8_goodOf mo_X8_goodOf ⟨by decide, rfl⟩ ⟨by decide, by decide⟩ (Nat.le_of_ble_eq_true rfl) k_b0 (sr_X8_goodOf k_b0 g_b0_3 k_b0_3 p_3 ?_)
      refine r_imul (pc := 35) dX8_rate_35 ?_
      refine r_iload_n (pc := 36) dX8_rate_36 rfl ?_
      obtain ⟨p_5, K0⟩ := K0
      refine r_idiv (pc := 37) dX8_rate_37 p_5 ?_
      exact s_iret rfl dX8_rate_38 K0
    · have K0 := K0.2 q
      refine r_iconst (pc := 24) (v := (-1)) dX8_rate_24 (by decide) ?_
      refine r_goto (pc := 25) (tgt := 38) dX8_rate_25 (by decide) ?_
      exact s_iret rfl dX8_rate_38 K0
  · have q := (b2i_z _).mp q
    have K0 := K0.2 q
    refine r_bipush (pc := 8) (v := (-2)) dX8_rate_8 (by decide) ?_
    exact s_iret rfl dX8_rate_10 K0
theorem eq_series (a b : Int32) : Both mX7_series mX8_series [.int a, .int b] := by
  intro x R
  obtain ⟨W, C, S, A, N, E, -, -⟩ := R.sea
  have hn := E.nums
  have ht := Rel.t2 E
  have hS : S ≤ 24 := hn.2.2.2.2.2.2.1
  have iS := inN' (v := a) (n := S) (by omega)
  have rf : mSI mX8_series [.ref 717, .int a, .int b] KW x (fun r' z => (if (0 ≤ a ∧ a < nI S) ∧ (0 ≤ b ∧ b ≤ 5) then (if 5 ≤ b then (bas (gi x 718) a.toNatClampNeg ||| so (gi x 718) a.toNatClampNeg 11) else so (gi x 718) a.toNatClampNeg b.toNatClampNeg) else -2) = r' ∧ Rel z) := by
    refine v_X8_series_0 km R.2.1.1 km1 R.2.1.2.2.1 km1 ⟨v0 (k := 2) (by decide) rfl rfl, ?_⟩
    rw [ht.2.2.1, iS]
    refine ⟨fun z => ⟨if_neg (fun w => z w.1), R⟩, fun z => ⟨fun z2 => ?_, fun z2 => ⟨if_neg (fun w => z2 w.2), R⟩⟩⟩
    rw [if_pos ⟨z, z2⟩]
    obtain ⟨s, hs, rfl⟩ := inN (by omega) z
    refine ⟨fun z3 => ⟨l24_nI (by omega) rfl, if_pos z3, R⟩, fun z3 => ⟨l24_nI (by omega) rfl, ⟨z2.1, Int32.lt_of_le_of_lt z2.2 (by decide)⟩, if_neg z3, R⟩⟩
  refine v_X7_series_0 k0 R.1.2.1 (ks0 E.1) E.2.1.2.2.1 (ks3 E.1) ?_
  rw [hn.2.2.1]
  refine ⟨fun z => ?_, fun z => by rwa [if_neg (fun w => z w.1)] at rf⟩
  obtain ⟨s, hs, rfl⟩ := inN (by omega) z
  obtain ⟨p, e1, e2, e3, e4, -, e6⟩ := E.ser hs
  refine ⟨vp_in_nI (by omega) (by decide), p, by rw [nI_clamp (by omega)]; exact e1, ?_⟩
  rw [nI_clamp (show s < 2 ^ 31 by omega)] at rf
  rw [e3.1 0 (by decide) (by decide), e3.1 1 (by decide) (by decide), e3.1 2 (by decide) (by decide), e3.1 3 (by decide) (by decide), e3.1 4 (by decide) (by decide), e3.2]
  have sm : ∀ (k : Nat) (v : Int32), b = v → v = nI k → k < 5 → mSI mX8_series [.ref 717, .int (nI s), .int b] KW x (fun r' z => so (gi x 718) s k = r' ∧ Rel z) := by
    intro k v e1 e2 hk
    subst e1
    subst e2
    have h5 : nI k ≤ 5 := nI_le (b := 5) (by omega) (by decide)
    have h6 : ¬ (5 : Int32) ≤ nI k := nI_ge (b := 5) hk (by decide)
    rw [if_pos ⟨z, nI_pos' (by omega), h5⟩, if_neg h6, nI_clamp (by omega)] at rf
    exact rf
  refine ⟨fun w => ⟨e2, sm 0 0 w (by decide) (by decide)⟩, fun w => ⟨e2, sm 1 1 w (by decide) (by decide)⟩, fun w => ⟨e2, sm 2 2 w (by decide) (by decide)⟩, fun w => ⟨e2, sm 3 3 w (by decide) (by decide)⟩, fun w => ⟨e2, fun w2 => ?_, fun w2 => ?_⟩, fun w => ⟨e2, ?_⟩, fun w => ?_⟩
  · have := sm 4 4 w (by decide) (by decide)
    rwa [w2] at this
  · have := sm 4 4 w (by decide) (by decide)
    rcases e6.2.2.2.2.1 with g | g
    · exact absurd g w2
    · rwa [g] at this
  · subst w
    rw [if_pos ⟨z, by decide, by decide⟩, if_pos (by decide)] at rf
    exact rf
  · rw [if_neg] at rf
    · exact rf
    · intro g
      obtain ⟨k, hk, rfl⟩ := nI_of2 (M := 5) (n := 5) (by decide) (Int32.not_lt.mpr g.2.1) g.2.2
      have hk' : k = 0 ∨ k = 1 ∨ k = 2 ∨ k = 3 ∨ k = 4 ∨ k = 5 := by omega
      rcases hk' with rfl | rfl | rfl | rfl | rfl | rfl
      · exact w.1 rfl
      · exact w.2.1 rfl
      · exact w.2.2.1 rfl
      · exact w.2.2.2.1 rfl
      · exact w.2.2.2.2.1 rfl
      · exact w.2.2.2.2.2 rfl
theorem eq_asked (a b : Int32) : Both mX7_asked mX8_asked [.int a, .int b] := by
  intro x R
  obtain ⟨W, C, S, A, N, E, -, -⟩ := R.sea
  have hn := E.nums
  have ht := Rel.t2 E
  have hA : A ≤ 24 := hn.2.2.2.2.2.2.2.1
  have iS := inN' (v := a) (n := A) (by omega)
  have rf : mSI mX8_asked [.ref 717, .int a, .int b] KW x (fun r' z => (if (0 ≤ a ∧ a < nI A) ∧ (0 ≤ b ∧ b ≤ 6) then ao (gi x 718) a.toNatClampNeg b.toNatClampNeg else -2) = r' ∧ Rel z) := by
    refine v_X8_asked_0 km R.2.1.1 km1 R.2.1.2.2.1 km1 ⟨v0 (k := 3) (by decide) rfl rfl, ?_⟩
    rw [ht.2.2.2.1, iS]
    refine ⟨fun z => ⟨if_neg (fun w => z w.1), R⟩, fun z => ⟨fun z2 => ⟨if_neg (fun w => z2 w.2), R⟩, fun z2 => ?_⟩⟩
    rw [if_pos ⟨z, z2⟩]
    obtain ⟨s, hs, rfl⟩ := inN (by omega) z
    exact ⟨l24_nI (by omega) rfl, ⟨z2.1, Int32.lt_of_le_of_lt z2.2 (by decide)⟩, rfl, R⟩
  refine v_X7_asked_0 k0 R.1.2.1 (ks0 E.1) E.2.1.2.2.2.1 (ks4 E.1) ?_
  rw [hn.2.2.2.1]
  refine ⟨fun z => ?_, fun z => by rwa [if_neg (fun w => z w.1)] at rf⟩
  obtain ⟨s, hs, rfl⟩ := inN (by omega) z
  obtain ⟨p, e1, e2, e3, e6⟩ := E.ask hs
  refine ⟨vp_in_nI (by omega) (by decide), p, by rw [nI_clamp (by omega)]; exact e1, ?_⟩
  rw [nI_clamp (show s < 2 ^ 31 by omega)] at rf
  rw [e3 0 (by decide), e3 1 (by decide), e3 2 (by decide), e3 3 (by decide), e3 4 (by decide), e3 5 (by decide), e3 6 (by decide)]
  have sm : ∀ (k : Nat) (v : Int32), b = v → v = nI k → k < 7 → mSI mX8_asked [.ref 717, .int (nI s), .int b] KW x (fun r' z => ao (gi x 718) s k = r' ∧ Rel z) := by
    intro k v e1 e2 hk
    subst e1
    subst e2
    have h5 : nI k ≤ 6 := nI_le (b := 6) (by omega) (by decide)
    rw [if_pos ⟨z, nI_pos' (by omega), h5⟩, nI_clamp (by omega)] at rf
    exact rf
  refine ⟨fun w => ⟨e2, sm 0 0 w (by decide) (by decide)⟩, fun w => ⟨e2, sm 1 1 w (by decide) (by decide)⟩, fun w => ⟨e2, sm 2 2 w (by decide) (by decide)⟩, fun w => ⟨e2, sm 3 3 w (by decide) (by decide)⟩, fun w => ⟨e2, sm 4 4 w (by decide) (by decide)⟩, fun w => ⟨e2, sm 5 5 w (by decide) (by decide)⟩, fun w => ⟨e2, sm 6 6 w (by decide) (by decide)⟩, fun w => ?_⟩
  rw [if_neg] at rf
  · exact rf
  · intro g
    obtain ⟨k, hk, rfl⟩ := nI_of2 (M := 6) (n := 6) (by decide) (Int32.not_lt.mpr g.2.1) g.2.2
    have hk' : k = 0 ∨ k = 1 ∨ k = 2 ∨ k = 3 ∨ k = 4 ∨ k = 5 ∨ k = 6 := by omega
    rcases hk' with rfl | rfl | rfl | rfl | rfl | rfl | rfl
    · exact w.1 rfl
    · exact w.2.1 rfl
    · exact w.2.2.1 rfl
    · exact w.2.2.2.1 rfl
    · exact w.2.2.2.2.1 rfl
    · exact w.2.2.2.2.2.1 rfl
    · exact w.2.2.2.2.2.2 rfl
theorem eq_limitOf (a b : Int32) : Both mX7_limitOf mX8_limitOf [.int a, .int b] := by
  intro x R
  obtain ⟨W, C, S, A, N, E, -, -⟩ := R.sea
  have hn := E.nums
  have ht := Rel.t2 E
  have rf : mSI mX8_limitOf [.ref 717, .int a, .int b] KW x (fun r' z => (if (0 < nI W ∧ 0 ≤ a ∧ a < 24) ∧ (0 ≤ b ∧ b ≤ 1) then (if b = 0 then gi x 718 (6 + 2 * a.toNatClampNeg) else gi x 718 (7 + 2 * a.toNatClampNeg)) else -2) = r' ∧ Rel z) := by
    refine v_X8_limitOf_0 km R.2.1.1 km1 ⟨v0 (k := 0) (by decide) rfl rfl, ?_⟩
    rw [ht.1, d24]
    refine ⟨fun z => ⟨if_neg (fun w => z w.1), R⟩, fun z => ⟨fun z2 => ⟨if_neg (fun w => z2 w.2), R⟩, fun z2 => ?_⟩⟩
    rw [if_pos ⟨z, z2⟩]
    obtain ⟨h, hh, rfl⟩ := inN (n := 24) (by decide) z.2
    obtain ⟨k, hk, rfl⟩ := nI_of2 (M := 1) (n := 1) (by decide) (Int32.not_lt.mpr z2.1) z2.2
    rw [ixh, nI_add, nI_clamp (show h < 2 ^ 31 by omega), nI_clamp (by omega)]
    have hk' : k = 0 ∨ k = 1 := by omega
    rcases hk' with rfl | rfl
    · exact ⟨vp_in_nI (by omega) (by decide), if_pos (by decide), R⟩
    · exact ⟨vp_in_nI (by omega) (by decide), by rw [if_neg (by decide)]; congr 1; omega, R⟩
  refine v_X7_limitOf_0 k0 R.1.2.1 (ks0 E.1) E.2.1.2.1 (ks2 E.1) E.2.1.1 (ks1 E.1) ?_
  rw [hn.1]
  refine ⟨fun z => by rwa [if_neg (fun w => z w.1)] at rf, fun z => ⟨fun z2 => ?_, fun z2 => by rwa [if_neg (fun w => z2 w.2)] at rf⟩⟩
  rw [if_pos ⟨z, z2⟩] at rf
  obtain ⟨h, hh, rfl⟩ := inN (n := 24) (by decide) z.2
  have hl := E.2.2.1.2.2.2.2.2.1 h hh
  rw [nI_clamp (show h < 2 ^ 31 by omega), hl.1, hl.2] at *
  refine ⟨fun w => ⟨vp_in_nI hh (by decide), ?_⟩, fun w => ⟨vp_in_nI hh (by decide), ?_⟩⟩
  · rwa [if_neg w] at rf
  · rwa [if_pos w] at rf
theorem eq_use (a b : Int32) : Both mX7_use mX8_use [.int a, .int b] := by
  intro x R
  obtain ⟨W, C, S, A, N, E, -, -⟩ := R.sea
  have hn := E.nums
  have ht := Rel.t2 E
  have hS : S ≤ 24 := hn.2.2.2.2.2.2.1
  have iS := inN' (v := a) (n := S) (by omega)
  have rf : mSI mX8_use [.ref 717, .int a, .int b] KW x (fun r' z => (if (0 ≤ a ∧ a < nI S) ∧ (0 ≤ b ∧ b ≤ 1) then (if b = 0 then nI (cpt (bas (gi x 718) a.toNatClampNeg)) else nI (cpt (so (gi x 718) a.toNatClampNeg 8 ||| so (gi x 718) a.toNatClampNeg 10))) else -2) = r' ∧ Rel z) := by
    refine v_X8_use_0 km R.2.1.1 km1 R.2.1.2.2.1 km1 ⟨v0 (k := 2) (by decide) rfl rfl, ?_⟩
    rw [ht.2.2.1, iS]
    refine ⟨fun z => ⟨if_neg (fun w => z w.1), R⟩, fun z => ⟨fun z2 => ?_, fun z2 => ⟨if_neg (fun w => z2 w.2), R⟩⟩⟩
    rw [if_pos ⟨z, z2⟩]
    obtain ⟨s, hs, rfl⟩ := inN (by omega) z
    exact ⟨fun w => ⟨l24_nI (by omega) rfl, if_neg w, R⟩, fun w => ⟨l24_nI (by omega) rfl, if_pos w, R⟩⟩
  refine v_X7_use_0 k0 R.1.2.1 (ks0 E.1) E.2.1.2.2.1 (ks3 E.1) ?_
  rw [hn.2.2.1]
  refine ⟨fun z => by rwa [if_neg (fun w => z w.1)] at rf, fun z => ⟨fun z2 => ?_, fun z2 => by rwa [if_neg (fun w => z2 w.2)] at rf⟩⟩
  rw [if_pos ⟨z, z2⟩] at rf
  obtain ⟨s, hs, rfl⟩ := inN (by omega) z
  obtain ⟨p, e1, e2, e3, e4, -, e6⟩ := E.ser hs
  rw [nI_clamp (show s < 2 ^ 31 by omega)] at rf ⊢
  refine ⟨fun w => ⟨vp_in_nI (by omega) (by decide), p, e1, e2, ?_⟩, fun w => ⟨vp_in_nI (by omega) (by decide), p, e1, e2, ?_⟩⟩
  · rw [if_neg w] at rf
    rw [e3.1 8 (by decide) (by decide), e3.1 10 (by decide) (by decide)]
    exact rf
  · rw [if_pos w] at rf
    rw [e4]
    exact rf
theorem eq_rate (a : Int32) : Both mX7_rate mX8_rate [.int a] := by
  intro x R
  obtain ⟨W, C, S, A, N, E, -, -⟩ := R.sea
  have hn := E.nums
  have ht := Rel.t2 E
  have hS : S ≤ 24 := hn.2.2.2.2.2.2.1
  have iS := inN' (v := a) (n := S) (by omega)
  have rf : mSI mX8_rate [.ref 717, .int a] KW x (fun r' z => (if 0 ≤ a ∧ a < nI S then (if nI (cpt (bas (gi x 718) a.toNatClampNeg)) = 0 then -1 else (100 * (nI (cpt (so (gi x 718) a.toNatClampNeg 8 ||| so (gi x 718) a.toNatClampNeg 10)))) / (nI (cpt (bas (gi x 718) a.toNatClampNeg)))) else -2) = r' ∧ Rel z) := by
    refine v_X8_rate_0 km R.2.1.1 km1 R.2.1.2.2.1 km1 ⟨v0 (k := 2) (by decide) rfl rfl, ?_⟩
    rw [ht.2.2.1, iS]
    refine ⟨fun z => ?_, fun z => ⟨if_neg z, R⟩⟩
    rw [if_pos z]
    obtain ⟨s, hs, rfl⟩ := inN (by omega) z
    exact ⟨l24_nI (by omega) rfl, fun w => ⟨w, if_neg w, R⟩, fun w => ⟨if_pos w, R⟩⟩
  refine v_X7_rate_0 k0 R.1.2.1 (ks0 E.1) E.2.1.2.2.1 (ks3 E.1) ?_
  rw [hn.2.2.1]
  refine ⟨fun z => ?_, fun z => by rwa [if_neg z] at rf⟩
  rw [if_pos z] at rf
  obtain ⟨s, hs, rfl⟩ := inN (by omega) z
  obtain ⟨p, e1, e2, e3, e4, -, e6⟩ := E.ser hs
  rw [nI_clamp (show s < 2 ^ 31 by omega)] at rf ⊢
  refine ⟨vp_in_nI (by omega) (by decide), p, e1, e2, ?_⟩
  rw [e4, e3.1 8 (by decide) (by decide), e3.1 10 (by decide) (by decide)]
  have hc := cpt_le (bas (gi x 718) s)
  refine ⟨fun w => ?_, fun w => ?_⟩
  · rw [if_pos] at rf
    · exact rf
    · rcases Nat.eq_zero_or_pos (cpt (bas (gi x 718) s)) with g | g
      · rw [g]; rfl
      · exact absurd w (nI_nle g (by omega))
  · have hz : ¬ nI (cpt (bas (gi x 718) s)) = 0 := fun g => w (by rw [g]; decide)
    rw [if_neg hz] at rf
    exact ⟨hz, rf⟩


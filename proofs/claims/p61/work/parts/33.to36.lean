/-! 33.reads2.lean.txt -/
section
theorem ixh {h : Nat} : ((6 : Int32) + (2 * nI h)) = nI (6 + 2 * h) := by rw [show (6 : Int32) = nI 6 by decide, show (2 : Int32) = nI 2 by decide, pk_mul, nI_add]
theorem ixh1 {h : Nat} : (((6 : Int32) + (2 * nI h)) + 1) = nI (7 + 2 * h) := by rw [ixh, nI_1]; congr 1; omega
theorem d7 {l : Int32} : (0 ≤ l ∧ l ≤ 6) ↔ (0 ≤ l ∧ l < 7) := by
  have a2 := inN' (v := l) (n := 7) (by decide)
  rwa [show nI 7 - 1 = (6 : Int32) by decide, show nI 7 = (7 : Int32) by decide] at a2
theorem d24 {l : Int32} : (0 ≤ l ∧ l ≤ 23) ↔ (0 ≤ l ∧ l < 24) := by
  have a2 := inN' (v := l) (n := 24) (by decide)
  rwa [show nI 24 - 1 = (23 : Int32) by decide, show nI 24 = (24 : Int32) by decide] at a2
set_option maxHeartbeats 2000000 in
theorem v_X7_series_0 {K : Sh} {x : Cn} {Q : Int32 → Cn → Prop} {b0 : Nat} {l1 : Int32} {l2 : Int32} {b0_2 : Nat} {b0_2_7 : Nat} {n_b0_2_7 : Nat} (k_b0 : kk K b0 = some (7, 0)) (g_b0_2 : gr x b0 2 = some b0_2) (k_b0_2 : kk K b0_2 = some (4, 0)) (g_b0_2_7 : gr x b0_2 7 = some b0_2_7) (k_b0_2_7 : kk K b0_2_7 = some (23, n_b0_2_7)) (K0 : ((0 ≤ l1 ∧ l1 < gi x b0_2 3) → (vp_in l1 n_b0_2_7 ∧ (∃ c_3 : Nat, gr x b0_2_7 ((l1 : Int32).toNatClampNeg) = some c_3 ∧ ((l2 = 0 → (kk K c_3 = some (5, 0) ∧ (Q (gi x c_3 0) x))) ∧ (l2 = 1 → (kk K c_3 = some (5, 0) ∧ (Q (gi x c_3 1) x))) ∧ (l2 = 2 → (kk K c_3 = some (5, 0) ∧ (Q (gi x c_3 2) x))) ∧ (l2 = 3 → (kk K c_3 = some (5, 0) ∧ (Q (gi x c_3 3) x))) ∧ (l2 = 4 → (kk K c_3 = some (5, 0) ∧ (((gi x c_3 4) = 0 → (Q 0 x)) ∧ (¬ (gi x c_3 4) = 0 → (Q 1 x))))) ∧ (l2 = 5 → (kk K c_3 = some (5, 0) ∧ (Q (gi x c_3 7) x))) ∧ ((¬ l2 = 0 ∧ ¬ l2 = 1 ∧ ¬ l2 = 2 ∧ ¬ l2 = 3 ∧ ¬ l2 = 4 ∧ ¬ l2 = 5) → (Q (-2) x)))))) ∧ (¬ (0 ≤ l1 ∧ l1 < gi x b0_2 3) → (Q (-2) x))) : mSI mX7_series [.ref b0, .int l1, .int l2] K x Q := by
  refine s_I (by decide) (by simp [Value.category]) (Nat.le_of_ble_eq_true rfl) ?_
  show mGM mX7_series 0 [some (.ref b0), some (.int l1), some (.int l2), none] [] (hp K x) (PI K Q)
  refine r_aload_n (pc := 0) dX7_series_0 rfl ?_
  refine r_iload_n (pc := 1) dX7_series_1 rfl ?_
  refine s_VI (pc := 2) mX7_isSeries (ci := 7) (a := b0) (As := [.int l1]) dX7_series_2 lk_X7_132 in_X7_isSeries mo_X7_isSeries ⟨by decide, rfl⟩ ⟨by decide, by decide⟩ (Nat.le_of_ble_eq_true rfl) k_b0 (sp_X7_isSeries k_b0 g_b0_2 k_b0_2 ?_)
  refine r_if_ne (pc := 5) (tgt := 11) dX7_series_5 (by decide) (fun q => ?_) (fun q => ?_)
  · have q := b2i_nz q
    have K0 := K0.1 q
    refine r_aload_n (pc := 11) dX7_series_11 rfl ?_
    refine s_getR (pc := 12) dX7_series_12 fl_X7_20 rfl k_b0 g_b0_2 ?_
    refine s_getR (pc := 15) dX7_series_15 fl_X7_135 rfl k_b0_2 g_b0_2_7 ?_
    refine r_iload_n (pc := 18) dX7_series_18 rfl ?_
    obtain ⟨i_2, K0⟩ := K0
    obtain ⟨c_3, g_4, K0⟩ := K0
    refine s_aald (pc := 19) dX7_series_19 (by decide) rfl k_b0_2_7 i_2 g_4 ?_
    refine r_astore_n (pc := 20) dX7_series_20 (by decide) ?_
    refine r_iload_n (pc := 21) (L := [some (.ref b0), some (.int l1), some (.int l2), some (.ref c_3)]) dX7_series_21 rfl ?_
    by_cases q0 : l2 = 0
    · have K0 := K0.1 q0
      refine r_tabIn (pc := 22) (tgt := 60) (off := 38) dX7_series_22 (by rw [q0]; decide) (by rw [q0]; decide) (by rw [q0]; decide) (by decide) ?_
      refine r_aload_n (pc := 60) dX7_series_60 rfl ?_
      obtain ⟨e_5, K0⟩ := K0
      refine s_getI (pc := 61) dX7_series_61 fl_X7_139 rfl e_5 ?_
      exact s_iret rfl dX7_series_64 K0
    have K0 := K0.2
    by_cases q1 : l2 = 1
    · have K0 := K0.1 q1
      refine r_tabIn (pc := 22) (tgt := 65) (off := 43) dX7_series_22 (by rw [q1]; decide) (by rw [q1]; decide) (by rw [q1]; decide) (by decide) ?_
      refine r_aload_n (pc := 65) dX7_series_65 rfl ?_
      obtain ⟨e_6, K0⟩ := K0
      refine s_getI (pc := 66) dX7_series_66 fl_X7_144 rfl e_6 ?_
      exact s_iret rfl dX7_series_69 K0
    have K0 := K0.2
    by_cases q2 : l2 = 2
    · have K0 := K0.1 q2
      refine r_tabIn (pc := 22) (tgt := 70) (off := 48) dX7_series_22 (by rw [q2]; decide) (by rw [q2]; decide) (by rw [q2]; decide) (by decide) ?_
      refine r_aload_n (pc := 70) dX7_series_70 rfl ?_
      obtain ⟨e_7, K0⟩ := K0
      refine s_getI (pc := 71) dX7_series_71 fl_X7_147 rfl e_7 ?_
      exact s_iret rfl dX7_series_74 K0
    have K0 := K0.2
    by_cases q3 : l2 = 3
    · have K0 := K0.1 q3
      refine r_tabIn (pc := 22) (tgt := 75) (off := 53) dX7_series_22 (by rw [q3]; decide) (by rw [q3]; decide) (by rw [q3]; decide) (by decide) ?_
      refine r_aload_n (pc := 75) dX7_series_75 rfl ?_
      obtain ⟨e_8, K0⟩ := K0
      refine s_getI (pc := 76) dX7_series_76 fl_X7_150 rfl e_8 ?_
      exact s_iret rfl dX7_series_79 K0
    have K0 := K0.2
    by_cases q4 : l2 = 4
    · have K0 := K0.1 q4
      refine r_tabIn (pc := 22) (tgt := 80) (off := 58) dX7_series_22 (by rw [q4]; decide) (by rw [q4]; decide) (by rw [q4]; decide) (by decide) ?_
      refine r_aload_n (pc := 80) dX7_series_80 rfl ?_
      obtain ⟨e_9, K0⟩ := K0
      refine s_getI (pc := 81) dX7_series_81 fl_X7_153 rfl e_9 ?_
      refine r_if_eq (pc := 84) (tgt := 91) dX7_series_84 (by decide) (fun q => ?_) (fun q => ?_)
      · have K0 := K0.1 q
        refine r_iconst (pc := 91) (v := 0) dX7_series_91 (by decide) ?_
        exact s_iret rfl dX7_series_92 K0
      · have K0 := K0.2 q
        refine r_iconst (pc := 87) (v := 1) dX7_series_87 (by decide) ?_
        refine r_goto (pc := 88) (tgt := 92) dX7_series_88 (by decide) ?_
        exact s_iret rfl dX7_series_92 K0
    have K0 := K0.2
    by_cases q5 : l2 = 5
    · have K0 := K0.1 q5
      refine r_tabIn (pc := 22) (tgt := 93) (off := 71) dX7_series_22 (by rw [q5]; decide) (by rw [q5]; decide) (by rw [q5]; decide) (by decide) ?_
      refine r_aload_n (pc := 93) dX7_series_93 rfl ?_
      obtain ⟨e_11, K0⟩ := K0
      refine s_getI (pc := 94) dX7_series_94 fl_X7_157 rfl e_11 ?_
      exact s_iret rfl dX7_series_97 K0
    have K0 := K0.2
    have K0 := K0 ⟨q0, q1, q2, q3, q4, q5⟩
    refine r_tabOut (pc := 22) (tgt := 98) dX7_series_22 (by have z0 : ¬ Int32.toInt (l2) = 0 := fun z => q0 (Int32.toInt_inj.mp (z.trans (by decide))); have z1 : ¬ Int32.toInt (l2) = 1 := fun z => q1 (Int32.toInt_inj.mp (z.trans (by decide))); have z2 : ¬ Int32.toInt (l2) = 2 := fun z => q2 (Int32.toInt_inj.mp (z.trans (by decide))); have z3 : ¬ Int32.toInt (l2) = 3 := fun z => q3 (Int32.toInt_inj.mp (z.trans (by decide))); have z4 : ¬ Int32.toInt (l2) = 4 := fun z => q4 (Int32.toInt_inj.mp (z.trans (by decide))); have z5 : ¬ Int32.toInt (l2) = 5 := fun z => q5 (Int32.toInt_inj.mp (z.trans (by decide))); omega) (by decide) ?_
    refine r_bipush (pc := 98) (v := (-2)) dX7_series_98 (by decide) ?_
    exact s_iret rfl dX7_series_100 K0
  · have q := (b2i_z _).mp q
    have K0 := K0.2 q
    refine r_bipush (pc := 8) (v := (-2)) dX7_series_8 (by decide) ?_
    exact s_iret rfl dX7_series_10 K0
set_option maxHeartbeats 2000000 in
theorem v_X8_series_0 {K : Sh} {x : Cn} {Q : Int32 → Cn → Prop} {b0 : Nat} {l1 : Int32} {l2 : Int32} {b0_1 : Nat} {n_b0_1 : Nat} {b0_3 : Nat} {n_b0_3 : Nat} (k_b0 : kk K b0 = some (8, 0)) (g_b0_1 : gr x b0 1 = some b0_1) (k_b0_1 : kk K b0_1 = some (20, n_b0_1)) (g_b0_3 : gr x b0 3 = some b0_3) (k_b0_3 : kk K b0_3 = some (20, n_b0_3)) (K0 : vp_in 2 n_b0_1 ∧ ((¬ (0 ≤ l1 ∧ l1 ≤ gi x b0_1 2 - 1) → (Q (-2) x)) ∧ ((0 ≤ l1 ∧ l1 ≤ gi x b0_1 2 - 1) → (((0 ≤ l2 ∧ l2 ≤ 5) → ((5 ≤ l2 → ((l24 l1 n_b0_3) ∧ (Q ((bas (gi x b0_3) (l1 : Int32).toNatClampNeg) ||| (so (gi x b0_3) (l1 : Int32).toNatClampNeg 11)) x))) ∧ (¬ 5 ≤ l2 → ((l24 l1 n_b0_3) ∧ ((l12 l2) ∧ (Q (so (gi x b0_3) (l1 : Int32).toNatClampNeg (l2 : Int32).toNatClampNeg) x)))))) ∧ (¬ (0 ≤ l2 ∧ l2 ≤ 5) → (Q (-2) x)))))) : mSI mX8_series [.ref b0, .int l1, .int l2] K x Q := by
  refine s_I (by decide) (by simp [Value.category]) (Nat.le_of_ble_eq_true rfl) ?_
  show mGM mX8_series 0 [some (.ref b0), some (.int l1), some (.int l2)] [] (hp K x) (PI K Q)
  refine r_aload_n (pc := 0) dX8_series_0 rfl ?_
  refine r_iload_n (pc := 1) dX8_series_1 rfl ?_
  obtain ⟨i_1, K0⟩ := K0
  refine s_VI (pc := 2) mX8_isSeries (ci := 8) (a := b0) (As := [.int l1]) dX8_series_2 lk_X8_273 in_X8_isSeries mo_X8_isSeries ⟨by decide, rfl⟩ ⟨by decide, by decide⟩ (Nat.le_of_ble_eq_true rfl) k_b0 (sp_X8_isSeries k_b0 g_b0_1 k_b0_1 i_1 ?_)
  refine r_if_eq (pc := 5) (tgt := 20) dX8_series_5 (by decide) (fun q => ?_) (fun q => ?_)
  · have q := (b2i_z _).mp q
    have K0 := K0.1 q
    refine r_bipush (pc := 20) (v := (-2)) dX8_series_20 (by decide) ?_
    exact s_iret rfl dX8_series_22 K0
  · have q := b2i_nz q
    have K0 := K0.2 q
    refine r_iload_n (pc := 8) dX8_series_8 rfl ?_
    refine r_i2l (pc := 9) dX8_series_9 ?_
    refine r_lconst (pc := 10) (v := 0) dX8_series_10 (by decide) ?_
    refine r_ldc2 (pc := 11) (v := 5) dX8_series_11 cn_X8_268 ?_
    refine s_SI (pc := 14) mX8_in (As := [.long ((l2 : Int32).toInt64), .long 0, .long 5]) dX8_series_14 lk_X8_45 st_X8_in mo_X8_in ⟨by decide, by decide⟩ (Nat.le_of_ble_eq_true rfl) (sq_X8_in (v := l2) (lo := 0) (hi := 5) rfl (by decide) (by decide) ?_)
    refine r_if_ne (pc := 17) (tgt := 23) dX8_series_17 (by decide) (fun q => ?_) (fun q => ?_)
    · have q := b2i_nz q
      have K0 := K0.1 q
      refine r_iload_n (pc := 23) dX8_series_23 rfl ?_
      refine r_iconst (pc := 24) (v := 5) dX8_series_24 (by decide) ?_
      refine r_icmp_ge (pc := 25) (tgt := 37) dX8_series_25 (by decide) (fun q => ?_) (fun q => ?_)
      · have K0 := K0.1 q
        refine r_aload_n (pc := 37) dX8_series_37 rfl ?_
        refine r_iload_n (pc := 38) dX8_series_38 rfl ?_
        obtain ⟨p_5, K0⟩ := K0
        refine s_VI (pc := 39) mX8_basisOf (ci := 8) (a := b0) (As := [.int l1]) dX8_series_39 lk_X8_71 in_X8_basisOf mo_X8_basisOf ⟨by decide, rfl⟩ ⟨by decide, by decide⟩ (Nat.le_of_ble_eq_true rfl) k_b0 (sr_X8_basisOf k_b0 g_b0_3 k_b0_3 p_5 ?_)
        refine r_aload_n (pc := 42) dX8_series_42 rfl ?_
        refine r_iload_n (pc := 43) dX8_series_43 rfl ?_
        refine r_bipush (pc := 44) (v := 11) dX8_series_44 (by decide) ?_
        refine s_VI (pc := 46) mX8_one (ci := 8) (a := b0) (As := [.int l1, .int 11]) dX8_series_46 lk_X8_67 in_X8_one mo_X8_one ⟨by decide, rfl⟩ ⟨by decide, by decide⟩ (Nat.le_of_ble_eq_true rfl) k_b0 (sr_X8_one k_b0 g_b0_3 k_b0_3 p_5 ⟨by decide, by decide⟩ ?_)
        refine r_ior (pc := 49) dX8_series_49 ?_
        exact s_iret rfl dX8_series_50 K0
      · have K0 := K0.2 q
        refine r_aload_n (pc := 28) dX8_series_28 rfl ?_
        refine r_iload_n (pc := 29) dX8_series_29 rfl ?_
        refine r_iload_n (pc := 30) dX8_series_30 rfl ?_
        obtain ⟨p_6, K0⟩ := K0
        obtain ⟨p_7, K0⟩ := K0
        refine s_VI (pc := 31) mX8_one (ci := 8) (a := b0) (As := [.int l1, .int l2]) dX8_series_31 lk_X8_67 in_X8_one mo_X8_one ⟨by decide, rfl⟩ ⟨by decide, by decide⟩ (Nat.le_of_ble_eq_true rfl) k_b0 (sr_X8_one k_b0 g_b0_3 k_b0_3 p_6 p_7 ?_)
        refine r_goto (pc := 34) (tgt := 50) dX8_series_34 (by decide) ?_
        exact s_iret rfl dX8_series_50 K0
    · have q := (b2i_z _).mp q
      have K0 := K0.2 q
      refine r_bipush (pc := 20) (v := (-2)) dX8_series_20 (by decide) ?_
      exact s_iret rfl dX8_series_22 K0
set_option maxHeartbeats 2000000 in
theorem v_X7_asked_0 {K : Sh} {x : Cn} {Q : Int32 → Cn → Prop} {b0 : Nat} {l1 : Int32} {l2 : Int32} {b0_2 : Nat} {b0_2_8 : Nat} {n_b0_2_8 : Nat} (k_b0 : kk K b0 = some (7, 0)) (g_b0_2 : gr x b0 2 = some b0_2) (k_b0_2 : kk K b0_2 = some (4, 0)) (g_b0_2_8 : gr x b0_2 8 = some b0_2_8) (k_b0_2_8 : kk K b0_2_8 = some (24, n_b0_2_8)) (K0 : ((0 ≤ l1 ∧ l1 < gi x b0_2 4) → (vp_in l1 n_b0_2_8 ∧ (∃ c_3 : Nat, gr x b0_2_8 ((l1 : Int32).toNatClampNeg) = some c_3 ∧ ((l2 = 0 → (kk K c_3 = some (0, 0) ∧ (Q (gi x c_3 0) x))) ∧ (l2 = 1 → (kk K c_3 = some (0, 0) ∧ (Q (gi x c_3 1) x))) ∧ (l2 = 2 → (kk K c_3 = some (0, 0) ∧ (Q (gi x c_3 2) x))) ∧ (l2 = 3 → (kk K c_3 = some (0, 0) ∧ (Q (gi x c_3 3) x))) ∧ (l2 = 4 → (kk K c_3 = some (0, 0) ∧ (Q (gi x c_3 4) x))) ∧ (l2 = 5 → (kk K c_3 = some (0, 0) ∧ (Q (gi x c_3 5) x))) ∧ (l2 = 6 → (kk K c_3 = some (0, 0) ∧ (Q (gi x c_3 6) x))) ∧ ((¬ l2 = 0 ∧ ¬ l2 = 1 ∧ ¬ l2 = 2 ∧ ¬ l2 = 3 ∧ ¬ l2 = 4 ∧ ¬ l2 = 5 ∧ ¬ l2 = 6) → (Q (-2) x)))))) ∧ (¬ (0 ≤ l1 ∧ l1 < gi x b0_2 4) → (Q (-2) x))) : mSI mX7_asked [.ref b0, .int l1, .int l2] K x Q := by
  refine s_I (by decide) (by simp [Value.category]) (Nat.le_of_ble_eq_true rfl) ?_
  show mGM mX7_asked 0 [some (.ref b0), some (.int l1), some (.int l2), none] [] (hp K x) (PI K Q)
  refine r_aload_n (pc := 0) dX7_asked_0 rfl ?_
  refine r_iload_n (pc := 1) dX7_asked_1 rfl ?_
  refine s_VI (pc := 2) mX7_isAsk (ci := 7) (a := b0) (As := [.int l1]) dX7_asked_2 lk_X7_173 in_X7_isAsk mo_X7_isAsk ⟨by decide, rfl⟩ ⟨by decide, by decide⟩ (Nat.le_of_ble_eq_true rfl) k_b0 (sp_X7_isAsk k_b0 g_b0_2 k_b0_2 ?_)
  refine r_if_ne (pc := 5) (tgt := 11) dX7_asked_5 (by decide) (fun q => ?_) (fun q => ?_)
  · have q := b2i_nz q
    have K0 := K0.1 q
    refine r_aload_n (pc := 11) dX7_asked_11 rfl ?_
    refine s_getR (pc := 12) dX7_asked_12 fl_X7_20 rfl k_b0 g_b0_2 ?_
    refine s_getR (pc := 15) dX7_asked_15 fl_X7_176 rfl k_b0_2 g_b0_2_8 ?_
    refine r_iload_n (pc := 18) dX7_asked_18 rfl ?_
    obtain ⟨i_2, K0⟩ := K0
    obtain ⟨c_3, g_4, K0⟩ := K0
    refine s_aald (pc := 19) dX7_asked_19 (by decide) rfl k_b0_2_8 i_2 g_4 ?_
    refine r_astore_n (pc := 20) dX7_asked_20 (by decide) ?_
    refine r_iload_n (pc := 21) (L := [some (.ref b0), some (.int l1), some (.int l2), some (.ref c_3)]) dX7_asked_21 rfl ?_
    by_cases q0 : l2 = 0
    · have K0 := K0.1 q0
      refine r_tabIn (pc := 22) (tgt := 64) (off := 42) dX7_asked_22 (by rw [q0]; decide) (by rw [q0]; decide) (by rw [q0]; decide) (by decide) ?_
      refine r_aload_n (pc := 64) dX7_asked_64 rfl ?_
      obtain ⟨e_5, K0⟩ := K0
      refine s_getI (pc := 65) dX7_asked_65 fl_X7_180 rfl e_5 ?_
      exact s_iret rfl dX7_asked_68 K0
    have K0 := K0.2
    by_cases q1 : l2 = 1
    · have K0 := K0.1 q1
      refine r_tabIn (pc := 22) (tgt := 69) (off := 47) dX7_asked_22 (by rw [q1]; decide) (by rw [q1]; decide) (by rw [q1]; decide) (by decide) ?_
      refine r_aload_n (pc := 69) dX7_asked_69 rfl ?_
      obtain ⟨e_6, K0⟩ := K0
      refine s_getI (pc := 70) dX7_asked_70 fl_X7_183 rfl e_6 ?_
      exact s_iret rfl dX7_asked_73 K0
    have K0 := K0.2
    by_cases q2 : l2 = 2
    · have K0 := K0.1 q2
      refine r_tabIn (pc := 22) (tgt := 74) (off := 52) dX7_asked_22 (by rw [q2]; decide) (by rw [q2]; decide) (by rw [q2]; decide) (by decide) ?_
      refine r_aload_n (pc := 74) dX7_asked_74 rfl ?_
      obtain ⟨e_7, K0⟩ := K0
      refine s_getI (pc := 75) dX7_asked_75 fl_X7_184 rfl e_7 ?_
      exact s_iret rfl dX7_asked_78 K0
    have K0 := K0.2
    by_cases q3 : l2 = 3
    · have K0 := K0.1 q3
      refine r_tabIn (pc := 22) (tgt := 79) (off := 57) dX7_asked_22 (by rw [q3]; decide) (by rw [q3]; decide) (by rw [q3]; decide) (by decide) ?_
      refine r_aload_n (pc := 79) dX7_asked_79 rfl ?_
      obtain ⟨e_8, K0⟩ := K0
      refine s_getI (pc := 80) dX7_asked_80 fl_X7_185 rfl e_8 ?_
      exact s_iret rfl dX7_asked_83 K0
    have K0 := K0.2
    by_cases q4 : l2 = 4
    · have K0 := K0.1 q4
      refine r_tabIn (pc := 22) (tgt := 84) (off := 62) dX7_asked_22 (by rw [q4]; decide) (by rw [q4]; decide) (by rw [q4]; decide) (by decide) ?_
      refine r_aload_n (pc := 84) dX7_asked_84 rfl ?_
      obtain ⟨e_9, K0⟩ := K0
      refine s_getI (pc := 85) dX7_asked_85 fl_X7_186 rfl e_9 ?_
      exact s_iret rfl dX7_asked_88 K0
    have K0 := K0.2
    by_cases q5 : l2 = 5
    · have K0 := K0.1 q5
      refine r_tabIn (pc := 22) (tgt := 89) (off := 67) dX7_asked_22 (by rw [q5]; decide) (by rw [q5]; decide) (by rw [q5]; decide) (by decide) ?_
      refine r_aload_n (pc := 89) dX7_asked_89 rfl ?_
      obtain ⟨e_10, K0⟩ := K0
      refine s_getI (pc := 90) dX7_asked_90 fl_X7_189 rfl e_10 ?_
      exact s_iret rfl dX7_asked_93 K0
    have K0 := K0.2
    by_cases q6 : l2 = 6
    · have K0 := K0.1 q6
      refine r_tabIn (pc := 22) (tgt := 94) (off := 72) dX7_asked_22 (by rw [q6]; decide) (by rw [q6]; decide) (by rw [q6]; decide) (by decide) ?_
      refine r_aload_n (pc := 94) dX7_asked_94 rfl ?_
      obtain ⟨e_11, K0⟩ := K0
      refine s_getI (pc := 95) dX7_asked_95 fl_X7_192 rfl e_11 ?_
      exact s_iret rfl dX7_asked_98 K0
    have K0 := K0.2
    have K0 := K0 ⟨q0, q1, q2, q3, q4, q5, q6⟩
    refine r_tabOut (pc := 22) (tgt := 99) dX7_asked_22 (by have z0 : ¬ Int32.toInt (l2) = 0 := fun z => q0 (Int32.toInt_inj.mp (z.trans (by decide))); have z1 : ¬ Int32.toInt (l2) = 1 := fun z => q1 (Int32.toInt_inj.mp (z.trans (by decide))); have z2 : ¬ Int32.toInt (l2) = 2 := fun z => q2 (Int32.toInt_inj.mp (z.trans (by decide))); have z3 : ¬ Int32.toInt (l2) = 3 := fun z => q3 (Int32.toInt_inj.mp (z.trans (by decide))); have z4 : ¬ Int32.toInt (l2) = 4 := fun z => q4 (Int32.toInt_inj.mp (z.trans (by decide))); have z5 : ¬ Int32.toInt (l2) = 5 := fun z => q5 (Int32.toInt_inj.mp (z.trans (by decide))); have z6 : ¬ Int32.toInt (l2) = 6 := fun z => q6 (Int32.toInt_inj.mp (z.trans (by decide))); omega) (by decide) ?_
    refine r_bipush (pc := 99) (v := (-2)) dX7_asked_99 (by decide) ?_
    exact s_iret rfl dX7_asked_101 K0
  · have q := (b2i_z _).mp q
    have K0 := K0.2 q
    refine r_bipush (pc := 8) (v := (-2)) dX7_asked_8 (by decide) ?_
    exact s_iret rfl dX7_asked_10 K0
set_option maxHeartbeats 2000000 in
theorem v_X8_asked_0 {K : Sh} {x : Cn} {Q : Int32 → Cn → Prop} {b0 : Nat} {l1 : Int32} {l2 : Int32} {b0_1 : Nat} {n_b0_1 : Nat} {b0_3 : Nat} {n_b0_3 : Nat} (k_b0 : kk K b0 = some (8, 0)) (g_b0_1 : gr x b0 1 = some b0_1) (k_b0_1 : kk K b0_1 = some (20, n_b0_1)) (g_b0_3 : gr x b0 3 = some b0_3) (k_b0_3 : kk K b0_3 = some (20, n_b0_3)) (K0 : vp_in 3 n_b0_1 ∧ ((¬ (0 ≤ l1 ∧ l1 ≤ gi x b0_1 3 - 1) → (Q (-2) x)) ∧ ((0 ≤ l1 ∧ l1 ≤ gi x b0_1 3 - 1) → ((¬ (0 ≤ l2 ∧ l2 ≤ 6) → (Q (-2) x)) ∧ ((0 ≤ l2 ∧ l2 ≤ 6) → ((l24 l1 n_b0_3) ∧ ((l7 l2) ∧ (Q (ao (gi x b0_3) (l1 : Int32).toNatClampNeg (l2 : Int32).toNatClampNeg) x)))))))) : mSI mX8_asked [.ref b0, .int l1, .int l2] K x Q := by
  refine s_I (by decide) (by simp [Value.category]) (Nat.le_of_ble_eq_true rfl) ?_
  show mGM mX8_asked 0 [some (.ref b0), some (.int l1), some (.int l2)] [] (hp K x) (PI K Q)
  refine r_aload_n (pc := 0) dX8_asked_0 rfl ?_
  refine r_iload_n (pc := 1) dX8_asked_1 rfl ?_
  obtain ⟨i_1, K0⟩ := K0
  refine s_VI (pc := 2) mX8_isAsk (ci := 8) (a := b0) (As := [.int l1]) dX8_asked_2 lk_X8_281 in_X8_isAsk mo_X8_isAsk ⟨by decide, rfl⟩ ⟨by decide, by decide⟩ (Nat.le_of_ble_eq_true rfl) k_b0 (sp_X8_isAsk k_b0 g_b0_1 k_b0_1 i_1 ?_)
  refine r_if_eq (pc := 5) (tgt := 29) dX8_asked_5 (by decide) (fun q => ?_) (fun q => ?_)
  · have q := (b2i_z _).mp q
    have K0 := K0.1 q
    refine r_bipush (pc := 29) (v := (-2)) dX8_asked_29 (by decide) ?_
    exact s_iret rfl dX8_asked_31 K0
  · have q := b2i_nz q
    have K0 := K0.2 q
    refine r_iload_n (pc := 8) dX8_asked_8 rfl ?_
    refine r_i2l (pc := 9) dX8_asked_9 ?_
    refine r_lconst (pc := 10) (v := 0) dX8_asked_10 (by decide) ?_
    refine r_ldc2 (pc := 11) (v := 6) dX8_asked_11 cn_X8_53 ?_
    refine s_SI (pc := 14) mX8_in (As := [.long ((l2 : Int32).toInt64), .long 0, .long 6]) dX8_asked_14 lk_X8_45 st_X8_in mo_X8_in ⟨by decide, by decide⟩ (Nat.le_of_ble_eq_true rfl) (sq_X8_in (v := l2) (lo := 0) (hi := 6) rfl (by decide) (by decide) ?_)
    refine r_if_eq (pc := 17) (tgt := 29) dX8_asked_17 (by decide) (fun q => ?_) (fun q => ?_)
    · have q := (b2i_z _).mp q
      have K0 := K0.1 q
      refine r_bipush (pc := 29) (v := (-2)) dX8_asked_29 (by decide) ?_
      exact s_iret rfl dX8_asked_31 K0
    · have q := b2i_nz q
      have K0 := K0.2 q
      refine r_aload_n (pc := 20) dX8_asked_20 rfl ?_
      refine r_iload_n (pc := 21) dX8_asked_21 rfl ?_
      refine r_iload_n (pc := 22) dX8_asked_22 rfl ?_
      obtain ⟨p_4, K0⟩ := K0
      obtain ⟨p_5, K0⟩ := K0
      refine s_VI (pc := 23) mX8_ask0 (ci := 8) (a := b0) (As := [.int l1, .int l2]) dX8_asked_23 lk_X8_284 in_X8_ask0 mo_X8_ask0 ⟨by decide, rfl⟩ ⟨by decide, by decide⟩ (Nat.le_of_ble_eq_true rfl) k_b0 (sr_X8_ask0 k_b0 g_b0_3 k_b0_3 p_4 p_5 ?_)
      refine r_goto (pc := 26) (tgt := 31) dX8_asked_26 (by decide) ?_
      exact s_iret rfl dX8_asked_31 K0
set_option maxHeartbeats 2000000 in
theorem v_X7_limitOf_0 {K : Sh} {x : Cn} {Q : Int32 → Cn → Prop} {b0 : Nat} {l1 : Int32} {l2 : Int32} {b0_2 : Nat} {b0_2_6 : Nat} {n_b0_2_6 : Nat} {b0_2_5 : Nat} {n_b0_2_5 : Nat} (k_b0 : kk K b0 = some (7, 0)) (g_b0_2 : gr x b0 2 = some b0_2) (k_b0_2 : kk K b0_2 = some (4, 0)) (g_b0_2_6 : gr x b0_2 6 = some b0_2_6) (k_b0_2_6 : kk K b0_2_6 = some (20, n_b0_2_6)) (g_b0_2_5 : gr x b0_2 5 = some b0_2_5) (k_b0_2_5 : kk K b0_2_5 = some (20, n_b0_2_5)) (K0 : (¬ (0 < gi x b0_2 0 ∧ 0 ≤ l1 ∧ l1 < 24) → (Q (-2) x)) ∧ ((0 < gi x b0_2 0 ∧ 0 ≤ l1 ∧ l1 < 24) → (((0 ≤ l2 ∧ l2 ≤ 1) → ((¬ l2 = 0 → (vp_in l1 n_b0_2_6 ∧ (Q (gi x b0_2_6 (l1 : Int32).toNatClampNeg) x))) ∧ (l2 = 0 → (vp_in l1 n_b0_2_5 ∧ (Q (gi x b0_2_5 (l1 : Int32).toNatClampNeg) x))))) ∧ (¬ (0 ≤ l2 ∧ l2 ≤ 1) → (Q (-2) x))))) : mSI mX7_limitOf [.ref b0, .int l1, .int l2] K x Q := by
  refine s_I (by decide) (by simp [Value.category]) (Nat.le_of_ble_eq_true rfl) ?_
  show mGM mX7_limitOf 0 [some (.ref b0), some (.int l1), some (.int l2)] [] (hp K x) (PI K Q)
  refine r_aload_n (pc := 0) dX7_limitOf_0 rfl ?_
  refine r_iload_n (pc := 1) dX7_limitOf_1 rfl ?_
  refine s_VI (pc := 2) mX7_isHour (ci := 7) (a := b0) (As := [.int l1]) dX7_limitOf_2 lk_X7_195 in_X7_isHour mo_X7_isHour ⟨by decide, rfl⟩ ⟨by decide, by decide⟩ (Nat.le_of_ble_eq_true rfl) k_b0 (sp_X7_isHour k_b0 g_b0_2 k_b0_2 ?_)
  refine r_if_eq (pc := 5) (tgt := 17) dX7_limitOf_5 (by decide) (fun q => ?_) (fun q => ?_)
  · have q := (b2i_z _).mp q
    have K0 := K0.1 q
    refine r_bipush (pc := 17) (v := (-2)) dX7_limitOf_17 (by decide) ?_
    exact s_iret rfl dX7_limitOf_19 K0
  · have q := b2i_nz q
    have K0 := K0.2 q
    refine r_iload_n (pc := 8) dX7_limitOf_8 rfl ?_
    refine r_iconst (pc := 9) (v := 0) dX7_limitOf_9 (by decide) ?_
    refine r_iconst (pc := 10) (v := 1) dX7_limitOf_10 (by decide) ?_
    refine s_SI (pc := 11) mX7_isWithin (As := [.int l2, .int 0, .int 1]) dX7_limitOf_11 lk_X7_113 st_X7_isWithin mo_X7_isWithin ⟨by decide, by decide⟩ (Nat.le_of_ble_eq_true rfl) (sp_X7_isWithin  ?_)
    refine r_if_ne (pc := 14) (tgt := 20) dX7_limitOf_14 (by decide) (fun q => ?_) (fun q => ?_)
    · have q := b2i_nz q
      have K0 := K0.1 q
      refine r_iload_n (pc := 20) dX7_limitOf_20 rfl ?_
      refine r_if_ne (pc := 21) (tgt := 36) dX7_limitOf_21 (by decide) (fun q => ?_) (fun q => ?_)
      · have K0 := K0.1 q
        refine r_aload_n (pc := 36) dX7_limitOf_36 rfl ?_
        refine s_getR (pc := 37) dX7_limitOf_37 fl_X7_20 rfl k_b0 g_b0_2 ?_
        refine s_getR (pc := 40) dX7_limitOf_40 fl_X7_202 rfl k_b0_2 g_b0_2_6 ?_
        refine r_iload_n (pc := 43) dX7_limitOf_43 rfl ?_
        obtain ⟨i_4, K0⟩ := K0
        refine s_iald (pc := 44) dX7_limitOf_44 k_b0_2_6 i_4 ?_
        exact s_iret rfl dX7_limitOf_45 K0
      · have K0 := K0.2 q
        refine r_aload_n (pc := 24) dX7_limitOf_24 rfl ?_
        refine s_getR (pc := 25) dX7_limitOf_25 fl_X7_20 rfl k_b0 g_b0_2 ?_
        refine s_getR (pc := 28) dX7_limitOf_28 fl_X7_198 rfl k_b0_2 g_b0_2_5 ?_
        refine r_iload_n (pc := 31) dX7_limitOf_31 rfl ?_
        obtain ⟨i_5, K0⟩ := K0
        refine s_iald (pc := 32) dX7_limitOf_32 k_b0_2_5 i_5 ?_
        refine r_goto (pc := 33) (tgt := 45) dX7_limitOf_33 (by decide) ?_
        exact s_iret rfl dX7_limitOf_45 K0
    · have q := (b2i_z _).mp q
      have K0 := K0.2 q
      refine r_bipush (pc := 17) (v := (-2)) dX7_limitOf_17 (by decide) ?_
      exact s_iret rfl dX7_limitOf_19 K0
set_option maxHeartbeats 2000000 in
theorem v_X8_limitOf_0 {K : Sh} {x : Cn} {Q : Int32 → Cn → Prop} {b0 : Nat} {l1 : Int32} {l2 : Int32} {b0_1 : Nat} {n_b0_1 : Nat} (k_b0 : kk K b0 = some (8, 0)) (g_b0_1 : gr x b0 1 = some b0_1) (k_b0_1 : kk K b0_1 = some (20, n_b0_1)) (K0 : vp_in 0 n_b0_1 ∧ ((¬ (0 < gi x b0_1 0 ∧ 0 ≤ l1 ∧ l1 ≤ 23) → (Q (-2) x)) ∧ ((0 < gi x b0_1 0 ∧ 0 ≤ l1 ∧ l1 ≤ 23) → ((¬ (0 ≤ l2 ∧ l2 ≤ 1) → (Q (-2) x)) ∧ ((0 ≤ l2 ∧ l2 ≤ 1) → (vp_in ((6 + (2 * l1)) + l2) n_b0_1 ∧ (Q (gi x b0_1 (((6 + (2 * l1)) + l2) : Int32).toNatClampNeg) x))))))) : mSI mX8_limitOf [.ref b0, .int l1, .int l2] K x Q := by
  refine s_I (by decide) (by simp [Value.category]) (Nat.le_of_ble_eq_true rfl) ?_
  show mGM mX8_limitOf 0 [some (.ref b0), some (.int l1), some (.int l2)] [] (hp K x) (PI K Q)
  refine r_aload_n (pc := 0) dX8_limitOf_0 rfl ?_
  refine r_iload_n (pc := 1) dX8_limitOf_1 rfl ?_
  obtain ⟨i_1, K0⟩ := K0
  refine s_VI (pc := 2) mX8_isHour (ci := 8) (a := b0) (As := [.int l1]) dX8_limitOf_2 lk_X8_64 in_X8_isHour mo_X8_isHour ⟨by decide, rfl⟩ ⟨by decide, by decide⟩ (Nat.le_of_ble_eq_true rfl) k_b0 (sp_X8_isHour k_b0 g_b0_1 k_b0_1 i_1 ?_)
  refine r_if_eq (pc := 5) (tgt := 34) dX8_limitOf_5 (by decide) (fun q => ?_) (fun q => ?_)
  · have q := (b2i_z _).mp q
    have K0 := K0.1 q
    refine r_bipush (pc := 34) (v := (-2)) dX8_limitOf_34 (by decide) ?_
    exact s_iret rfl dX8_limitOf_36 K0
  · have q := b2i_nz q
    have K0 := K0.2 q
    refine r_iload_n (pc := 8) dX8_limitOf_8 rfl ?_
    refine r_i2l (pc := 9) dX8_limitOf_9 ?_
    refine r_lconst (pc := 10) (v := 0) dX8_limitOf_10 (by decide) ?_
    refine r_lconst (pc := 11) (v := 1) dX8_limitOf_11 (by decide) ?_
    refine s_SI (pc := 12) mX8_in (As := [.long ((l2 : Int32).toInt64), .long 0, .long 1]) dX8_limitOf_12 lk_X8_45 st_X8_in mo_X8_in ⟨by decide, by decide⟩ (Nat.le_of_ble_eq_true rfl) (sq_X8_in (v := l2) (lo := 0) (hi := 1) rfl (by decide) (by decide) ?_)
    refine r_if_eq (pc := 15) (tgt := 34) dX8_limitOf_15 (by decide) (fun q => ?_) (fun q => ?_)
    · have q := (b2i_z _).mp q
      have K0 := K0.1 q
      refine r_bipush (pc := 34) (v := (-2)) dX8_limitOf_34 (by decide) ?_
      exact s_iret rfl dX8_limitOf_36 K0
    · have q := b2i_nz q
      have K0 := K0.2 q
      refine r_aload_n (pc := 18) dX8_limitOf_18 rfl ?_
      refine s_getR (pc := 19) dX8_limitOf_19 fl_X8_9 rfl k_b0 g_b0_1 ?_
      refine r_bipush (pc := 22) (v := 6) dX8_limitOf_22 (by decide) ?_
      refine r_iconst (pc := 24) (v := 2) dX8_limitOf_24 (by decide) ?_
      refine r_iload_n (pc := 25) dX8_limitOf_25 rfl ?_
      refine r_imul (pc := 26) dX8_limitOf_26 ?_
      refine r_iadd (pc := 27) dX8_limitOf_27 ?_
      refine r_iload_n (pc := 28) dX8_limitOf_28 rfl ?_
      refine r_iadd (pc := 29) dX8_limitOf_29 ?_
      obtain ⟨i_4, K0⟩ := K0
      refine s_iald (pc := 30) dX8_limitOf_30 k_b0_1 i_4 ?_
      refine r_goto (pc := 31) (tgt := 36) dX8_limitOf_31 (by decide) ?_
      exact s_iret rfl dX8_limitOf_36 K0
set_option maxHeartbeats 2000000 in
theorem v_X7_use_0 {K : Sh} {x : Cn} {Q : Int32 → Cn → Prop} {b0 : Nat} {l1 : Int32} {l2 : Int32} {b0_2 : Nat} {b0_2_7 : Nat} {n_b0_2_7 : Nat} (k_b0 : kk K b0 = some (7, 0)) (g_b0_2 : gr x b0 2 = some b0_2) (k_b0_2 : kk K b0_2 = some (4, 0)) (g_b0_2_7 : gr x b0_2 7 = some b0_2_7) (k_b0_2_7 : kk K b0_2_7 = some (23, n_b0_2_7)) (K0 : (¬ (0 ≤ l1 ∧ l1 < gi x b0_2 3) → (Q (-2) x)) ∧ ((0 ≤ l1 ∧ l1 < gi x b0_2 3) → (((0 ≤ l2 ∧ l2 ≤ 1) → ((¬ l2 = 0 → (vp_in l1 n_b0_2_7 ∧ (∃ c_5 : Nat, gr x b0_2_7 ((l1 : Int32).toNatClampNeg) = some c_5 ∧ (kk K c_5 = some (5, 0) ∧ (Q (nI (cpt (gi x c_5 8 ||| gi x c_5 10))) x))))) ∧ (l2 = 0 → (vp_in l1 n_b0_2_7 ∧ (∃ c_9 : Nat, gr x b0_2_7 ((l1 : Int32).toNatClampNeg) = some c_9 ∧ (kk K c_9 = some (5, 0) ∧ (Q (nI (cpt (f_held x c_9))) x))))))) ∧ (¬ (0 ≤ l2 ∧ l2 ≤ 1) → (Q (-2) x))))) : mSI mX7_use [.ref b0, .int l1, .int l2] K x Q := by
  refine s_I (by decide) (by simp [Value.category]) (Nat.le_of_ble_eq_true rfl) ?_
  show mGM mX7_use 0 [some (.ref b0), some (.int l1), some (.int l2)] [] (hp K x) (PI K Q)
  refine r_aload_n (pc := 0) dX7_use_0 rfl ?_
  refine r_iload_n (pc := 1) dX7_use_1 rfl ?_
  refine s_VI (pc := 2) mX7_isSeries (ci := 7) (a := b0) (As := [.int l1]) dX7_use_2 lk_X7_132 in_X7_isSeries mo_X7_isSeries ⟨by decide, rfl⟩ ⟨by decide, by decide⟩ (Nat.le_of_ble_eq_true rfl) k_b0 (sp_X7_isSeries k_b0 g_b0_2 k_b0_2 ?_)
  refine r_if_eq (pc := 5) (tgt := 17) dX7_use_5 (by decide) (fun q => ?_) (fun q => ?_)
  · have q := (b2i_z _).mp q
    have K0 := K0.1 q
    refine r_bipush (pc := 17) (v := (-2)) dX7_use_17 (by decide) ?_
    exact s_iret rfl dX7_use_19 K0
  · have q := b2i_nz q
    have K0 := K0.2 q
    refine r_iload_n (pc := 8) dX7_use_8 rfl ?_
    refine r_iconst (pc := 9) (v := 0) dX7_use_9 (by decide) ?_
    refine r_iconst (pc := 10) (v := 1) dX7_use_10 (by decide) ?_
    refine s_SI (pc := 11) mX7_isWithin (As := [.int l2, .int 0, .int 1]) dX7_use_11 lk_X7_113 st_X7_isWithin mo_X7_isWithin ⟨by decide, by decide⟩ (Nat.le_of_ble_eq_true rfl) (sp_X7_isWithin  ?_)
    refine r_if_ne (pc := 14) (tgt := 20) dX7_use_14 (by decide) (fun q => ?_) (fun q => ?_)
    · have q := b2i_nz q
      have K0 := K0.1 q
      refine r_iload_n (pc := 20) dX7_use_20 rfl ?_
      refine r_if_ne (pc := 21) (tgt := 39) dX7_use_21 (by decide) (fun q => ?_) (fun q => ?_)
      · have K0 := K0.1 q
        refine r_aload_n (pc := 39) dX7_use_39 rfl ?_
        refine s_getR (pc := 40) dX7_use_40 fl_X7_20 rfl k_b0 g_b0_2 ?_
        refine s_getR (pc := 43) dX7_use_43 fl_X7_135 rfl k_b0_2 g_b0_2_7 ?_
        refine r_iload_n (pc := 46) dX7_use_46 rfl ?_
        obtain ⟨i_4, K0⟩ := K0
        obtain ⟨c_5, g_6, K0⟩ := K0
        refine s_aald (pc := 47) dX7_use_47 (by decide) rfl k_b0_2_7 i_4 g_6 ?_
        obtain ⟨e_7, K0⟩ := K0
        refine s_VI (pc := 48) mX5_good (ci := 5) (a := c_5) (As := []) dX7_use_48 lk_X7_233 in_X5_good mo_X5_good ⟨by decide, rfl⟩ ⟨by decide, by decide⟩ (Nat.le_of_ble_eq_true rfl) e_7 (sp_X5_good e_7 ?_)
        exact s_iret rfl dX7_use_51 K0
      · have K0 := K0.2 q
        refine r_aload_n (pc := 24) dX7_use_24 rfl ?_
        refine s_getR (pc := 25) dX7_use_25 fl_X7_20 rfl k_b0 g_b0_2 ?_
        refine s_getR (pc := 28) dX7_use_28 fl_X7_135 rfl k_b0_2 g_b0_2_7 ?_
        refine r_iload_n (pc := 31) dX7_use_31 rfl ?_
        obtain ⟨i_8, K0⟩ := K0
        obtain ⟨c_9, g_10, K0⟩ := K0
        refine s_aald (pc := 32) dX7_use_32 (by decide) rfl k_b0_2_7 i_8 g_10 ?_
        obtain ⟨e_11, K0⟩ := K0
        refine s_VI (pc := 33) mX5_basis (ci := 5) (a := c_9) (As := []) dX7_use_33 lk_X7_229 in_X5_basis mo_X5_basis ⟨by decide, rfl⟩ ⟨by decide, by decide⟩ (Nat.le_of_ble_eq_true rfl) e_11 (sp_X5_basis e_11 ?_)
        refine r_goto (pc := 36) (tgt := 51) dX7_use_36 (by decide) ?_
        exact s_iret rfl dX7_use_51 K0
    · have q := (b2i_z _).mp q
      have K0 := K0.2 q
      refine r_bipush (pc := 17) (v := (-2)) dX7_use_17 (by decide) ?_
      exact s_iret rfl dX7_use_19 K0
set_option maxHeartbeats 2000000 in
theorem v_X8_use_0 {K : Sh} {x : Cn} {Q : Int32 → Cn → Prop} {b0 : Nat} {l1 : Int32} {l2 : Int32} {b0_1 : Nat} {n_b0_1 : Nat} {b0_3 : Nat} {n_b0_3 : Nat} (k_b0 : kk K b0 = some (8, 0)) (g_b0_1 : gr x b0 1 = some b0_1) (k_b0_1 : kk K b0_1 = some (20, n_b0_1)) (g_b0_3 : gr x b0 3 = some b0_3) (k_b0_3 : kk K b0_3 = some (20, n_b0_3)) (K0 : vp_in 2 n_b0_1 ∧ ((¬ (0 ≤ l1 ∧ l1 ≤ gi x b0_1 2 - 1) → (Q (-2) x)) ∧ ((0 ≤ l1 ∧ l1 ≤ gi x b0_1 2 - 1) → (((0 ≤ l2 ∧ l2 ≤ 1) → ((¬ l2 = 0 → ((l24 l1 n_b0_3) ∧ (Q (nI (cpt (so (gi x b0_3) (l1 : Int32).toNatClampNeg 8 ||| so (gi x b0_3) (l1 : Int32).toNatClampNeg 10))) x))) ∧ (l2 = 0 → ((l24 l1 n_b0_3) ∧ (Q (nI (cpt (bas (gi x b0_3) (l1 : Int32).toNatClampNeg))) x))))) ∧ (¬ (0 ≤ l2 ∧ l2 ≤ 1) → (Q (-2) x)))))) : mSI mX8_use [.ref b0, .int l1, .int l2] K x Q := by
  refine s_I (by decide) (by simp [Value.category]) (Nat.le_of_ble_eq_true rfl) ?_
  show mGM mX8_use 0 [some (.ref b0), some (.int l1), some (.int l2)] [] (hp K x) (PI K Q)
  refine r_aload_n (pc := 0) dX8_use_0 rfl ?_
  refine r_iload_n (pc := 1) dX8_use_1 rfl ?_
  obtain ⟨i_1, K0⟩ := K0
  refine s_VI (pc := 2) mX8_isSeries (ci := 8) (a := b0) (As := [.int l1]) dX8_use_2 lk_X8_273 in_X8_isSeries mo_X8_isSeries ⟨by decide, rfl⟩ ⟨by decide, by decide⟩ (Nat.le_of_ble_eq_true rfl) k_b0 (sp_X8_isSeries k_b0 g_b0_1 k_b0_1 i_1 ?_)
  refine r_if_eq (pc := 5) (tgt := 18) dX8_use_5 (by decide) (fun q => ?_) (fun q => ?_)
  · have q := (b2i_z _).mp q
    have K0 := K0.1 q
    refine r_bipush (pc := 18) (v := (-2)) dX8_use_18 (by decide) ?_
    exact s_iret rfl dX8_use_20 K0
  · have q := b2i_nz q
    have K0 := K0.2 q
    refine r_iload_n (pc := 8) dX8_use_8 rfl ?_
    refine r_i2l (pc := 9) dX8_use_9 ?_
    refine r_lconst (pc := 10) (v := 0) dX8_use_10 (by decide) ?_
    refine r_lconst (pc := 11) (v := 1) dX8_use_11 (by decide) ?_
    refine s_SI (pc := 12) mX8_in (As := [.long ((l2 : Int32).toInt64), .long 0, .long 1]) dX8_use_12 lk_X8_45 st_X8_in mo_X8_in ⟨by decide, by decide⟩ (Nat.le_of_ble_eq_true rfl) (sq_X8_in (v := l2) (lo := 0) (hi := 1) rfl (by decide) (by decide) ?_)
    refine r_if_ne (pc := 15) (tgt := 21) dX8_use_15 (by decide) (fun q => ?_) (fun q => ?_)
    · have q := b2i_nz q
      have K0 := K0.1 q
      refine r_iload_n (pc := 21) dX8_use_21 rfl ?_
      refine r_if_ne (pc := 22) (tgt := 36) dX8_use_22 (by decide) (fun q => ?_) (fun q => ?_)
      · have K0 := K0.1 q
        refine r_aload_n (pc := 36) dX8_use_36 rfl ?_
        refine r_iload_n (pc := 37) dX8_use_37 rfl ?_
        obtain ⟨p_5, K0⟩ := K0
        refine s_VI (pc := 38) mX8_goodOf (ci := 8) (a := b0) (As := [.int l1]) dX8_use_38 lk_X8_299 in_X8_goodOf mo_X8_goodOf ⟨by decide, rfl⟩ ⟨by decide, by decide⟩ (Nat.le_of_ble_eq_true rfl) k_b0 (sr_X8_goodOf k_b0 g_b0_3 k_b0_3 p_5 ?_)
        exact s_iret rfl dX8_use_41 K0
      · have K0 := K0.2 q
        refine r_aload_n (pc := 25) dX8_use_25 rfl ?_
        refine r_iload_n (pc := 26) dX8_use_26 rfl ?_
        obtain ⟨p_6, K0⟩ := K0
        refine s_VI (pc := 27) mX8_basisOf (ci := 8) (a := b0) (As := [.int l1]) dX8_use_27 lk_X8_71 in_X8_basisOf mo_X8_basisOf ⟨by decide, rfl⟩ ⟨by decide, by decide⟩ (Nat.le_of_ble_eq_true rfl) k_b0 (sr_X8_basisOf k_b0 g_b0_3 k_b0_3 p_6 ?_)
        refine s_SI (pc := 30) mX8_bits (As := [.int (bas (gi x b0_3) (l1 : Int32).toNatClampNeg)]) dX8_use_30 lk_X8_296 st_X8_bits mo_X8_bits ⟨by decide, by decide⟩ (Nat.le_of_ble_eq_true rfl) (sp_X8_bits  ?_)
        refine r_goto (pc := 33) (tgt := 41) dX8_use_33 (by decide) ?_
        exact s_iret rfl dX8_use_41 K0
    · have q := (b2i_z _).mp q
      have K0 := K0.2 q
      refine r_bipush (pc := 18) (v := (-2)) dX8_use_18 (by decide) ?_
      exact s_iret rfl dX8_use_20 K0
set_option maxHeartbeats 2000000 in
theorem v_X7_rate_0 {K : Sh} {x : Cn} {Q : Int32 → Cn → Prop} {b0 : Nat} {l1 : Int32} {b0_2 : Nat} {b0_2_7 : Nat} {n_b0_2_7 : Nat} (k_b0 : kk K b0 = some (7, 0)) (g_b0_2 : gr x b0 2 = some b0_2) (k_b0_2 : kk K b0_2 = some (4, 0)) (g_b0_2_7 : gr x b0_2 7 = some b0_2_7) (k_b0_2_7 : kk K b0_2_7 = some (23, n_b0_2_7)) (K0 : ((0 ≤ l1 ∧ l1 < gi x b0_2 3) → (vp_in l1 n_b0_2_7 ∧ (∃ c_3 : Nat, gr x b0_2_7 ((l1 : Int32).toNatClampNeg) = some c_3 ∧ (kk K c_3 = some (5, 0) ∧ (((nI (cpt (f_held x c_3))) ≤ 0 → (Q (-1) x)) ∧ (¬ (nI (cpt (f_held x c_3))) ≤ 0 → ((¬ (nI (cpt (f_held x c_3))) = 0) ∧ (Q ((100 * (nI (cpt (gi x c_3 8 ||| gi x c_3 10)))) / (nI (cpt (f_held x c_3)))) x)))))))) ∧ (¬ (0 ≤ l1 ∧ l1 < gi x b0_2 3) → (Q (-2) x))) : mSI mX7_rate [.ref b0, .int l1] K x Q := by
  refine s_I (by decide) (by simp [Value.category]) (Nat.le_of_ble_eq_true rfl) ?_
  show mGM mX7_rate 0 [some (.ref b0), some (.int l1), none] [] (hp K x) (PI K Q)
  refine r_aload_n (pc := 0) dX7_rate_0 rfl ?_
  refine r_iload_n (pc := 1) dX7_rate_1 rfl ?_
  refine s_VI (pc := 2) mX7_isSeries (ci := 7) (a := b0) (As := [.int l1]) dX7_rate_2 lk_X7_132 in_X7_isSeries mo_X7_isSeries ⟨by decide, rfl⟩ ⟨by decide, by decide⟩ (Nat.le_of_ble_eq_true rfl) k_b0 (sp_X7_isSeries k_b0 g_b0_2 k_b0_2 ?_)
  refine r_if_ne (pc := 5) (tgt := 11) dX7_rate_5 (by decide) (fun q => ?_) (fun q => ?_)
  · have q := b2i_nz q
    have K0 := K0.1 q
    refine r_aload_n (pc := 11) dX7_rate_11 rfl ?_
    refine s_getR (pc := 12) dX7_rate_12 fl_X7_20 rfl k_b0 g_b0_2 ?_
    refine s_getR (pc := 15) dX7_rate_15 fl_X7_135 rfl k_b0_2 g_b0_2_7 ?_
    refine r_iload_n (pc := 18) dX7_rate_18 rfl ?_
    obtain ⟨i_2, K0⟩ := K0
    obtain ⟨c_3, g_4, K0⟩ := K0
    refine s_aald (pc := 19) dX7_rate_19 (by decide) rfl k_b0_2_7 i_2 g_4 ?_
    obtain ⟨e_5, K0⟩ := K0
    refine s_VI (pc := 20) mX5_basis (ci := 5) (a := c_3) (As := []) dX7_rate_20 lk_X7_229 in_X5_basis mo_X5_basis ⟨by decide, rfl⟩ ⟨by decide, by decide⟩ (Nat.le_of_ble_eq_true rfl) e_5 (sp_X5_basis e_5 ?_)
    refine r_istore_n (pc := 23) dX7_rate_23 (by decide) ?_
    refine r_iload_n (pc := 24) (L := [some (.ref b0), some (.int l1), some (.int (nI (cpt (f_held x c_3))))]) dX7_rate_24 rfl ?_
    refine r_if_le (pc := 25) (tgt := 48) dX7_rate_25 (by decide) (fun q => ?_) (fun q => ?_)
    · have K0 := K0.1 q
      refine r_iconst (pc := 48) (v := (-1)) dX7_rate_48 (by decide) ?_
      exact s_iret rfl dX7_rate_49 K0
    · have K0 := K0.2 q
      refine r_bipush (pc := 28) (v := 100) dX7_rate_28 (by decide) ?_
      refine r_aload_n (pc := 30) dX7_rate_30 rfl ?_
      refine s_getR (pc := 31) dX7_rate_31 fl_X7_20 rfl k_b0 g_b0_2 ?_
      refine s_getR (pc := 34) dX7_rate_34 fl_X7_135 rfl k_b0_2 g_b0_2_7 ?_
      refine r_iload_n (pc := 37) dX7_rate_37 rfl ?_
      refine s_aald (pc := 38) dX7_rate_38 (by decide) rfl k_b0_2_7 i_2 g_4 ?_
      refine s_VI (pc := 39) mX5_good (ci := 5) (a := c_3) (As := []) dX7_rate_39 lk_X7_233 in_X5_good mo_X5_good ⟨by decide, rfl⟩ ⟨by decide, by decide⟩ (Nat.le_of_ble_eq_true rfl) e_5 (sp_X5_good e_5 ?_)
      refine r_imul (pc := 42) dX7_rate_42 ?_
      refine r_iload_n (pc := 43) dX7_rate_43 rfl ?_
      obtain ⟨p_7, K0⟩ := K0
      refine r_idiv (pc := 44) dX7_rate_44 p_7 ?_
      refine r_goto (pc := 45) (tgt := 49) dX7_rate_45 (by decide) ?_
      exact s_iret rfl dX7_rate_49 K0
  · have q := (b2i_z _).mp q
    have K0 := K0.2 q
    refine r_bipush (pc := 8) (v := (-2)) dX7_rate_8 (by decide) ?_
    exact s_iret rfl dX7_rate_10 K0
set_option maxHeartbeats 2000000 in
theorem v_X8_rate_0 {K : Sh} {x : Cn} {Q : Int32 → Cn → Prop} {b0 : Nat} {l1 : Int32} {b0_1 : Nat} {n_b0_1 : Nat} {b0_3 : Nat} {n_b0_3 : Nat} (k_b0 : kk K b0 = some (8, 0)) (g_b0_1 : gr x b0 1 = some b0_1) (k_b0_1 : kk K b0_1 = some (20, n_b0_1)) (g_b0_3 : gr x b0 3 = some b0_3) (k_b0_3 : kk K b0_3 = some (20, n_b0_3)) (K0 : vp_in 2 n_b0_1 ∧ (((0 ≤ l1 ∧ l1 ≤ gi x b0_1 2 - 1) → ((l24 l1 n_b0_3) ∧ ((¬ (nI (cpt (bas (gi x b0_3) (l1 : Int32).toNatClampNeg))) = 0 → ((¬ (nI (cpt (bas (gi x b0_3) (l1 : Int32).toNatClampNeg))) = 0) ∧ (Q ((100 * (nI (cpt (so (gi x b0_3) (l1 : Int32).toNatClampNeg 8 ||| so (gi x b0_3) (l1 : Int32).toNatClampNeg 10)))) / (nI (cpt (bas (gi x b0_3) (l1 : Int32).toNatClampNeg)))) x))) ∧ ((nI (cpt (bas (gi x b0_3) (l1 : Int32).toNatClampNeg))) = 0 → (Q (-1) x))))) ∧ (¬ (0 ≤ l1 ∧ l1 ≤ gi x b0_1 2 - 1) → (Q (-2) x)))) : mSI mX8_rate [.ref b0, .int l1] K x Q := by
  refine s_I (by decide) (by simp [Value.category]) (Nat.le_of_ble_eq_true rfl) ?_
  show mGM mX8_rate 0 [some (.ref b0), some (.int l1), none] [] (hp K x) (PI K Q)
  refine r_aload_n (pc := 0) dX8_rate_0 rfl ?_
  refine r_iload_n (pc := 1) dX8_rate_1 rfl ?_
  obtain ⟨i_1, K0⟩ := K0
  refine s_VI (pc := 2) mX8_isSeries (ci := 8) (a := b0) (As := [.int l1]) dX8_rate_2 lk_X8_273 in_X8_isSeries mo_X8_isSeries ⟨by decide, rfl⟩ ⟨by decide, by decide⟩ (Nat.le_of_ble_eq_true rfl) k_b0 (sp_X8_isSeries k_b0 g_b0_1 k_b0_1 i_1 ?_)
  refine r_if_ne (pc := 5) (tgt := 11) dX8_rate_5 (by decide) (fun q => ?_) (fun q => ?_)
  · have q := b2i_nz q
    have K0 := K0.1 q
    refine r_aload_n (pc := 11) dX8_rate_11 rfl ?_
    refine r_iload_n (pc := 12) dX8_rate_12 rfl ?_
    obtain ⟨p_3, K0⟩ := K0
    refine s_VI (pc := 13) mX8_basisOf (ci := 8) (a := b0) (As := [.int l1]) dX8_rate_13 lk_X8_71 in_X8_basisOf mo_X8_basisOf ⟨by decide, rfl⟩ ⟨by decide, by decide⟩ (Nat.le_of_ble_eq_true rfl) k_b0 (sr_X8_basisOf k_b0 g_b0_3 k_b0_3 p_3 ?_)
    refine s_SI (pc := 16) mX8_bits (As := [.int (bas (gi x b0_3) (l1 : Int32).toNatClampNeg)]) dX8_rate_16 lk_X8_296 st_X8_bits mo_X8_bits ⟨by decide, by decide⟩ (Nat.le_of_ble_eq_true rfl) (sp_X8_bits  ?_)
    refine r_istore_n (pc := 19) dX8_rate_19 (by decide) ?_
    refine r_iload_n (pc := 20) (L := [some (.ref b0), some (.int l1), some (.int (nI (cpt (bas (gi x b0_3) (l1 : Int32).toNatClampNeg))))]) dX8_rate_20 rfl ?_
    refine r_if_ne (pc := 21) (tgt := 28) dX8_rate_21 (by decide) (fun q => ?_) (fun q => ?_)
    · have K0 := K0.1 q
      refine r_bipush (pc := 28) (v := 100) dX8_rate_28 (by decide) ?_
      refine r_aload_n (pc := 30) dX8_rate_30 rfl ?_
      refine r_iload_n (pc := 31) dX8_rate_31 rfl ?_
      refine s_VI (pc := 32) mX8_goodOf (ci := 8) (a := b0) (As := [.int l1]) dX8_rate_32 lk_X8_299 in_X8_goodOf mo_X8_goodOf ⟨by decide, rfl⟩ ⟨by decide, by decide⟩ (Nat.le_of_ble_eq_true rfl) k_b0 (sr_X8_goodOf k_b0 g_b0_3 k_b0_3 p_3 ?_)
      refine r_imul (pc := 35) dX8_rate_35 ?_
      refine r_iload_n (pc := 36) dX8_rate_36 rfl ?_
      obtain ⟨p_5, K0⟩ := K0
      refine r_idiv (pc := 37) dX8_rate_37 p_5 ?_
      exact s_iret rfl dX8_rate_38 K0
    · have K0 := K0.2 q
      refine r_iconst (pc := 24) (v := (-1)) dX8_rate_24 (by decide) ?_
      refine r_goto (pc := 25) (tgt := 38) dX8_rate_25 (by decide) ?_
      exact s_iret rfl dX8_rate_38 K0
  · have q := (b2i_z _).mp q
    have K0 := K0.2 q
    refine r_bipush (pc := 8) (v := (-2)) dX8_rate_8 (by decide) ?_
    exact s_iret rfl dX8_rate_10 K0
theorem eq_series (a b : Int32) : Both mX7_series mX8_series [.int a, .int b] := by
  intro x R
  obtain ⟨W, C, S, A, N, E, -, -⟩ := R.sea
  have hn := E.nums
  have ht := Rel.t2 E
  have hS : S ≤ 24 := hn.2.2.2.2.2.2.1
  have iS := inN' (v := a) (n := S) (by omega)
  have rf : mSI mX8_series [.ref 717, .int a, .int b] KW x (fun r' z => (if (0 ≤ a ∧ a < nI S) ∧ (0 ≤ b ∧ b ≤ 5) then (if 5 ≤ b then (bas (gi x 718) a.toNatClampNeg ||| so (gi x 718) a.toNatClampNeg 11) else so (gi x 718) a.toNatClampNeg b.toNatClampNeg) else -2) = r' ∧ Rel z) := by
    refine v_X8_series_0 km R.2.1.1 km1 R.2.1.2.2.1 km1 ⟨v0 (k := 2) (by decide) rfl rfl, ?_⟩
    rw [ht.2.2.1, iS]
    refine ⟨fun z => ⟨if_neg (fun w => z w.1), R⟩, fun z => ⟨fun z2 => ?_, fun z2 => ⟨if_neg (fun w => z2 w.2), R⟩⟩⟩
    rw [if_pos ⟨z, z2⟩]
    obtain ⟨s, hs, rfl⟩ := inN (by omega) z
    refine ⟨fun z3 => ⟨l24_nI (by omega) rfl, if_pos z3, R⟩, fun z3 => ⟨l24_nI (by omega) rfl, ⟨z2.1, Int32.lt_of_le_of_lt z2.2 (by decide)⟩, if_neg z3, R⟩⟩
  refine v_X7_series_0 k0 R.1.2.1 (ks0 E.1) E.2.1.2.2.1 (ks3 E.1) ?_
  rw [hn.2.2.1]
  refine ⟨fun z => ?_, fun z => by rwa [if_neg (fun w => z w.1)] at rf⟩
  obtain ⟨s, hs, rfl⟩ := inN (by omega) z
  obtain ⟨p, e1, e2, e3, e4, -, e6⟩ := E.ser hs
  refine ⟨vp_in_nI (by omega) (by decide), p, by rw [nI_clamp (by omega)]; exact e1, ?_⟩
  rw [nI_clamp (show s < 2 ^ 31 by omega)] at rf
  rw [e3.1 0 (by decide) (by decide), e3.1 1 (by decide) (by decide), e3.1 2 (by decide) (by decide), e3.1 3 (by decide) (by decide), e3.1 4 (by decide) (by decide), e3.2]
  have sm : ∀ (k : Nat) (v : Int32), b = v → v = nI k → k < 5 → mSI mX8_series [.ref 717, .int (nI s), .int b] KW x (fun r' z => so (gi x 718) s k = r' ∧ Rel z) := by
    intro k v e1 e2 hk
    subst e1
    subst e2
    have h5 : nI k ≤ 5 := nI_le (b := 5) (by omega) (by decide)
    have h6 : ¬ (5 : Int32) ≤ nI k := nI_ge (b := 5) hk (by decide)
    rw [if_pos ⟨z, nI_pos' (by omega), h5⟩, if_neg h6, nI_clamp (by omega)] at rf
    exact rf
  refine ⟨fun w => ⟨e2, sm 0 0 w (by decide) (by decide)⟩, fun w => ⟨e2, sm 1 1 w (by decide) (by decide)⟩, fun w => ⟨e2, sm 2 2 w (by decide) (by decide)⟩, fun w => ⟨e2, sm 3 3 w (by decide) (by decide)⟩, fun w => ⟨e2, fun w2 => ?_, fun w2 => ?_⟩, fun w => ⟨e2, ?_⟩, fun w => ?_⟩
  · have := sm 4 4 w (by decide) (by decide)
    rwa [w2] at this
  · have := sm 4 4 w (by decide) (by decide)
    rcases e6.2.2.2.2.1 with g | g
    · exact absurd g w2
    · rwa [g] at this
  · subst w
    rw [if_pos ⟨z, by decide, by decide⟩, if_pos (by decide)] at rf
    exact rf
  · rw [if_neg] at rf
    · exact rf
    · intro g
      obtain ⟨k, hk, rfl⟩ := nI_of2 (M := 5) (n := 5) (by decide) (Int32.not_lt.mpr g.2.1) g.2.2
      have hk' : k = 0 ∨ k = 1 ∨ k = 2 ∨ k = 3 ∨ k = 4 ∨ k = 5 := by omega
      rcases hk' with rfl | rfl | rfl | rfl | rfl | rfl
      · exact w.1 rfl
      · exact w.2.1 rfl
      · exact w.2.2.1 rfl
      · exact w.2.2.2.1 rfl
      · exact w.2.2.2.2.1 rfl
      · exact w.2.2.2.2.2 rfl
theorem eq_asked (a b : Int32) : Both mX7_asked mX8_asked [.int a, .int b] := by
  intro x R
  obtain ⟨W, C, S, A, N, E, -, -⟩ := R.sea
  have hn := E.nums
  have ht := Rel.t2 E
  have hA : A ≤ 24 := hn.2.2.2.2.2.2.2.1
  have iS := inN' (v := a) (n := A) (by omega)
  have rf : mSI mX8_asked [.ref 717, .int a, .int b] KW x (fun r' z => (if (0 ≤ a ∧ a < nI A) ∧ (0 ≤ b ∧ b ≤ 6) then ao (gi x 718) a.toNatClampNeg b.toNatClampNeg else -2) = r' ∧ Rel z) := by
    refine v_X8_asked_0 km R.2.1.1 km1 R.2.1.2.2.1 km1 ⟨v0 (k := 3) (by decide) rfl rfl, ?_⟩
    rw [ht.2.2.2.1, iS]
    refine ⟨fun z => ⟨if_neg (fun w => z w.1), R⟩, fun z => ⟨fun z2 => ⟨if_neg (fun w => z2 w.2), R⟩, fun z2 => ?_⟩⟩
    rw [if_pos ⟨z, z2⟩]
    obtain ⟨s, hs, rfl⟩ := inN (by omega) z
    exact ⟨l24_nI (by omega) rfl, ⟨z2.1, Int32.lt_of_le_of_lt z2.2 (by decide)⟩, rfl, R⟩
  refine v_X7_asked_0 k0 R.1.2.1 (ks0 E.1) E.2.1.2.2.2.1 (ks4 E.1) ?_
  rw [hn.2.2.2.1]
  refine ⟨fun z => ?_, fun z => by rwa [if_neg (fun w => z w.1)] at rf⟩
  obtain ⟨s, hs, rfl⟩ := inN (by omega) z
  obtain ⟨p, e1, e2, e3, e6⟩ := E.ask hs
  refine ⟨vp_in_nI (by omega) (by decide), p, by rw [nI_clamp (by omega)]; exact e1, ?_⟩
  rw [nI_clamp (show s < 2 ^ 31 by omega)] at rf
  rw [e3 0 (by decide), e3 1 (by decide), e3 2 (by decide), e3 3 (by decide), e3 4 (by decide), e3 5 (by decide), e3 6 (by decide)]
  have sm : ∀ (k : Nat) (v : Int32), b = v → v = nI k → k < 7 → mSI mX8_asked [.ref 717, .int (nI s), .int b] KW x (fun r' z => ao (gi x 718) s k = r' ∧ Rel z) := by
    intro k v e1 e2 hk
    subst e1
    subst e2
    have h5 : nI k ≤ 6 := nI_le (b := 6) (by omega) (by decide)
    rw [if_pos ⟨z, nI_pos' (by omega), h5⟩, nI_clamp (by omega)] at rf
    exact rf
  refine ⟨fun w => ⟨e2, sm 0 0 w (by decide) (by decide)⟩, fun w => ⟨e2, sm 1 1 w (by decide) (by decide)⟩, fun w => ⟨e2, sm 2 2 w (by decide) (by decide)⟩, fun w => ⟨e2, sm 3 3 w (by decide) (by decide)⟩, fun w => ⟨e2, sm 4 4 w (by decide) (by decide)⟩, fun w => ⟨e2, sm 5 5 w (by decide) (by decide)⟩, fun w => ⟨e2, sm 6 6 w (by decide) (by decide)⟩, fun w => ?_⟩
  rw [if_neg] at rf
  · exact rf
  · intro g
    obtain ⟨k, hk, rfl⟩ := nI_of2 (M := 6) (n := 6) (by decide) (Int32.not_lt.mpr g.2.1) g.2.2
    have hk' : k = 0 ∨ k = 1 ∨ k = 2 ∨ k = 3 ∨ k = 4 ∨ k = 5 ∨ k = 6 := by omega
    rcases hk' with rfl | rfl | rfl | rfl | rfl | rfl | rfl
    · exact w.1 rfl
    · exact w.2.1 rfl
    · exact w.2.2.1 rfl
    · exact w.2.2.2.1 rfl
    · exact w.2.2.2.2.1 rfl
    · exact w.2.2.2.2.2.1 rfl
    · exact w.2.2.2.2.2.2 rfl
theorem eq_limitOf (a b : Int32) : Both mX7_limitOf mX8_limitOf [.int a, .int b] := by
  intro x R
  obtain ⟨W, C, S, A, N, E, -, -⟩ := R.sea
  have hn := E.nums
  have ht := Rel.t2 E
  have rf : mSI mX8_limitOf [.ref 717, .int a, .int b] KW x (fun r' z => (if (0 < nI W ∧ 0 ≤ a ∧ a < 24) ∧ (0 ≤ b ∧ b ≤ 1) then (if b = 0 then gi x 718 (6 + 2 * a.toNatClampNeg) else gi x 718 (7 + 2 * a.toNatClampNeg)) else -2) = r' ∧ Rel z) := by
    refine v_X8_limitOf_0 km R.2.1.1 km1 ⟨v0 (k := 0) (by decide) rfl rfl, ?_⟩
    rw [ht.1, d24]
    refine ⟨fun z => ⟨if_neg (fun w => z w.1), R⟩, fun z => ⟨fun z2 => ⟨if_neg (fun w => z2 w.2), R⟩, fun z2 => ?_⟩⟩
    rw [if_pos ⟨z, z2⟩]
    obtain ⟨h, hh, rfl⟩ := inN (n := 24) (by decide) z.2
    obtain ⟨k, hk, rfl⟩ := nI_of2 (M := 1) (n := 1) (by decide) (Int32.not_lt.mpr z2.1) z2.2
    rw [ixh, nI_add, nI_clamp (show h < 2 ^ 31 by omega), nI_clamp (by omega)]
    have hk' : k = 0 ∨ k = 1 := by omega
    rcases hk' with rfl | rfl
    · exact ⟨vp_in_nI (by omega) (by decide), if_pos (by decide), R⟩
    · exact ⟨vp_in_nI (by omega) (by decide), by rw [if_neg (by decide)]; congr 1; omega, R⟩
  refine v_X7_limitOf_0 k0 R.1.2.1 (ks0 E.1) E.2.1.2.1 (ks2 E.1) E.2.1.1 (ks1 E.1) ?_
  rw [hn.1]
  refine ⟨fun z => by rwa [if_neg (fun w => z w.1)] at rf, fun z => ⟨fun z2 => ?_, fun z2 => by rwa [if_neg (fun w => z2 w.2)] at rf⟩⟩
  rw [if_pos ⟨z, z2⟩] at rf
  obtain ⟨h, hh, rfl⟩ := inN (n := 24) (by decide) z.2
  have hl := E.2.2.1.2.2.2.2.2.1 h hh
  rw [nI_clamp (show h < 2 ^ 31 by omega), hl.1, hl.2] at *
  refine ⟨fun w => ⟨vp_in_nI hh (by decide), ?_⟩, fun w => ⟨vp_in_nI hh (by decide), ?_⟩⟩
  · rwa [if_neg w] at rf
  · rwa [if_pos w] at rf
theorem eq_use (a b : Int32) : Both mX7_use mX8_use [.int a, .int b] := by
  intro x R
  obtain ⟨W, C, S, A, N, E, -, -⟩ := R.sea
  have hn := E.nums
  have ht := Rel.t2 E
  have hS : S ≤ 24 := hn.2.2.2.2.2.2.1
  have iS := inN' (v := a) (n := S) (by omega)
  have rf : mSI mX8_use [.ref 717, .int a, .int b] KW x (fun r' z => (if (0 ≤ a ∧ a < nI S) ∧ (0 ≤ b ∧ b ≤ 1) then (if b = 0 then nI (cpt (bas (gi x 718) a.toNatClampNeg)) else nI (cpt (so (gi x 718) a.toNatClampNeg 8 ||| so (gi x 718) a.toNatClampNeg 10))) else -2) = r' ∧ Rel z) := by
    refine v_X8_use_0 km R.2.1.1 km1 R.2.1.2.2.1 km1 ⟨v0 (k := 2) (by decide) rfl rfl, ?_⟩
    rw [ht.2.2.1, iS]
    refine ⟨fun z => ⟨if_neg (fun w => z w.1), R⟩, fun z => ⟨fun z2 => ?_, fun z2 => ⟨if_neg (fun w => z2 w.2), R⟩⟩⟩
    rw [if_pos ⟨z, z2⟩]
    obtain ⟨s, hs, rfl⟩ := inN (by omega) z
    exact ⟨fun w => ⟨l24_nI (by omega) rfl, if_neg w, R⟩, fun w => ⟨l24_nI (by omega) rfl, if_pos w, R⟩⟩
  refine v_X7_use_0 k0 R.1.2.1 (ks0 E.1) E.2.1.2.2.1 (ks3 E.1) ?_
  rw [hn.2.2.1]
  refine ⟨fun z => by rwa [if_neg (fun w => z w.1)] at rf, fun z => ⟨fun z2 => ?_, fun z2 => by rwa [if_neg (fun w => z2 w.2)] at rf⟩⟩
  rw [if_pos ⟨z, z2⟩] at rf
  obtain ⟨s, hs, rfl⟩ := inN (by omega) z
  obtain ⟨p, e1, e2, e3, e4, -, e6⟩ := E.ser hs
  rw [nI_clamp (show s < 2 ^ 31 by omega)] at rf ⊢
  refine ⟨fun w => ⟨vp_in_nI (by omega) (by decide), p, e1, e2, ?_⟩, fun w => ⟨vp_in_nI (by omega) (by decide), p, e1, e2, ?_⟩⟩
  · rw [if_neg w] at rf
    rw [e3.1 8 (by decide) (by decide), e3.1 10 (by decide) (by decide)]
    exact rf
  · rw [if_pos w] at rf
    rw [e4]
    exact rf
theorem eq_rate (a : Int32) : Both mX7_rate mX8_rate [.int a] := by
  intro x R
  obtain ⟨W, C, S, A, N, E, -, -⟩ := R.sea
  have hn := E.nums
  have ht := Rel.t2 E
  have hS : S ≤ 24 := hn.2.2.2.2.2.2.1
  have iS := inN' (v := a) (n := S) (by omega)
  have rf : mSI mX8_rate [.ref 717, .int a] KW x (fun r' z => (if 0 ≤ a ∧ a < nI S then (if nI (cpt (bas (gi x 718) a.toNatClampNeg)) = 0 then -1 else (100 * (nI (cpt (so (gi x 718) a.toNatClampNeg 8 ||| so (gi x 718) a.toNatClampNeg 10)))) / (nI (cpt (bas (gi x 718) a.toNatClampNeg)))) else -2) = r' ∧ Rel z) := by
    refine v_X8_rate_0 km R.2.1.1 km1 R.2.1.2.2.1 km1 ⟨v0 (k := 2) (by decide) rfl rfl, ?_⟩
    rw [ht.2.2.1, iS]
    refine ⟨fun z => ?_, fun z => ⟨if_neg z, R⟩⟩
    rw [if_pos z]
    obtain ⟨s, hs, rfl⟩ := inN (by omega) z
    exact ⟨l24_nI (by omega) rfl, fun w => ⟨w, if_neg w, R⟩, fun w => ⟨if_pos w, R⟩⟩
  refine v_X7_rate_0 k0 R.1.2.1 (ks0 E.1) E.2.1.2.2.1 (ks3 E.1) ?_
  rw [hn.2.2.1]
  refine ⟨fun z => ?_, fun z => by rwa [if_neg z] at rf⟩
  rw [if_pos z] at rf
  obtain ⟨s, hs, rfl⟩ := inN (by omega) z
  obtain ⟨p, e1, e2, e3, e4, -, e6⟩ := E.ser hs
  rw [nI_clamp (show s < 2 ^ 31 by omega)] at rf ⊢
  refine ⟨vp_in_nI (by omega) (by decide), p, e1, e2, ?_⟩
  rw [e4, e3.1 8 (by decide) (by decide), e3.1 10 (by decide) (by decide)]
  have hc := cpt_le (bas (gi x 718) s)
  refine ⟨fun w => ?_, fun w => ?_⟩
  · rw [if_pos] at rf
    · exact rf
    · rcases Nat.eq_zero_or_pos (cpt (bas (gi x 718) s)) with g | g
      · rw [g]; rfl
      · exact absurd w (nI_nle g (by omega))
  · have hz : ¬ nI (cpt (bas (gi x 718) s)) = 0 := fun g => w (by rw [g]; decide)
    rw [if_neg hz] at rf
    exact ⟨hz, rf⟩
end
/-! 34.reads3.lean.txt -/
section
theorem SEA.cw {x : Cn} {q : Nat} {T : TT} {W C S A N : Nat} (E : SEA x q T W C S A N) (h : 0 < C) : 0 < W := by
  rcases E.2.2.2.2.1 with z | z <;> omega
theorem ldB_3 {T : TT} {w : Nat} {d h b : Int32} : ∀ S, (∀ s, s < S → so T s 3 = 0 ∨ so T s 3 = 1) → ldB T S w d h 0 b = ldB T S w d h 2 b + ldB T S w d h 1 b := by
  intro S
  induction S with
  | zero => intro _; rfl
  | succ S ih =>
    intro g
    have i := ih (fun s hs => g s (by omega))
    have k1 : (∀ k : Int32, (k ≤ 0 ∨ so T S 3 = k - 1) → cB T S w d h 0 b → cB T S w d h k b) := fun k hk z => ⟨z.1, z.2.1, z.2.2.1, hk, z.2.2.2.2⟩
    have k2 : ∀ k : Int32, cB T S w d h k b → cB T S w d h 0 b := fun k z => ⟨z.1, z.2.1, z.2.2.1, Or.inl (by decide), z.2.2.2.2⟩
    by_cases c0 : cB T S w d h 0 b
    · rw [ldB_t c0]
      rcases g S (by omega) with g3 | g3
      · rw [ldB_t (k1 1 (Or.inr (by rw [g3]; rfl)) c0), ldB_f (fun z => by rcases z.2.2.2.1 with u | u; exact absurd u (by decide); rw [g3] at u; exact absurd u (by decide)), i, Int32.add_assoc]
      · rw [ldB_t (k1 2 (Or.inr (by rw [g3]; rfl)) c0), ldB_f (fun z => by rcases z.2.2.2.1 with u | u; exact absurd u (by decide); rw [g3] at u; exact absurd u (by decide)), i]
        rw [Int32.add_assoc, Int32.add_assoc, Int32.add_comm (ldB T S w d h 1 b)]
    · rw [ldB_f c0, ldB_f (fun z => c0 (k2 2 z)), ldB_f (fun z => c0 (k2 1 z)), i]
theorem mm0 (p : Int32) : (if 0 < p then p else 0) = (if p < 0 then 0 else p) := by
  by_cases h : 0 < p
  · rw [if_pos h, if_neg (Int32.not_lt.mpr (Int32.le_of_lt h))]
  · rw [if_neg h]
    by_cases g : p < 0
    · rw [if_pos g]
    · rw [if_neg g]
      exact Int32.le_antisymm (Int32.not_lt.mp g) (Int32.not_lt.mp h)
abbrev cAt (T : TT) (w : Nat) (d h : Int32) (s : Nat) : Prop := so T s 1 = d ∧ so T s 2 = h ∧ tb (bas T s) w = true
def stAt (T : TT) (w : Nat) (d h : Int32) : Nat → Int32 → Int32 ⊕ Int32 := fun s l => if cAt T w d h s then (if l = 0 then .inr (nI s) else .inl (l + (-1))) else .inl l
set_option maxHeartbeats 2000000 in
theorem v_X7_load_0 {K : Sh} {x : Cn} {Q : Int32 → Cn → Prop} {b0 : Nat} {l1 : Int32} {l2 : Int32} {l3 : Int32} {l4 : Int32} {b0_2 : Nat} (k_b0 : kk K b0 = some (7, 0)) (g_b0_2 : gr x b0 2 = some b0_2) (k_b0_2 : kk K b0_2 = some (4, 0)) (K0 : (¬ (0 ≤ l1 ∧ l1 < gi x b0_2 0 ∧ 0 < gi x b0_2 0 ∧ 0 ≤ l2 ∧ l2 < 7 ∧ 0 ≤ l3 ∧ l3 < 24) → (Q (-2) x)) ∧ ((0 ≤ l1 ∧ l1 < gi x b0_2 0 ∧ 0 < gi x b0_2 0 ∧ 0 ≤ l2 ∧ l2 < 7 ∧ 0 ≤ l3 ∧ l3 < 24) → (((0 ≤ l4 ∧ l4 ≤ 2) → ((¬ l4 = 0 → (mSI mX4_loadIn [.ref b0_2, .int l1, .int l2, .int l3] K x (fun r_5 y_4 => (¬ l4 = 1 → (gr y_4 b0 2 = some b0_2 ∧ (mSI mX4_loadOf [.ref b0_2, .int l1, .int l2, .int l3] K y_4 (fun r_9 y_8 => Q (r_9 - r_5) y_8)))) ∧ (l4 = 1 → (Q r_5 y_4))))) ∧ (l4 = 0 → (mSI mX4_loadOf [.ref b0_2, .int l1, .int l2, .int l3] K x (fun r_11 y_10 => Q r_11 y_10))))) ∧ (¬ (0 ≤ l4 ∧ l4 ≤ 2) → (Q (-2) x))))) : mSI mX7_load [.ref b0, .int l1, .int l2, .int l3, .int l4] K x Q := by
  refine s_I (by decide) (by simp [Value.category]) (Nat.le_of_ble_eq_true rfl) ?_
  show mGM mX7_load 0 [some (.ref b0), some (.int l1), some (.int l2), some (.int l3), some (.int l4), none] [] (hp K x) (PI K Q)
  refine r_aload_n (pc := 0) dX7_load_0 rfl ?_
  refine r_iload_n (pc := 1) dX7_load_1 rfl ?_
  refine r_iload_n (pc := 2) dX7_load_2 rfl ?_
  refine r_iload_n (pc := 3) dX7_load_3 rfl ?_
  refine s_VI (pc := 4) mX7_isCell (ci := 7) (a := b0) (As := [.int l1, .int l2, .int l3]) dX7_load_4 lk_X7_205 in_X7_isCell mo_X7_isCell ⟨by decide, rfl⟩ ⟨by decide, by decide⟩ (Nat.le_of_ble_eq_true rfl) k_b0 (sp_X7_isCell k_b0 g_b0_2 k_b0_2 ?_)
  refine r_if_eq (pc := 7) (tgt := 20) dX7_load_7 (by decide) (fun q => ?_) (fun q => ?_)
  · have q := (b2i_z _).mp q
    have K0 := K0.1 q
    refine r_bipush (pc := 20) (v := (-2)) dX7_load_20 (by decide) ?_
    exact s_iret rfl dX7_load_22 K0
  · have q := b2i_nz q
    have K0 := K0.2 q
    refine r_iload (pc := 10) dX7_load_10 rfl ?_
    refine r_iconst (pc := 12) (v := 0) dX7_load_12 (by decide) ?_
    refine r_iconst (pc := 13) (v := 2) dX7_load_13 (by decide) ?_
    refine s_SI (pc := 14) mX7_isWithin (As := [.int l4, .int 0, .int 2]) dX7_load_14 lk_X7_113 st_X7_isWithin mo_X7_isWithin ⟨by decide, by decide⟩ (Nat.le_of_ble_eq_true rfl) (sp_X7_isWithin  ?_)
    refine r_if_ne (pc := 17) (tgt := 23) dX7_load_17 (by decide) (fun q => ?_) (fun q => ?_)
    · have q := b2i_nz q
      have K0 := K0.1 q
      refine r_iload (pc := 23) dX7_load_23 rfl ?_
      refine r_if_ne (pc := 25) (tgt := 39) dX7_load_25 (by decide) (fun q => ?_) (fun q => ?_)
      · have K0 := K0.1 q
        refine r_aload_n (pc := 39) dX7_load_39 rfl ?_
        refine s_getR (pc := 40) dX7_load_40 fl_X7_20 rfl k_b0 g_b0_2 ?_
        refine r_iload_n (pc := 43) dX7_load_43 rfl ?_
        refine r_iload_n (pc := 44) dX7_load_44 rfl ?_
        refine r_iload_n (pc := 45) dX7_load_45 rfl ?_
        refine s_VI (pc := 46) mX4_loadIn (ci := 4) (a := b0_2) (As := [.int l1, .int l2, .int l3]) dX7_load_46 lk_X7_212 in_X4_loadIn mo_X4_loadIn ⟨by decide, rfl⟩ ⟨by decide, by decide⟩ (Nat.le_of_ble_eq_true rfl) k_b0_2 (mSI_mono K0 (fun r_5 y_4 K0 => ?_))
        refine r_istore (pc := 49) dX7_load_49 (by decide) ?_
        refine r_iload (pc := 51) (L := [some (.ref b0), some (.int l1), some (.int l2), some (.int l3), some (.int l4), some (.int r_5)]) dX7_load_51 rfl ?_
        refine r_iconst (pc := 53) (v := 1) dX7_load_53 (by decide) ?_
        refine r_icmp_ne (pc := 54) (tgt := 62) dX7_load_54 (by decide) (fun q => ?_) (fun q => ?_)
        · have K0 := K0.1 q
          refine r_aload_n (pc := 62) dX7_load_62 rfl ?_
          obtain ⟨g_7, K0⟩ := K0
          refine s_getR (pc := 63) dX7_load_63 fl_X7_20 rfl k_b0 g_7 ?_
          refine r_iload_n (pc := 66) dX7_load_66 rfl ?_
          refine r_iload_n (pc := 67) dX7_load_67 rfl ?_
          refine r_iload_n (pc := 68) dX7_load_68 rfl ?_
          refine s_VI (pc := 69) mX4_loadOf (ci := 4) (a := b0_2) (As := [.int l1, .int l2, .int l3]) dX7_load_69 lk_X7_208 in_X4_loadOf mo_X4_loadOf ⟨by decide, rfl⟩ ⟨by decide, by decide⟩ (Nat.le_of_ble_eq_true rfl) k_b0_2 (mSI_mono K0 (fun r_9 y_8 K0 => ?_))
          refine r_iload (pc := 72) dX7_load_72 rfl ?_
          refine r_isub (pc := 74) dX7_load_74 ?_
          exact s_iret rfl dX7_load_75 K0
        · have K0 := K0.2 q
          refine r_iload (pc := 57) dX7_load_57 rfl ?_
          refine r_goto (pc := 59) (tgt := 75) dX7_load_59 (by decide) ?_
          exact s_iret rfl dX7_load_75 K0
      · have K0 := K0.2 q
        refine r_aload_n (pc := 28) dX7_load_28 rfl ?_
        refine s_getR (pc := 29) dX7_load_29 fl_X7_20 rfl k_b0 g_b0_2 ?_
        refine r_iload_n (pc := 32) dX7_load_32 rfl ?_
        refine r_iload_n (pc := 33) dX7_load_33 rfl ?_
        refine r_iload_n (pc := 34) dX7_load_34 rfl ?_
        refine s_VI (pc := 35) mX4_loadOf (ci := 4) (a := b0_2) (As := [.int l1, .int l2, .int l3]) dX7_load_35 lk_X7_208 in_X4_loadOf mo_X4_loadOf ⟨by decide, rfl⟩ ⟨by decide, by decide⟩ (Nat.le_of_ble_eq_true rfl) k_b0_2 (mSI_mono K0 (fun r_11 y_10 K0 => ?_))
        exact s_iret rfl dX7_load_38 K0
    · have q := (b2i_z _).mp q
      have K0 := K0.2 q
      refine r_bipush (pc := 20) (v := (-2)) dX7_load_20 (by decide) ?_
      exact s_iret rfl dX7_load_22 K0
set_option maxHeartbeats 2000000 in
theorem v_X8_load_0 {K : Sh} {x : Cn} {Q : Int32 → Cn → Prop} {b0 : Nat} {l1 : Int32} {l2 : Int32} {l3 : Int32} {l4 : Int32} {b0_1 : Nat} {n_b0_1 : Nat} (k_b0 : kk K b0 = some (8, 0)) (g_b0_1 : gr x b0 1 = some b0_1) (k_b0_1 : kk K b0_1 = some (20, n_b0_1)) (K0 : vp_in 0 n_b0_1 ∧ ((¬ (0 ≤ l1 ∧ l1 ≤ gi x b0_1 0 - 1 ∧ 0 < gi x b0_1 0 ∧ 0 ≤ l2 ∧ l2 ≤ 6 ∧ 0 ≤ l3 ∧ l3 ≤ 23) → (Q (-2) x)) ∧ ((0 ≤ l1 ∧ l1 ≤ gi x b0_1 0 - 1 ∧ 0 < gi x b0_1 0 ∧ 0 ≤ l2 ∧ l2 ≤ 6 ∧ 0 ≤ l3 ∧ l3 ≤ 23) → ((¬ (0 ≤ l4 ∧ l4 ≤ 2) → (Q (-2) x)) ∧ ((0 ≤ l4 ∧ l4 ≤ 2) → (mSI mX8_loadBut [.ref b0, .int l1, .int l2, .int l3, .int l4, .int (-1)] K x (fun r_5 y_4 => Q r_5 y_4))))))) : mSI mX8_load [.ref b0, .int l1, .int l2, .int l3, .int l4] K x Q := by
  refine s_I (by decide) (by simp [Value.category]) (Nat.le_of_ble_eq_true rfl) ?_
  show mGM mX8_load 0 [some (.ref b0), some (.int l1), some (.int l2), some (.int l3), some (.int l4)] [] (hp K x) (PI K Q)
  refine r_aload_n (pc := 0) dX8_load_0 rfl ?_
  refine r_iload_n (pc := 1) dX8_load_1 rfl ?_
  refine r_iload_n (pc := 2) dX8_load_2 rfl ?_
  refine r_iload_n (pc := 3) dX8_load_3 rfl ?_
  obtain ⟨i_1, K0⟩ := K0
  refine s_VI (pc := 4) mX8_isPlace (ci := 8) (a := b0) (As := [.int l1, .int l2, .int l3]) dX8_load_4 lk_X8_287 in_X8_isPlace mo_X8_isPlace ⟨by decide, rfl⟩ ⟨by decide, by decide⟩ (Nat.le_of_ble_eq_true rfl) k_b0 (sp_X8_isPlace k_b0 g_b0_1 k_b0_1 i_1 ?_)
  refine r_if_eq (pc := 7) (tgt := 36) dX8_load_7 (by decide) (fun q => ?_) (fun q => ?_)
  · have q := (b2i_z _).mp q
    have K0 := K0.1 q
    refine r_bipush (pc := 36) (v := (-2)) dX8_load_36 (by decide) ?_
    exact s_iret rfl dX8_load_38 K0
  · have q := b2i_nz q
    have K0 := K0.2 q
    refine r_iload (pc := 10) dX8_load_10 rfl ?_
    refine r_i2l (pc := 12) dX8_load_12 ?_
    refine r_lconst (pc := 13) (v := 0) dX8_load_13 (by decide) ?_
    refine r_ldc2 (pc := 14) (v := 2) dX8_load_14 cn_X8_291 ?_
    refine s_SI (pc := 17) mX8_in (As := [.long ((l4 : Int32).toInt64), .long 0, .long 2]) dX8_load_17 lk_X8_45 st_X8_in mo_X8_in ⟨by decide, by decide⟩ (Nat.le_of_ble_eq_true rfl) (sq_X8_in (v := l4) (lo := 0) (hi := 2) rfl (by decide) (by decide) ?_)
    refine r_if_eq (pc := 20) (tgt := 36) dX8_load_20 (by decide) (fun q => ?_) (fun q => ?_)
    · have q := (b2i_z _).mp q
      have K0 := K0.1 q
      refine r_bipush (pc := 36) (v := (-2)) dX8_load_36 (by decide) ?_
      exact s_iret rfl dX8_load_38 K0
    · have q := b2i_nz q
      have K0 := K0.2 q
      refine r_aload_n (pc := 23) dX8_load_23 rfl ?_
      refine r_iload_n (pc := 24) dX8_load_24 rfl ?_
      refine r_iload_n (pc := 25) dX8_load_25 rfl ?_
      refine r_iload_n (pc := 26) dX8_load_26 rfl ?_
      refine r_iload (pc := 27) dX8_load_27 rfl ?_
      refine r_iconst (pc := 29) (v := (-1)) dX8_load_29 (by decide) ?_
      refine s_VI (pc := 30) mX8_loadBut (ci := 8) (a := b0) (As := [.int l1, .int l2, .int l3, .int l4, .int (-1)]) dX8_load_30 lk_X8_86 in_X8_loadBut mo_X8_loadBut ⟨by decide, rfl⟩ ⟨by decide, by decide⟩ (Nat.le_of_ble_eq_true rfl) k_b0 (mSI_mono K0 (fun r_5 y_4 K0 => ?_))
      refine r_goto (pc := 33) (tgt := 38) dX8_load_33 (by decide) ?_
      exact s_iret rfl dX8_load_38 K0
set_option maxHeartbeats 2000000 in
theorem v_X7_room_0 {K : Sh} {x : Cn} {Q : Int32 → Cn → Prop} {b0 : Nat} {l1 : Int32} {l2 : Int32} {l3 : Int32} {l4 : Int32} {b0_2 : Nat} {b0_2_5 : Nat} {n_b0_2_5 : Nat} (k_b0 : kk K b0 = some (7, 0)) (g_b0_2 : gr x b0 2 = some b0_2) (k_b0_2 : kk K b0_2 = some (4, 0)) (g_b0_2_5 : gr x b0_2 5 = some b0_2_5) (k_b0_2_5 : kk K b0_2_5 = some (20, n_b0_2_5)) (K0 : (¬ (0 ≤ l1 ∧ l1 < gi x b0_2 0 ∧ 0 < gi x b0_2 0 ∧ 0 ≤ l2 ∧ l2 < 7 ∧ 0 ≤ l3 ∧ l3 < 24) → (Q (-2) x)) ∧ ((0 ≤ l1 ∧ l1 < gi x b0_2 0 ∧ 0 < gi x b0_2 0 ∧ 0 ≤ l2 ∧ l2 < 7 ∧ 0 ≤ l3 ∧ l3 < 24) → (((l4 = 0 ∨ l4 = 1) → (vp_in l3 n_b0_2_5 ∧ (mSI mX4_loadOf [.ref b0_2, .int l1, .int l2, .int l3] K x (fun r_5 y_4 => (¬ l4 = 0 → (Q (if ((gi x b0_2_5 (l3 : Int32).toNatClampNeg) - r_5) < 0 then 0 else ((gi x b0_2_5 (l3 : Int32).toNatClampNeg) - r_5)) y_4)) ∧ (l4 = 0 → (gr y_4 b0 2 = some b0_2 ∧ (∃ c_8 : Nat, gr y_4 b0_2 6 = some c_8 ∧ (∃ n_11 : Nat, kk K c_8 = some (20, n_11) ∧ (vp_in l3 n_11 ∧ (mSI mX4_loadIn [.ref b0_2, .int l1, .int l2, .int l3] K y_4 (fun r_14 y_13 => ∀ r_15 : Int32, r_15 = (if ((gi y_4 c_8 (l3 : Int32).toNatClampNeg) - r_14) < ((gi x b0_2_5 (l3 : Int32).toNatClampNeg) - r_5) then ((gi y_4 c_8 (l3 : Int32).toNatClampNeg) - r_14) else ((gi x b0_2_5 (l3 : Int32).toNatClampNeg) - r_5)) → (Q (if r_15 < 0 then 0 else r_15) y_13)))))))))))) ∧ (¬ (l4 = 0 ∨ l4 = 1) → (Q (-2) x))))) : mSI mX7_room [.ref b0, .int l1, .int l2, .int l3, .int l4] K x Q := by
  refine s_I (by decide) (by simp [Value.category]) (Nat.le_of_ble_eq_true rfl) ?_
  show mGM mX7_room 0 [some (.ref b0), some (.int l1), some (.int l2), some (.int l3), some (.int l4), none] [] (hp K x) (PI K Q)
  refine r_aload_n (pc := 0) dX7_room_0 rfl ?_
  refine r_iload_n (pc := 1) dX7_room_1 rfl ?_
  refine r_iload_n (pc := 2) dX7_room_2 rfl ?_
  refine r_iload_n (pc := 3) dX7_room_3 rfl ?_
  refine s_VI (pc := 4) mX7_isCell (ci := 7) (a := b0) (As := [.int l1, .int l2, .int l3]) dX7_room_4 lk_X7_205 in_X7_isCell mo_X7_isCell ⟨by decide, rfl⟩ ⟨by decide, by decide⟩ (Nat.le_of_ble_eq_true rfl) k_b0 (sp_X7_isCell k_b0 g_b0_2 k_b0_2 ?_)
  refine r_if_eq (pc := 7) (tgt := 18) dX7_room_7 (by decide) (fun q => ?_) (fun q => ?_)
  · have q := (b2i_z _).mp q
    have K0 := K0.1 q
    refine r_bipush (pc := 18) (v := (-2)) dX7_room_18 (by decide) ?_
    exact s_iret rfl dX7_room_20 K0
  · have q := b2i_nz q
    have K0 := K0.2 q
    refine r_iload (pc := 10) dX7_room_10 rfl ?_
    refine s_SI (pc := 12) mX7_isWay (As := [.int l4]) dX7_room_12 lk_X7_218 st_X7_isWay mo_X7_isWay ⟨by decide, by decide⟩ (Nat.le_of_ble_eq_true rfl) (sp_X7_isWay  ?_)
    refine r_if_ne (pc := 15) (tgt := 21) dX7_room_15 (by decide) (fun q => ?_) (fun q => ?_)
    · have q := b2i_nz q
      have K0 := K0.1 q
      refine r_aload_n (pc := 21) dX7_room_21 rfl ?_
      refine s_getR (pc := 22) dX7_room_22 fl_X7_20 rfl k_b0 g_b0_2 ?_
      refine s_getR (pc := 25) dX7_room_25 fl_X7_198 rfl k_b0_2 g_b0_2_5 ?_
      refine r_iload_n (pc := 28) dX7_room_28 rfl ?_
      obtain ⟨i_3, K0⟩ := K0
      refine s_iald (pc := 29) dX7_room_29 k_b0_2_5 i_3 ?_
      refine r_aload_n (pc := 30) dX7_room_30 rfl ?_
      refine s_getR (pc := 31) dX7_room_31 fl_X7_20 rfl k_b0 g_b0_2 ?_
      refine r_iload_n (pc := 34) dX7_room_34 rfl ?_
      refine r_iload_n (pc := 35) dX7_room_35 rfl ?_
      refine r_iload_n (pc := 36) dX7_room_36 rfl ?_
      refine s_VI (pc := 37) mX4_loadOf (ci := 4) (a := b0_2) (As := [.int l1, .int l2, .int l3]) dX7_room_37 lk_X7_208 in_X4_loadOf mo_X4_loadOf ⟨by decide, rfl⟩ ⟨by decide, by decide⟩ (Nat.le_of_ble_eq_true rfl) k_b0_2 (mSI_mono K0 (fun r_5 y_4 K0 => ?_))
      refine r_isub (pc := 40) dX7_room_40 ?_
      refine r_istore (pc := 41) dX7_room_41 (by decide) ?_
      refine r_iload (pc := 43) (L := [some (.ref b0), some (.int l1), some (.int l2), some (.int l3), some (.int l4), some (.int ((gi x b0_2_5 (l3 : Int32).toNatClampNeg) - r_5))]) dX7_room_43 rfl ?_
      refine r_if_ne (pc := 45) (tgt := 75) dX7_room_45 (by decide) (fun q => ?_) (fun q => ?_)
      · have K0 := K0.1 q
        refine r_iload (pc := 75) dX7_room_75 rfl ?_
        refine r_iconst (pc := 77) (v := 0) dX7_room_77 (by decide) ?_
        refine r_mmax (pc := 78) dX7_room_78 lk_X7_226 mw_max ⟨by decide, by decide⟩ (Nat.le_of_ble_eq_true rfl) ?_
        exact s_iret rfl dX7_room_81 K0
      · have K0 := K0.2 q
        refine r_iload (pc := 48) dX7_room_48 rfl ?_
        refine r_aload_n (pc := 50) dX7_room_50 rfl ?_
        obtain ⟨g_7, K0⟩ := K0
        refine s_getR (pc := 51) dX7_room_51 fl_X7_20 rfl k_b0 g_7 ?_
        obtain ⟨c_8, g_9, K0⟩ := K0
        refine s_getR (pc := 54) dX7_room_54 fl_X7_202 rfl k_b0_2 g_9 ?_
        refine r_iload_n (pc := 57) dX7_room_57 rfl ?_
        obtain ⟨n_11, e_10, K0⟩ := K0
        obtain ⟨i_12, K0⟩ := K0
        refine s_iald (pc := 58) dX7_room_58 e_10 i_12 ?_
        refine r_aload_n (pc := 59) dX7_room_59 rfl ?_
        refine s_getR (pc := 60) dX7_room_60 fl_X7_20 rfl k_b0 g_7 ?_
        refine r_iload_n (pc := 63) dX7_room_63 rfl ?_
        refine r_iload_n (pc := 64) dX7_room_64 rfl ?_
        refine r_iload_n (pc := 65) dX7_room_65 rfl ?_
        refine s_VI (pc := 66) mX4_loadIn (ci := 4) (a := b0_2) (As := [.int l1, .int l2, .int l3]) dX7_room_66 lk_X7_212 in_X4_loadIn mo_X4_loadIn ⟨by decide, rfl⟩ ⟨by decide, by decide⟩ (Nat.le_of_ble_eq_true rfl) k_b0_2 (mSI_mono K0 (fun r_14 y_13 K0 => ?_))
        refine r_isub (pc := 69) dX7_room_69 ?_
        refine r_mmin (pc := 70) dX7_room_70 lk_X7_221 mw_min ⟨by decide, by decide⟩ (Nat.le_of_ble_eq_true rfl) ?_
        obtain ⟨r_15, w_16⟩ : ∃ z : Int32, z = (if ((gi y_4 c_8 (l3 : Int32).toNatClampNeg) - r_14) < ((gi x b0_2_5 (l3 : Int32).toNatClampNeg) - r_5) then ((gi y_4 c_8 (l3 : Int32).toNatClampNeg) - r_14) else ((gi x b0_2_5 (l3 : Int32).toNatClampNeg) - r_5)) := ⟨_, rfl⟩
        rw [← w_16]
        have K0 := K0 r_15 w_16
        refine r_istore (pc := 73) dX7_room_73 (by decide) ?_
        refine r_iload (pc := 75) (L := [some (.ref b0), some (.int l1), some (.int l2), some (.int l3), some (.int l4), some (.int r_15)]) dX7_room_75 rfl ?_
        refine r_iconst (pc := 77) (v := 0) dX7_room_77 (by decide) ?_
        refine r_mmax (pc := 78) dX7_room_78 lk_X7_226 mw_max ⟨by decide, by decide⟩ (Nat.le_of_ble_eq_true rfl) ?_
        exact s_iret rfl dX7_room_81 K0
    · have q := (b2i_z _).mp q
      have K0 := K0.2 q
      refine r_bipush (pc := 18) (v := (-2)) dX7_room_18 (by decide) ?_
      exact s_iret rfl dX7_room_20 K0
set_option maxHeartbeats 2000000 in
theorem v_X8_room_0 {K : Sh} {x : Cn} {Q : Int32 → Cn → Prop} {b0 : Nat} {l1 : Int32} {l2 : Int32} {l3 : Int32} {l4 : Int32} {b0_1 : Nat} {n_b0_1 : Nat} (k_b0 : kk K b0 = some (8, 0)) (g_b0_1 : gr x b0 1 = some b0_1) (k_b0_1 : kk K b0_1 = some (20, n_b0_1)) (K0 : vp_in 0 n_b0_1 ∧ ((¬ (0 ≤ l1 ∧ l1 ≤ gi x b0_1 0 - 1 ∧ 0 < gi x b0_1 0 ∧ 0 ≤ l2 ∧ l2 ≤ 6 ∧ 0 ≤ l3 ∧ l3 ≤ 23) → (Q (-2) x)) ∧ ((0 ≤ l1 ∧ l1 ≤ gi x b0_1 0 - 1 ∧ 0 < gi x b0_1 0 ∧ 0 ≤ l2 ∧ l2 ≤ 6 ∧ 0 ≤ l3 ∧ l3 ≤ 23) → (((0 ≤ l4 ∧ l4 ≤ 1) → (vp_in (6 + (2 * l3)) n_b0_1 ∧ (mSI mX8_loadBut [.ref b0, .int l1, .int l2, .int l3, .int 0, .int (-1)] K x (fun r_6 y_5 => gr y_5 b0 1 = some b0_1 ∧ (vp_in ((6 + (2 * l3)) + 1) n_b0_1 ∧ (mSI mX8_loadBut [.ref b0, .int l1, .int l2, .int l3, .int 1, .int (-1)] K y_5 (fun r_10 y_9 => (¬ l4 = 0 → (Q (if 0 < ((gi x b0_1 ((6 + (2 * l3)) : Int32).toNatClampNeg) - r_6) then ((gi x b0_1 ((6 + (2 * l3)) : Int32).toNatClampNeg) - r_6) else 0) y_9)) ∧ (l4 = 0 → (Q (if 0 < (if ((gi y_5 b0_1 (((6 + (2 * l3)) + 1) : Int32).toNatClampNeg) - r_10) < ((gi x b0_1 ((6 + (2 * l3)) : Int32).toNatClampNeg) - r_6) then ((gi y_5 b0_1 (((6 + (2 * l3)) + 1) : Int32).toNatClampNeg) - r_10) else ((gi x b0_1 ((6 + (2 * l3)) : Int32).toNatClampNeg) - r_6)) then (if ((gi y_5 b0_1 (((6 + (2 * l3)) + 1) : Int32).toNatClampNeg) - r_10) < ((gi x b0_1 ((6 + (2 * l3)) : Int32).toNatClampNeg) - r_6) then ((gi y_5 b0_1 (((6 + (2 * l3)) + 1) : Int32).toNatClampNeg) - r_10) else ((gi x b0_1 ((6 + (2 * l3)) : Int32).toNatClampNeg) - r_6)) else 0) y_9))))))))) ∧ (¬ (0 ≤ l4 ∧ l4 ≤ 1) → (Q (-2) x)))))) : mSI mX8_room [.ref b0, .int l1, .int l2, .int l3, .int l4] K x Q := by
  refine s_I (by decide) (by simp [Value.category]) (Nat.le_of_ble_eq_true rfl) ?_
  show mGM mX8_room 0 [some (.ref b0), some (.int l1), some (.int l2), some (.int l3), some (.int l4), none, none] [] (hp K x) (PI K Q)
  refine r_aload_n (pc := 0) dX8_room_0 rfl ?_
  refine r_iload_n (pc := 1) dX8_room_1 rfl ?_
  refine r_iload_n (pc := 2) dX8_room_2 rfl ?_
  refine r_iload_n (pc := 3) dX8_room_3 rfl ?_
  obtain ⟨i_1, K0⟩ := K0
  refine s_VI (pc := 4) mX8_isPlace (ci := 8) (a := b0) (As := [.int l1, .int l2, .int l3]) dX8_room_4 lk_X8_287 in_X8_isPlace mo_X8_isPlace ⟨by decide, rfl⟩ ⟨by decide, by decide⟩ (Nat.le_of_ble_eq_true rfl) k_b0 (sp_X8_isPlace k_b0 g_b0_1 k_b0_1 i_1 ?_)
  refine r_if_eq (pc := 7) (tgt := 21) dX8_room_7 (by decide) (fun q => ?_) (fun q => ?_)
  · have q := (b2i_z _).mp q
    have K0 := K0.1 q
    refine r_bipush (pc := 21) (v := (-2)) dX8_room_21 (by decide) ?_
    exact s_iret rfl dX8_room_23 K0
  · have q := b2i_nz q
    have K0 := K0.2 q
    refine r_iload (pc := 10) dX8_room_10 rfl ?_
    refine r_i2l (pc := 12) dX8_room_12 ?_
    refine r_lconst (pc := 13) (v := 0) dX8_room_13 (by decide) ?_
    refine r_lconst (pc := 14) (v := 1) dX8_room_14 (by decide) ?_
    refine s_SI (pc := 15) mX8_in (As := [.long ((l4 : Int32).toInt64), .long 0, .long 1]) dX8_room_15 lk_X8_45 st_X8_in mo_X8_in ⟨by decide, by decide⟩ (Nat.le_of_ble_eq_true rfl) (sq_X8_in (v := l4) (lo := 0) (hi := 1) rfl (by decide) (by decide) ?_)
    refine r_if_ne (pc := 18) (tgt := 24) dX8_room_18 (by decide) (fun q => ?_) (fun q => ?_)
    · have q := b2i_nz q
      have K0 := K0.1 q
      refine r_aload_n (pc := 24) dX8_room_24 rfl ?_
      refine s_getR (pc := 25) dX8_room_25 fl_X8_9 rfl k_b0 g_b0_1 ?_
      refine r_bipush (pc := 28) (v := 6) dX8_room_28 (by decide) ?_
      refine r_iconst (pc := 30) (v := 2) dX8_room_30 (by decide) ?_
      refine r_iload_n (pc := 31) dX8_room_31 rfl ?_
      refine r_imul (pc := 32) dX8_room_32 ?_
      refine r_iadd (pc := 33) dX8_room_33 ?_
      obtain ⟨i_4, K0⟩ := K0
      refine s_iald (pc := 34) dX8_room_34 k_b0_1 i_4 ?_
      refine r_aload_n (pc := 35) dX8_room_35 rfl ?_
      refine r_iload_n (pc := 36) dX8_room_36 rfl ?_
      refine r_iload_n (pc := 37) dX8_room_37 rfl ?_
      refine r_iload_n (pc := 38) dX8_room_38 rfl ?_
      refine r_iconst (pc := 39) (v := 0) dX8_room_39 (by decide) ?_
      refine r_iconst (pc := 40) (v := (-1)) dX8_room_40 (by decide) ?_
      refine s_VI (pc := 41) mX8_loadBut (ci := 8) (a := b0) (As := [.int l1, .int l2, .int l3, .int 0, .int (-1)]) dX8_room_41 lk_X8_86 in_X8_loadBut mo_X8_loadBut ⟨by decide, rfl⟩ ⟨by decide, by decide⟩ (Nat.le_of_ble_eq_true rfl) k_b0 (mSI_mono K0 (fun r_6 y_5 K0 => ?_))
      refine r_isub (pc := 44) dX8_room_44 ?_
      refine r_istore (pc := 45) dX8_room_45 (by decide) ?_
      refine r_aload_n (pc := 47) (L := [some (.ref b0), some (.int l1), some (.int l2), some (.int l3), some (.int l4), some (.int ((gi x b0_1 ((6 + (2 * l3)) : Int32).toNatClampNeg) - r_6)), none]) dX8_room_47 rfl ?_
      obtain ⟨g_7, K0⟩ := K0
      refine s_getR (pc := 48) dX8_room_48 fl_X8_9 rfl k_b0 g_7 ?_
      refine r_bipush (pc := 51) (v := 6) dX8_room_51 (by decide) ?_
      refine r_iconst (pc := 53) (v := 2) dX8_room_53 (by decide) ?_
      refine r_iload_n (pc := 54) dX8_room_54 rfl ?_
      refine r_imul (pc := 55) dX8_room_55 ?_
      refine r_iadd (pc := 56) dX8_room_56 ?_
      refine r_iconst (pc := 57) (v := 1) dX8_room_57 (by decide) ?_
      refine r_iadd (pc := 58) dX8_room_58 ?_
      obtain ⟨i_8, K0⟩ := K0
      refine s_iald (pc := 59) dX8_room_59 k_b0_1 i_8 ?_
      refine r_aload_n (pc := 60) dX8_room_60 rfl ?_
      refine r_iload_n (pc := 61) dX8_room_61 rfl ?_
      refine r_iload_n (pc := 62) dX8_room_62 rfl ?_
      refine r_iload_n (pc := 63) dX8_room_63 rfl ?_
      refine r_iconst (pc := 64) (v := 1) dX8_room_64 (by decide) ?_
      refine r_iconst (pc := 65) (v := (-1)) dX8_room_65 (by decide) ?_
      refine s_VI (pc := 66) mX8_loadBut (ci := 8) (a := b0) (As := [.int l1, .int l2, .int l3, .int 1, .int (-1)]) dX8_room_66 lk_X8_86 in_X8_loadBut mo_X8_loadBut ⟨by decide, rfl⟩ ⟨by decide, by decide⟩ (Nat.le_of_ble_eq_true rfl) k_b0 (mSI_mono K0 (fun r_10 y_9 K0 => ?_))
      refine r_isub (pc := 69) dX8_room_69 ?_
      refine r_istore (pc := 70) dX8_room_70 (by decide) ?_
      refine r_iconst (pc := 72) (L := [some (.ref b0), some (.int l1), some (.int l2), some (.int l3), some (.int l4), some (.int ((gi x b0_1 ((6 + (2 * l3)) : Int32).toNatClampNeg) - r_6)), some (.int ((gi y_5 b0_1 (((6 + (2 * l3)) + 1) : Int32).toNatClampNeg) - r_10))]) (v := 0) dX8_room_72 (by decide) ?_
      refine r_iload (pc := 73) dX8_room_73 rfl ?_
      refine r_if_ne (pc := 75) (tgt := 88) dX8_room_75 (by decide) (fun q => ?_) (fun q => ?_)
      · have K0 := K0.1 q
        refine r_iload (pc := 88) dX8_room_88 rfl ?_
        refine r_mmax (pc := 90) dX8_room_90 lk_X8_293 mw_max ⟨by decide, by decide⟩ (Nat.le_of_ble_eq_true rfl) ?_
        exact s_iret rfl dX8_room_93 K0
      · have K0 := K0.2 q
        refine r_iload (pc := 78) dX8_room_78 rfl ?_
        refine r_iload (pc := 80) dX8_room_80 rfl ?_
        refine r_mmin (pc := 82) dX8_room_82 lk_X8_133 mw_min ⟨by decide, by decide⟩ (Nat.le_of_ble_eq_true rfl) ?_
        refine r_goto (pc := 85) (tgt := 90) dX8_room_85 (by decide) ?_
        refine r_mmax (pc := 90) dX8_room_90 lk_X8_293 mw_max ⟨by decide, by decide⟩ (Nat.le_of_ble_eq_true rfl) ?_
        exact s_iret rfl dX8_room_93 K0
    · have q := (b2i_z _).mp q
      have K0 := K0.2 q
      refine r_bipush (pc := 21) (v := (-2)) dX8_room_21 (by decide) ?_
      exact s_iret rfl dX8_room_23 K0
set_option maxHeartbeats 2000000 in
theorem v_X7_at_0 {K : Sh} {x : Cn} {Q : Int32 → Cn → Prop} {b0 : Nat} {l1 : Int32} {l2 : Int32} {l3 : Int32} {l4 : Int32} {b0_2 : Nat} (k_b0 : kk K b0 = some (7, 0)) (g_b0_2 : gr x b0 2 = some b0_2) (k_b0_2 : kk K b0_2 = some (4, 0)) (K0 : (¬ (0 ≤ l1 ∧ l1 < gi x b0_2 0 ∧ 0 < gi x b0_2 0 ∧ 0 ≤ l2 ∧ l2 < 7 ∧ 0 ≤ l3 ∧ l3 < 24) → (Q (-2) x)) ∧ ((0 ≤ l1 ∧ l1 < gi x b0_2 0 ∧ 0 < gi x b0_2 0 ∧ 0 ≤ l2 ∧ l2 < 7 ∧ 0 ≤ l3 ∧ l3 < 24) → ((0 ≤ l4 → (GI mX7_at 25 [some (.ref b0), some (.int l1), some (.int l2), some (.int l3), some (.int l4), some (.int l4), some (.int 0)] [] K x Q)) ∧ (¬ 0 ≤ l4 → (Q (-2) x))))) : mSI mX7_at [.ref b0, .int l1, .int l2, .int l3, .int l4] K x Q := by
  refine s_I (by decide) (by simp [Value.category]) (Nat.le_of_ble_eq_true rfl) ?_
  show mGM mX7_at 0 [some (.ref b0), some (.int l1), some (.int l2), some (.int l3), some (.int l4), none, none] [] (hp K x) (PI K Q)
  refine r_aload_n (pc := 0) dX7_at_0 rfl ?_
  refine r_iload_n (pc := 1) dX7_at_1 rfl ?_
  refine r_iload_n (pc := 2) dX7_at_2 rfl ?_
  refine r_iload_n (pc := 3) dX7_at_3 rfl ?_
  refine s_VI (pc := 4) mX7_isCell (ci := 7) (a := b0) (As := [.int l1, .int l2, .int l3]) dX7_at_4 lk_X7_205 in_X7_isCell mo_X7_isCell ⟨by decide, rfl⟩ ⟨by decide, by decide⟩ (Nat.le_of_ble_eq_true rfl) k_b0 (sp_X7_isCell k_b0 g_b0_2 k_b0_2 ?_)
  refine r_if_eq (pc := 7) (tgt := 15) dX7_at_7 (by decide) (fun q => ?_) (fun q => ?_)
  · have q := (b2i_z _).mp q
    have K0 := K0.1 q
    refine r_bipush (pc := 15) (v := (-2)) dX7_at_15 (by decide) ?_
    exact s_iret rfl dX7_at_17 K0
  · have q := b2i_nz q
    have K0 := K0.2 q
    refine r_iload (pc := 10) dX7_at_10 rfl ?_
    refine r_if_ge (pc := 12) (tgt := 18) dX7_at_12 (by decide) (fun q => ?_) (fun q => ?_)
    · have K0 := K0.1 q
      refine r_iload (pc := 18) dX7_at_18 rfl ?_
      refine r_istore (pc := 20) dX7_at_20 (by decide) ?_
      refine r_iconst (pc := 22) (L := [some (.ref b0), some (.int l1), some (.int l2), some (.int l3), some (.int l4), some (.int l4), none]) (v := 0) dX7_at_22 (by decide) ?_
      refine r_istore (pc := 23) dX7_at_23 (by decide) ?_
      exact r_le (L' := [some (.ref b0), some (.int l1), some (.int l2), some (.int l3), some (.int l4), some (.int l4), some (.int 0)]) ⟨rfl, ⟨rfl, ⟨rfl, ⟨rfl, ⟨rfl, ⟨rfl, ⟨rfl, trivial⟩⟩⟩⟩⟩⟩⟩ K0
    · have K0 := K0.2 q
      refine r_bipush (pc := 15) (v := (-2)) dX7_at_15 (by decide) ?_
      exact s_iret rfl dX7_at_17 K0
set_option maxHeartbeats 2000000 in
theorem v_X7_at_25 {K : Sh} {x : Cn} {Q : Int32 → Cn → Prop} {b0 : Nat} {l1 : Int32} {l2 : Int32} {l3 : Int32} {l4 : Int32} {l5 : Int32} {l6 : Int32} {b0_2 : Nat} {b0_2_7 : Nat} {n_b0_2_7 : Nat} (k_b0 : kk K b0 = some (7, 0)) (g_b0_2 : gr x b0 2 = some b0_2) (k_b0_2 : kk K b0_2 = some (4, 0)) (g_b0_2_7 : gr x b0_2 7 = some b0_2_7) (k_b0_2_7 : kk K b0_2_7 = some (23, n_b0_2_7)) (K0 : ((gi x b0_2 3) ≤ l6 → (Q (-1) x)) ∧ (¬ (gi x b0_2 3) ≤ l6 → (vp_in l6 n_b0_2_7 ∧ (∃ c_3 : Nat, gr x b0_2_7 ((l6 : Int32).toNatClampNeg) = some c_3 ∧ (kk K c_3 = some (5, 0) ∧ ((¬ (gi x c_3 1 = l2 ∧ gi x c_3 2 = l3 ∧ f_bit (f_held x c_3) l1) → (GI mX7_at 25 [some (.ref b0), some (.int l1), some (.int l2), some (.int l3), some (.int l4), some (.int l5), some (.int (l6 + 1))] [] K x Q)) ∧ ((gi x c_3 1 = l2 ∧ gi x c_3 2 = l3 ∧ f_bit (f_held x c_3) l1) → ((¬ l5 = 0 → (GI mX7_at 25 [some (.ref b0), some (.int l1), some (.int l2), some (.int l3), some (.int l4), some (.int (l5 + (-1))), some (.int (l6 + 1))] [] K x Q)) ∧ (l5 = 0 → (Q l6 x)))))))))) : GI mX7_at 25 [some (.ref b0), some (.int l1), some (.int l2), some (.int l3), some (.int l4), some (.int l5), some (.int l6)] [] K x Q := by
  show mGM mX7_at 25 [some (.ref b0), some (.int l1), some (.int l2), some (.int l3), some (.int l4), some (.int l5), some (.int l6)] [] (hp K x) (PI K Q)
  refine r_iload (pc := 25) dX7_at_25 rfl ?_
  refine r_aload_n (pc := 27) dX7_at_27 rfl ?_
  refine s_getR (pc := 28) dX7_at_28 fl_X7_20 rfl k_b0 g_b0_2 ?_
  refine s_getI (pc := 31) dX7_at_31 fl_X7_97 rfl k_b0_2 ?_
  refine r_icmp_ge (pc := 34) (tgt := 73) dX7_at_34 (by decide) (fun q => ?_) (fun q => ?_)
  · have K0 := K0.1 q
    refine r_iconst (pc := 73) (v := (-1)) dX7_at_73 (by decide) ?_
    exact s_iret rfl dX7_at_74 K0
  · have K0 := K0.2 q
    refine r_aload_n (pc := 37) dX7_at_37 rfl ?_
    refine s_getR (pc := 38) dX7_at_38 fl_X7_20 rfl k_b0 g_b0_2 ?_
    refine s_getR (pc := 41) dX7_at_41 fl_X7_135 rfl k_b0_2 g_b0_2_7 ?_
    refine r_iload (pc := 44) dX7_at_44 rfl ?_
    obtain ⟨i_2, K0⟩ := K0
    obtain ⟨c_3, g_4, K0⟩ := K0
    refine s_aald (pc := 46) dX7_at_46 (by decide) rfl k_b0_2_7 i_2 g_4 ?_
    refine r_iload_n (pc := 47) dX7_at_47 rfl ?_
    refine r_iload_n (pc := 48) dX7_at_48 rfl ?_
    refine r_iload_n (pc := 49) dX7_at_49 rfl ?_
    obtain ⟨e_5, K0⟩ := K0
    refine s_VI (pc := 50) mX5_fills (ci := 5) (a := c_3) (As := [.int l1, .int l2, .int l3]) dX7_at_50 lk_X7_215 in_X5_fills mo_X5_fills ⟨by decide, rfl⟩ ⟨by decide, by decide⟩ (Nat.le_of_ble_eq_true rfl) e_5 (sp_X5_fills e_5 ?_)
    refine r_if_eq (pc := 53) (tgt := 67) dX7_at_53 (by decide) (fun q => ?_) (fun q => ?_)
    · have q := (b2i_z _).mp q
      have K0 := K0.1 q
      refine r_iinc (pc := 67) (v := l6 + 1) dX7_at_67 rfl rfl (by decide) ?_
      refine r_goto (pc := 70) (L := [some (.ref b0), some (.int l1), some (.int l2), some (.int l3), some (.int l4), some (.int l5), some (.int (l6 + 1))]) (tgt := 25) dX7_at_70 (by decide) ?_
      exact r_le (L' := [some (.ref b0), some (.int l1), some (.int l2), some (.int l3), some (.int l4), some (.int l5), some (.int (l6 + 1))]) ⟨rfl, ⟨rfl, ⟨rfl, ⟨rfl, ⟨rfl, ⟨rfl, ⟨rfl, trivial⟩⟩⟩⟩⟩⟩⟩ K0
    · have q := b2i_nz q
      have K0 := K0.2 q
      refine r_iload (pc := 56) dX7_at_56 rfl ?_
      refine r_if_ne (pc := 58) (tgt := 64) dX7_at_58 (by decide) (fun q => ?_) (fun q => ?_)
      · have K0 := K0.1 q
        refine r_iinc (pc := 64) (v := l5 + (-1)) dX7_at_64 rfl rfl (by decide) ?_
        refine r_iinc (pc := 67) (L := [some (.ref b0), some (.int l1), some (.int l2), some (.int l3), some (.int l4), some (.int (l5 + (-1))), some (.int l6)]) (v := l6 + 1) dX7_at_67 rfl rfl (by decide) ?_
        refine r_goto (pc := 70) (L := [some (.ref b0), some (.int l1), some (.int l2), some (.int l3), some (.int l4), some (.int (l5 + (-1))), some (.int (l6 + 1))]) (tgt := 25) dX7_at_70 (by decide) ?_
        exact r_le (L' := [some (.ref b0), some (.int l1), some (.int l2), some (.int l3), some (.int l4), some (.int (l5 + (-1))), some (.int (l6 + 1))]) ⟨rfl, ⟨rfl, ⟨rfl, ⟨rfl, ⟨rfl, ⟨rfl, ⟨rfl, trivial⟩⟩⟩⟩⟩⟩⟩ K0
      · have K0 := K0.2 q
        refine r_iload (pc := 61) dX7_at_61 rfl ?_
        exact s_iret rfl dX7_at_63 K0
set_option maxHeartbeats 2000000 in
theorem v_X8_at_0 {K : Sh} {x : Cn} {Q : Int32 → Cn → Prop} {b0 : Nat} {l1 : Int32} {l2 : Int32} {l3 : Int32} {l4 : Int32} {b0_1 : Nat} {n_b0_1 : Nat} (k_b0 : kk K b0 = some (8, 0)) (g_b0_1 : gr x b0 1 = some b0_1) (k_b0_1 : kk K b0_1 = some (20, n_b0_1)) (K0 : vp_in 0 n_b0_1 ∧ ((¬ (0 ≤ l1 ∧ l1 ≤ gi x b0_1 0 - 1 ∧ 0 < gi x b0_1 0 ∧ 0 ≤ l2 ∧ l2 ≤ 6 ∧ 0 ≤ l3 ∧ l3 ≤ 23) → (Q (-2) x)) ∧ ((0 ≤ l1 ∧ l1 ≤ gi x b0_1 0 - 1 ∧ 0 < gi x b0_1 0 ∧ 0 ≤ l2 ∧ l2 ≤ 6 ∧ 0 ≤ l3 ∧ l3 ≤ 23) → ((0 ≤ l4 → (GI mX8_at 25 [some (.ref b0), some (.int l1), some (.int l2), some (.int l3), some (.int l4), some (.int l4), some (.int 0)] [] K x Q)) ∧ (¬ 0 ≤ l4 → (Q (-2) x)))))) : mSI mX8_at [.ref b0, .int l1, .int l2, .int l3, .int l4] K x Q := by
  refine s_I (by decide) (by simp [Value.category]) (Nat.le_of_ble_eq_true rfl) ?_
  show mGM mX8_at 0 [some (.ref b0), some (.int l1), some (.int l2), some (.int l3), some (.int l4), none, none] [] (hp K x) (PI K Q)
  refine r_aload_n (pc := 0) dX8_at_0 rfl ?_
  refine r_iload_n (pc := 1) dX8_at_1 rfl ?_
  refine r_iload_n (pc := 2) dX8_at_2 rfl ?_
  refine r_iload_n (pc := 3) dX8_at_3 rfl ?_
  obtain ⟨i_1, K0⟩ := K0
  refine s_VI (pc := 4) mX8_isPlace (ci := 8) (a := b0) (As := [.int l1, .int l2, .int l3]) dX8_at_4 lk_X8_287 in_X8_isPlace mo_X8_isPlace ⟨by decide, rfl⟩ ⟨by decide, by decide⟩ (Nat.le_of_ble_eq_true rfl) k_b0 (sp_X8_isPlace k_b0 g_b0_1 k_b0_1 i_1 ?_)
  refine r_if_eq (pc := 7) (tgt := 15) dX8_at_7 (by decide) (fun q => ?_) (fun q => ?_)
  · have q := (b2i_z _).mp q
    have K0 := K0.1 q
    refine r_bipush (pc := 15) (v := (-2)) dX8_at_15 (by decide) ?_
    exact s_iret rfl dX8_at_17 K0
  · have q := b2i_nz q
    have K0 := K0.2 q
    refine r_iload (pc := 10) dX8_at_10 rfl ?_
    refine r_if_ge (pc := 12) (tgt := 18) dX8_at_12 (by decide) (fun q => ?_) (fun q => ?_)
    · have K0 := K0.1 q
      refine r_iload (pc := 18) dX8_at_18 rfl ?_
      refine r_istore (pc := 20) dX8_at_20 (by decide) ?_
      refine r_iconst (pc := 22) (L := [some (.ref b0), some (.int l1), some (.int l2), some (.int l3), some (.int l4), some (.int l4), none]) (v := 0) dX8_at_22 (by decide) ?_
      refine r_istore (pc := 23) dX8_at_23 (by decide) ?_
      exact r_le (L' := [some (.ref b0), some (.int l1), some (.int l2), some (.int l3), some (.int l4), some (.int l4), some (.int 0)]) ⟨rfl, ⟨rfl, ⟨rfl, ⟨rfl, ⟨rfl, ⟨rfl, ⟨rfl, trivial⟩⟩⟩⟩⟩⟩⟩ K0
    · have K0 := K0.2 q
      refine r_bipush (pc := 15) (v := (-2)) dX8_at_15 (by decide) ?_
      exact s_iret rfl dX8_at_17 K0
set_option maxHeartbeats 2000000 in
theorem v_X8_at_25 {K : Sh} {x : Cn} {Q : Int32 → Cn → Prop} {b0 : Nat} {l1 : Int32} {l2 : Int32} {l3 : Int32} {l4 : Int32} {l5 : Int32} {l6 : Int32} {b0_1 : Nat} {n_b0_1 : Nat} {b0_3 : Nat} {n_b0_3 : Nat} (k_b0 : kk K b0 = some (8, 0)) (g_b0_1 : gr x b0 1 = some b0_1) (k_b0_1 : kk K b0_1 = some (20, n_b0_1)) (g_b0_3 : gr x b0 3 = some b0_3) (k_b0_3 : kk K b0_3 = some (20, n_b0_3)) (K0 : vp_in 2 n_b0_1 ∧ (((gi x b0_1 2) ≤ l6 → (Q (-1) x)) ∧ (¬ (gi x b0_1 2) ≤ l6 → ((l24 l6 n_b0_3) ∧ ((¬ (so (gi x b0_3) (l6 : Int32).toNatClampNeg 1) = l2 → (GI mX8_at 25 [some (.ref b0), some (.int l1), some (.int l2), some (.int l3), some (.int l4), some (.int l5), some (.int (l6 + 1))] [] K x Q)) ∧ ((so (gi x b0_3) (l6 : Int32).toNatClampNeg 1) = l2 → ((¬ (so (gi x b0_3) (l6 : Int32).toNatClampNeg 2) = l3 → (GI mX8_at 25 [some (.ref b0), some (.int l1), some (.int l2), some (.int l3), some (.int l4), some (.int l5), some (.int (l6 + 1))] [] K x Q)) ∧ ((so (gi x b0_3) (l6 : Int32).toNatClampNeg 2) = l3 → (((f_has (bas (gi x b0_3) (l6 : Int32).toNatClampNeg) l1) → ((¬ l5 = 0 → (GI mX8_at 25 [some (.ref b0), some (.int l1), some (.int l2), some (.int l3), some (.int l4), some (.int (l5 + (-1))), some (.int (l6 + 1))] [] K x Q)) ∧ (l5 = 0 → (Q l6 x)))) ∧ (¬ (f_has (bas (gi x b0_3) (l6 : Int32).toNatClampNeg) l1) → (GI mX8_at 25 [some (.ref b0), some (.int l1), some (.int l2), some (.int l3), some (.int l4), some (.int l5), some (.int (l6 + 1))] [] K x Q))))))))))) : GI mX8_at 25 [some (.ref b0), some (.int l1), some (.int l2), some (.int l3), some (.int l4), some (.int l5), some (.int l6)] [] K x Q := by
  show mGM mX8_at 25 [some (.ref b0), some (.int l1), some (.int l2), some (.int l3), some (.int l4), some (.int l5), some (.int l6)] [] (hp K x) (PI K Q)
  refine r_iload (pc := 25) dX8_at_25 rfl ?_
  refine r_aload_n (pc := 27) dX8_at_27 rfl ?_
  refine s_getR (pc := 28) dX8_at_28 fl_X8_9 rfl k_b0 g_b0_1 ?_
  refine r_iconst (pc := 31) (v := 2) dX8_at_31 (by decide) ?_
  obtain ⟨i_1, K0⟩ := K0
  refine s_iald (pc := 32) dX8_at_32 k_b0_1 i_1 ?_
  refine r_icmp_ge (pc := 33) (tgt := 91) dX8_at_33 (by decide) (fun q => ?_) (fun q => ?_)
  · have K0 := K0.1 q
    refine r_iconst (pc := 91) (v := (-1)) dX8_at_91 (by decide) ?_
    exact s_iret rfl dX8_at_92 K0
  · have K0 := K0.2 q
    refine r_aload_n (pc := 36) dX8_at_36 rfl ?_
    refine r_iload (pc := 37) dX8_at_37 rfl ?_
    refine r_iconst (pc := 39) (v := 1) dX8_at_39 (by decide) ?_
    obtain ⟨p_3, K0⟩ := K0
    refine s_VI (pc := 40) mX8_one (ci := 8) (a := b0) (As := [.int l6, .int 1]) dX8_at_40 lk_X8_67 in_X8_one mo_X8_one ⟨by decide, rfl⟩ ⟨by decide, by decide⟩ (Nat.le_of_ble_eq_true rfl) k_b0 (sr_X8_one k_b0 g_b0_3 k_b0_3 p_3 ⟨by decide, by decide⟩ ?_)
    refine r_iload_n (pc := 43) dX8_at_43 rfl ?_
    refine r_icmp_ne (pc := 44) (tgt := 85) dX8_at_44 (by decide) (fun q => ?_) (fun q => ?_)
    · have K0 := K0.1 q
      refine r_iinc (pc := 85) (v := l6 + 1) dX8_at_85 rfl rfl (by decide) ?_
      refine r_goto (pc := 88) (L := [some (.ref b0), some (.int l1), some (.int l2), some (.int l3), some (.int l4), some (.int l5), some (.int (l6 + 1))]) (tgt := 25) dX8_at_88 (by decide) ?_
      exact r_le (L' := [some (.ref b0), some (.int l1), some (.int l2), some (.int l3), some (.int l4), some (.int l5), some (.int (l6 + 1))]) ⟨rfl, ⟨rfl, ⟨rfl, ⟨rfl, ⟨rfl, ⟨rfl, ⟨rfl, trivial⟩⟩⟩⟩⟩⟩⟩ K0
    · have K0 := K0.2 q
      refine r_aload_n (pc := 47) dX8_at_47 rfl ?_
      refine r_iload (pc := 48) dX8_at_48 rfl ?_
      refine r_iconst (pc := 50) (v := 2) dX8_at_50 (by decide) ?_
      refine s_VI (pc := 51) mX8_one (ci := 8) (a := b0) (As := [.int l6, .int 2]) dX8_at_51 lk_X8_67 in_X8_one mo_X8_one ⟨by decide, rfl⟩ ⟨by decide, by decide⟩ (Nat.le_of_ble_eq_true rfl) k_b0 (sr_X8_one k_b0 g_b0_3 k_b0_3 p_3 ⟨by decide, by decide⟩ ?_)
      refine r_iload_n (pc := 54) dX8_at_54 rfl ?_
      refine r_icmp_ne (pc := 55) (tgt := 85) dX8_at_55 (by decide) (fun q => ?_) (fun q => ?_)
      · have K0 := K0.1 q
        refine r_iinc (pc := 85) (v := l6 + 1) dX8_at_85 rfl rfl (by decide) ?_
        refine r_goto (pc := 88) (L := [some (.ref b0), some (.int l1), some (.int l2), some (.int l3), some (.int l4), some (.int l5), some (.int (l6 + 1))]) (tgt := 25) dX8_at_88 (by decide) ?_
        exact r_le (L' := [some (.ref b0), some (.int l1), some (.int l2), some (.int l3), some (.int l4), some (.int l5), some (.int (l6 + 1))]) ⟨rfl, ⟨rfl, ⟨rfl, ⟨rfl, ⟨rfl, ⟨rfl, ⟨rfl, trivial⟩⟩⟩⟩⟩⟩⟩ K0
      · have K0 := K0.2 q
        refine r_aload_n (pc := 58) dX8_at_58 rfl ?_
        refine r_iload (pc := 59) dX8_at_59 rfl ?_
        refine s_VI (pc := 61) mX8_basisOf (ci := 8) (a := b0) (As := [.int l6]) dX8_at_61 lk_X8_71 in_X8_basisOf mo_X8_basisOf ⟨by decide, rfl⟩ ⟨by decide, by decide⟩ (Nat.le_of_ble_eq_true rfl) k_b0 (sr_X8_basisOf k_b0 g_b0_3 k_b0_3 p_3 ?_)
        refine r_iload_n (pc := 64) dX8_at_64 rfl ?_
        refine s_SI (pc := 65) mX8_has (As := [.int (bas (gi x b0_3) (l6 : Int32).toNatClampNeg), .int l1]) dX8_at_65 lk_X8_75 st_X8_has mo_X8_has ⟨by decide, by decide⟩ (Nat.le_of_ble_eq_true rfl) (sp_X8_has  ?_)
        refine r_if_ne (pc := 68) (tgt := 74) dX8_at_68 (by decide) (fun q => ?_) (fun q => ?_)
        · have q := b2i_nz q
          have K0 := K0.1 q
          refine r_iload (pc := 74) dX8_at_74 rfl ?_
          refine r_if_ne (pc := 76) (tgt := 82) dX8_at_76 (by decide) (fun q => ?_) (fun q => ?_)
          · have K0 := K0.1 q
            refine r_iinc (pc := 82) (v := l5 + (-1)) dX8_at_82 rfl rfl (by decide) ?_
            refine r_iinc (pc := 85) (L := [some (.ref b0), some (.int l1), some (.int l2), some (.int l3), some (.int l4), some (.int (l5 + (-1))), some (.int l6)]) (v := l6 + 1) dX8_at_85 rfl rfl (by decide) ?_
            refine r_goto (pc := 88) (L := [some (.ref b0), some (.int l1), some (.int l2), some (.int l3), some (.int l4), some (.int (l5 + (-1))), some (.int (l6 + 1))]) (tgt := 25) dX8_at_88 (by decide) ?_
            exact r_le (L' := [some (.ref b0), some (.int l1), some (.int l2), some (.int l3), some (.int l4), some (.int (l5 + (-1))), some (.int (l6 + 1))]) ⟨rfl, ⟨rfl, ⟨rfl, ⟨rfl, ⟨rfl, ⟨rfl, ⟨rfl, trivial⟩⟩⟩⟩⟩⟩⟩ K0
          · have K0 := K0.2 q
            refine r_iload (pc := 79) dX8_at_79 rfl ?_
            exact s_iret rfl dX8_at_81 K0
        · have q := (b2i_z _).mp q
          have K0 := K0.2 q
          refine r_goto (pc := 71) (tgt := 85) dX8_at_71 (by decide) ?_
          refine r_iinc (pc := 85) (v := l6 + 1) dX8_at_85 rfl rfl (by decide) ?_
          refine r_goto (pc := 88) (L := [some (.ref b0), some (.int l1), some (.int l2), some (.int l3), some (.int l4), some (.int l5), some (.int (l6 + 1))]) (tgt := 25) dX8_at_88 (by decide) ?_
          exact r_le (L' := [some (.ref b0), some (.int l1), some (.int l2), some (.int l3), some (.int l4), some (.int l5), some (.int (l6 + 1))]) ⟨rfl, ⟨rfl, ⟨rfl, ⟨rfl, ⟨rfl, ⟨rfl, ⟨rfl, trivial⟩⟩⟩⟩⟩⟩⟩ K0
set_option maxHeartbeats 2000000 in
theorem v_X7_common_0 {K : Sh} {x : Cn} {Q : Int32 → Cn → Prop} {b0 : Nat} {l1 : Int32} {l2 : Int32} {b0_2 : Nat} {b0_2_7 : Nat} {n_b0_2_7 : Nat} (k_b0 : kk K b0 = some (7, 0)) (g_b0_2 : gr x b0 2 = some b0_2) (k_b0_2 : kk K b0_2 = some (4, 0)) (g_b0_2_7 : gr x b0_2 7 = some b0_2_7) (k_b0_2_7 : kk K b0_2_7 = some (23, n_b0_2_7)) (K0 : (¬ (0 ≤ l1 ∧ l1 < gi x b0_2 3) → (Q (-2) x)) ∧ ((0 ≤ l1 ∧ l1 < gi x b0_2 3) → (((0 ≤ l2 ∧ l2 < gi x b0_2 3) → (vp_in l1 n_b0_2_7 ∧ (∃ c_4 : Nat, gr x b0_2_7 ((l1 : Int32).toNatClampNeg) = some c_4 ∧ (vp_in l2 n_b0_2_7 ∧ (∃ c_7 : Nat, gr x b0_2_7 ((l2 : Int32).toNatClampNeg) = some c_7 ∧ (kk K c_4 = some (5, 0) ∧ (kk K c_7 = some (5, 0) ∧ ((¬ (gi x c_4 1) = (gi x c_7 1) → (Q 0 x)) ∧ ((gi x c_4 1) = (gi x c_7 1) → (((gi x c_4 2) = (gi x c_7 2) → (Q (nI (cpt ((f_held x c_4) &&& (f_held x c_7)))) x)) ∧ (¬ (gi x c_4 2) = (gi x c_7 2) → (Q 0 x)))))))))))) ∧ (¬ (0 ≤ l2 ∧ l2 < gi x b0_2 3) → (Q (-2) x))))) : mSI mX7_common [.ref b0, .int l1, .int l2] K x Q := by
  refine s_I (by decide) (by simp [Value.category]) (Nat.le_of_ble_eq_true rfl) ?_
  show mGM mX7_common 0 [some (.ref b0), some (.int l1), some (.int l2), none, none] [] (hp K x) (PI K Q)
  refine r_aload_n (pc := 0) dX7_common_0 rfl ?_
  refine r_iload_n (pc := 1) dX7_common_1 rfl ?_
  refine s_VI (pc := 2) mX7_isSeries (ci := 7) (a := b0) (As := [.int l1]) dX7_common_2 lk_X7_132 in_X7_isSeries mo_X7_isSeries ⟨by decide, rfl⟩ ⟨by decide, by decide⟩ (Nat.le_of_ble_eq_true rfl) k_b0 (sp_X7_isSeries k_b0 g_b0_2 k_b0_2 ?_)
  refine r_if_eq (pc := 5) (tgt := 16) dX7_common_5 (by decide) (fun q => ?_) (fun q => ?_)
  · have q := (b2i_z _).mp q
    have K0 := K0.1 q
    refine r_bipush (pc := 16) (v := (-2)) dX7_common_16 (by decide) ?_
    exact s_iret rfl dX7_common_18 K0
  · have q := b2i_nz q
    have K0 := K0.2 q
    refine r_aload_n (pc := 8) dX7_common_8 rfl ?_
    refine r_iload_n (pc := 9) dX7_common_9 rfl ?_
    refine s_VI (pc := 10) mX7_isSeries (ci := 7) (a := b0) (As := [.int l2]) dX7_common_10 lk_X7_132 in_X7_isSeries mo_X7_isSeries ⟨by decide, rfl⟩ ⟨by decide, by decide⟩ (Nat.le_of_ble_eq_true rfl) k_b0 (sp_X7_isSeries k_b0 g_b0_2 k_b0_2 ?_)
    refine r_if_ne (pc := 13) (tgt := 19) dX7_common_13 (by decide) (fun q => ?_) (fun q => ?_)
    · have q := b2i_nz q
      have K0 := K0.1 q
      refine r_aload_n (pc := 19) dX7_common_19 rfl ?_
      refine s_getR (pc := 20) dX7_common_20 fl_X7_20 rfl k_b0 g_b0_2 ?_
      refine s_getR (pc := 23) dX7_common_23 fl_X7_135 rfl k_b0_2 g_b0_2_7 ?_
      refine r_iload_n (pc := 26) dX7_common_26 rfl ?_
      obtain ⟨i_3, K0⟩ := K0
      obtain ⟨c_4, g_5, K0⟩ := K0
      refine s_aald (pc := 27) dX7_common_27 (by decide) rfl k_b0_2_7 i_3 g_5 ?_
      refine r_astore_n (pc := 28) dX7_common_28 (by decide) ?_
      refine r_aload_n (pc := 29) (L := [some (.ref b0), some (.int l1), some (.int l2), some (.ref c_4), none]) dX7_common_29 rfl ?_
      refine s_getR (pc := 30) dX7_common_30 fl_X7_20 rfl k_b0 g_b0_2 ?_
      refine s_getR (pc := 33) dX7_common_33 fl_X7_135 rfl k_b0_2 g_b0_2_7 ?_
      refine r_iload_n (pc := 36) dX7_common_36 rfl ?_
      obtain ⟨i_6, K0⟩ := K0
      obtain ⟨c_7, g_8, K0⟩ := K0
      refine s_aald (pc := 37) dX7_common_37 (by decide) rfl k_b0_2_7 i_6 g_8 ?_
      refine r_astore (pc := 38) dX7_common_38 (by decide) ?_
      refine r_aload_n (pc := 40) (L := [some (.ref b0), some (.int l1), some (.int l2), some (.ref c_4), some (.ref c_7)]) dX7_common_40 rfl ?_
      obtain ⟨e_9, K0⟩ := K0
      refine s_getI (pc := 41) dX7_common_41 fl_X7_144 rfl e_9 ?_
      refine r_aload (pc := 44) dX7_common_44 rfl ?_
      obtain ⟨e_10, K0⟩ := K0
      refine s_getI (pc := 46) dX7_common_46 fl_X7_144 rfl e_10 ?_
      refine r_icmp_ne (pc := 49) (tgt := 64) dX7_common_49 (by decide) (fun q => ?_) (fun q => ?_)
      · have K0 := K0.1 q
        refine r_iconst (pc := 64) (v := 0) dX7_common_64 (by decide) ?_
        exact s_iret rfl dX7_common_65 K0
      · have K0 := K0.2 q
        refine r_aload_n (pc := 52) dX7_common_52 rfl ?_
        refine s_getI (pc := 53) dX7_common_53 fl_X7_147 rfl e_9 ?_
        refine r_aload (pc := 56) dX7_common_56 rfl ?_
        refine s_getI (pc := 58) dX7_common_58 fl_X7_147 rfl e_10 ?_
        refine r_icmp_eq (pc := 61) (tgt := 66) dX7_common_61 (by decide) (fun q => ?_) (fun q => ?_)
        · have K0 := K0.1 q
          refine r_aload_n (pc := 66) dX7_common_66 rfl ?_
          refine s_VI (pc := 67) mX5_heldBits (ci := 5) (a := c_4) (As := []) dX7_common_67 lk_X7_272 in_X5_heldBits mo_X5_heldBits ⟨by decide, rfl⟩ ⟨by decide, by decide⟩ (Nat.le_of_ble_eq_true rfl) e_9 (sp_X5_heldBits e_9 ?_)
          refine r_aload (pc := 70) dX7_common_70 rfl ?_
          refine s_VI (pc := 72) mX5_heldBits (ci := 5) (a := c_7) (As := []) dX7_common_72 lk_X7_272 in_X5_heldBits mo_X5_heldBits ⟨by decide, rfl⟩ ⟨by decide, by decide⟩ (Nat.le_of_ble_eq_true rfl) e_10 (sp_X5_heldBits e_10 ?_)
          refine r_iand (pc := 75) dX7_common_75 ?_
          refine s_SI (pc := 76) mJ6_bitCount_0f7a4 (As := [.int ((f_held x c_4) &&& (f_held x c_7))]) dX7_common_76 lk_X7_255 st_J6_bitCount_0f7a4 mo_J6_bitCount_0f7a4 ⟨by decide, by decide⟩ (Nat.le_of_ble_eq_true rfl) (sp_bc  ?_)
          exact s_iret rfl dX7_common_79 K0
        · have K0 := K0.2 q
          refine r_iconst (pc := 64) (v := 0) dX7_common_64 (by decide) ?_
          exact s_iret rfl dX7_common_65 K0
    · have q := (b2i_z _).mp q
      have K0 := K0.2 q
      refine r_bipush (pc := 16) (v := (-2)) dX7_common_16 (by decide) ?_
      exact s_iret rfl dX7_common_18 K0
set_option maxHeartbeats 2000000 in
theorem v_X8_common_0 {K : Sh} {x : Cn} {Q : Int32 → Cn → Prop} {b0 : Nat} {l1 : Int32} {l2 : Int32} {b0_1 : Nat} {n_b0_1 : Nat} {b0_3 : Nat} {n_b0_3 : Nat} (k_b0 : kk K b0 = some (8, 0)) (g_b0_1 : gr x b0 1 = some b0_1) (k_b0_1 : kk K b0_1 = some (20, n_b0_1)) (g_b0_3 : gr x b0 3 = some b0_3) (k_b0_3 : kk K b0_3 = some (20, n_b0_3)) (K0 : vp_in 2 n_b0_1 ∧ ((¬ (0 ≤ l1 ∧ l1 ≤ gi x b0_1 2 - 1) → (Q (-2) x)) ∧ ((0 ≤ l1 ∧ l1 ≤ gi x b0_1 2 - 1) → (((0 ≤ l2 ∧ l2 ≤ gi x b0_1 2 - 1) → ((l24 l1 n_b0_3) ∧ ((l24 l2 n_b0_3) ∧ ((¬ (so (gi x b0_3) (l1 : Int32).toNatClampNeg 1) = (so (gi x b0_3) (l2 : Int32).toNatClampNeg 1) → (Q 0 x)) ∧ ((so (gi x b0_3) (l1 : Int32).toNatClampNeg 1) = (so (gi x b0_3) (l2 : Int32).toNatClampNeg 1) → ((¬ (so (gi x b0_3) (l1 : Int32).toNatClampNeg 2) = (so (gi x b0_3) (l2 : Int32).toNatClampNeg 2) → (Q 0 x)) ∧ ((so (gi x b0_3) (l1 : Int32).toNatClampNeg 2) = (so (gi x b0_3) (l2 : Int32).toNatClampNeg 2) → (Q (nI (cpt ((bas (gi x b0_3) (l1 : Int32).toNatClampNeg) &&& (bas (gi x b0_3) (l2 : Int32).toNatClampNeg)))) x)))))))) ∧ (¬ (0 ≤ l2 ∧ l2 ≤ gi x b0_1 2 - 1) → (Q (-2) x)))))) : mSI mX8_common [.ref b0, .int l1, .int l2] K x Q := by
  refine s_I (by decide) (by simp [Value.category]) (Nat.le_of_ble_eq_true rfl) ?_
  show mGM mX8_common 0 [some (.ref b0), some (.int l1), some (.int l2)] [] (hp K x) (PI K Q)
  refine r_aload_n (pc := 0) dX8_common_0 rfl ?_
  refine r_iload_n (pc := 1) dX8_common_1 rfl ?_
  obtain ⟨i_1, K0⟩ := K0
  refine s_VI (pc := 2) mX8_isSeries (ci := 8) (a := b0) (As := [.int l1]) dX8_common_2 lk_X8_273 in_X8_isSeries mo_X8_isSeries ⟨by decide, rfl⟩ ⟨by decide, by decide⟩ (Nat.le_of_ble_eq_true rfl) k_b0 (sp_X8_isSeries k_b0 g_b0_1 k_b0_1 i_1 ?_)
  refine r_if_eq (pc := 5) (tgt := 16) dX8_common_5 (by decide) (fun q => ?_) (fun q => ?_)
  · have q := (b2i_z _).mp q
    have K0 := K0.1 q
    refine r_bipush (pc := 16) (v := (-2)) dX8_common_16 (by decide) ?_
    exact s_iret rfl dX8_common_18 K0
  · have q := b2i_nz q
    have K0 := K0.2 q
    refine r_aload_n (pc := 8) dX8_common_8 rfl ?_
    refine r_iload_n (pc := 9) dX8_common_9 rfl ?_
    refine s_VI (pc := 10) mX8_isSeries (ci := 8) (a := b0) (As := [.int l2]) dX8_common_10 lk_X8_273 in_X8_isSeries mo_X8_isSeries ⟨by decide, rfl⟩ ⟨by decide, by decide⟩ (Nat.le_of_ble_eq_true rfl) k_b0 (sp_X8_isSeries k_b0 g_b0_1 k_b0_1 i_1 ?_)
    refine r_if_ne (pc := 13) (tgt := 19) dX8_common_13 (by decide) (fun q => ?_) (fun q => ?_)
    · have q := b2i_nz q
      have K0 := K0.1 q
      refine r_aload_n (pc := 19) dX8_common_19 rfl ?_
      refine r_iload_n (pc := 20) dX8_common_20 rfl ?_
      refine r_iconst (pc := 21) (v := 1) dX8_common_21 (by decide) ?_
      obtain ⟨p_4, K0⟩ := K0
      refine s_VI (pc := 22) mX8_one (ci := 8) (a := b0) (As := [.int l1, .int 1]) dX8_common_22 lk_X8_67 in_X8_one mo_X8_one ⟨by decide, rfl⟩ ⟨by decide, by decide⟩ (Nat.le_of_ble_eq_true rfl) k_b0 (sr_X8_one k_b0 g_b0_3 k_b0_3 p_4 ⟨by decide, by decide⟩ ?_)
      refine r_aload_n (pc := 25) dX8_common_25 rfl ?_
      refine r_iload_n (pc := 26) dX8_common_26 rfl ?_
      refine r_iconst (pc := 27) (v := 1) dX8_common_27 (by decide) ?_
      obtain ⟨p_5, K0⟩ := K0
      refine s_VI (pc := 28) mX8_one (ci := 8) (a := b0) (As := [.int l2, .int 1]) dX8_common_28 lk_X8_67 in_X8_one mo_X8_one ⟨by decide, rfl⟩ ⟨by decide, by decide⟩ (Nat.le_of_ble_eq_true rfl) k_b0 (sr_X8_one k_b0 g_b0_3 k_b0_3 p_5 ⟨by decide, by decide⟩ ?_)
      refine r_icmp_ne (pc := 31) (tgt := 66) dX8_common_31 (by decide) (fun q => ?_) (fun q => ?_)
      · have K0 := K0.1 q
        refine r_iconst (pc := 66) (v := 0) dX8_common_66 (by decide) ?_
        exact s_iret rfl dX8_common_67 K0
      · have K0 := K0.2 q
        refine r_aload_n (pc := 34) dX8_common_34 rfl ?_
        refine r_iload_n (pc := 35) dX8_common_35 rfl ?_
        refine r_iconst (pc := 36) (v := 2) dX8_common_36 (by decide) ?_
        refine s_VI (pc := 37) mX8_one (ci := 8) (a := b0) (As := [.int l1, .int 2]) dX8_common_37 lk_X8_67 in_X8_one mo_X8_one ⟨by decide, rfl⟩ ⟨by decide, by decide⟩ (Nat.le_of_ble_eq_true rfl) k_b0 (sr_X8_one k_b0 g_b0_3 k_b0_3 p_4 ⟨by decide, by decide⟩ ?_)
        refine r_aload_n (pc := 40) dX8_common_40 rfl ?_
        refine r_iload_n (pc := 41) dX8_common_41 rfl ?_
        refine r_iconst (pc := 42) (v := 2) dX8_common_42 (by decide) ?_
        refine s_VI (pc := 43) mX8_one (ci := 8) (a := b0) (As := [.int l2, .int 2]) dX8_common_43 lk_X8_67 in_X8_one mo_X8_one ⟨by decide, rfl⟩ ⟨by decide, by decide⟩ (Nat.le_of_ble_eq_true rfl) k_b0 (sr_X8_one k_b0 g_b0_3 k_b0_3 p_5 ⟨by decide, by decide⟩ ?_)
        refine r_icmp_ne (pc := 46) (tgt := 66) dX8_common_46 (by decide) (fun q => ?_) (fun q => ?_)
        · have K0 := K0.1 q
          refine r_iconst (pc := 66) (v := 0) dX8_common_66 (by decide) ?_
          exact s_iret rfl dX8_common_67 K0
        · have K0 := K0.2 q
          refine r_aload_n (pc := 49) dX8_common_49 rfl ?_
          refine r_iload_n (pc := 50) dX8_common_50 rfl ?_
          refine s_VI (pc := 51) mX8_basisOf (ci := 8) (a := b0) (As := [.int l1]) dX8_common_51 lk_X8_71 in_X8_basisOf mo_X8_basisOf ⟨by decide, rfl⟩ ⟨by decide, by decide⟩ (Nat.le_of_ble_eq_true rfl) k_b0 (sr_X8_basisOf k_b0 g_b0_3 k_b0_3 p_4 ?_)
          refine r_aload_n (pc := 54) dX8_common_54 rfl ?_
          refine r_iload_n (pc := 55) dX8_common_55 rfl ?_
          refine s_VI (pc := 56) mX8_basisOf (ci := 8) (a := b0) (As := [.int l2]) dX8_common_56 lk_X8_71 in_X8_basisOf mo_X8_basisOf ⟨by decide, rfl⟩ ⟨by decide, by decide⟩ (Nat.le_of_ble_eq_true rfl) k_b0 (sr_X8_basisOf k_b0 g_b0_3 k_b0_3 p_5 ?_)
          refine r_iand (pc := 59) dX8_common_59 ?_
          refine s_SI (pc := 60) mX8_bits (As := [.int ((bas (gi x b0_3) (l1 : Int32).toNatClampNeg) &&& (bas (gi x b0_3) (l2 : Int32).toNatClampNeg))]) dX8_common_60 lk_X8_296 st_X8_bits mo_X8_bits ⟨by decide, by decide⟩ (Nat.le_of_ble_eq_true rfl) (sp_X8_bits  ?_)
          refine r_goto (pc := 63) (tgt := 67) dX8_common_63 (by decide) ?_
          exact s_iret rfl dX8_common_67 K0
    · have q := (b2i_z _).mp q
      have K0 := K0.2 q
      refine r_bipush (pc := 16) (v := (-2)) dX8_common_16 (by decide) ?_
      exact s_iret rfl dX8_common_18 K0
theorem eq_load (a b c d : Int32) : Both mX7_load mX8_load [.int a, .int b, .int c, .int d] := by
  intro x R
  obtain ⟨W, C, S, A, N, E, -, -⟩ := R.sea
  have hn := E.nums
  have ht := Rel.t2 E
  have hS : S ≤ 24 := hn.2.2.2.2.2.2.1
  have hW : W ≤ 30 := hn.2.2.2.2.1
  have iC := cell_iff (x := x) (T := gi x 718) (l1 := a) (l2 := b) (l3 := c) (g := gi x 2 0) hW hn.1 ht.1
  have rf : mSI mX8_load [.ref 717, .int a, .int b, .int c, .int d] KW x (fun r' z => (if (0 ≤ a ∧ a < gi x 2 0 ∧ 0 < gi x 2 0 ∧ 0 ≤ b ∧ b < 7 ∧ 0 ≤ c ∧ c < 24) ∧ (0 ≤ d ∧ d ≤ 2) then ldB (gi x 718) S a.toNatClampNeg b c d (-1) else -2) = r' ∧ Rel z) := by
    refine v_X8_load_0 km R.2.1.1 km1 ⟨v0 (k := 0) (by decide) rfl rfl, ?_⟩
    rw [iC]
    refine ⟨fun z => ⟨if_neg (fun w => z w.1), R⟩, fun z => ⟨fun z2 => ⟨if_neg (fun w => z2 w.2), R⟩, fun z2 => ?_⟩⟩
    rw [if_pos ⟨z, z2⟩]
    rw [hn.1] at z
    obtain ⟨w, hw, rfl⟩ := inN (by omega) ⟨z.1, z.2.1⟩
    rw [nI_clamp (by omega)]
    exact sp_X8_loadBut R.2.1 km1 ht.2.2.1 hS (by omega) ⟨rfl, R⟩
  refine v_X7_load_0 k0 R.1.2.1 (ks0 E.1) ⟨fun z => by rwa [if_neg (fun w => z w.1)] at rf, fun z => ⟨fun z2 => ?_, fun z2 => by rwa [if_neg (fun w => z2 w.2)] at rf⟩⟩
  rw [if_pos ⟨z, z2⟩] at rf
  rw [hn.1] at z
  obtain ⟨w, hw, rfl⟩ := inN (by omega) ⟨z.1, z.2.1⟩
  rw [nI_clamp (by omega)] at rf
  refine ⟨fun z3 => sp_X4_loadIn E (by omega) ⟨fun z4 => ⟨R.1.2.1, sp_X4_loadOf E (by omega) ?_⟩, fun z4 => ?_⟩, fun z3 => sp_X4_loadOf E (by omega) ?_⟩
  · obtain ⟨k, hk, rfl⟩ := nI_of2 (M := 2) (n := 2) (by decide) (Int32.not_lt.mpr z2.1) z2.2
    have hk' : k = 2 := by
      have : k = 0 ∨ k = 1 ∨ k = 2 := by omega
      rcases this with rfl | rfl | rfl
      · exact absurd (by decide) z3
      · exact absurd (by decide) z4
      · rfl
    subst hk'
    have e3 := ldB_3 (T := gi x 718) (w := w) (d := b) (h := c) (b := -1) S (fun s hs => by obtain ⟨p, -, -, -, -, -, e6⟩ := E.ser hs; exact e6.2.2.2.1)
    rw [e3, Int32.add_sub_cancel]
    exact rf
  · subst z4
    exact rf
  · subst z3
    exact rf
theorem eq_room (a b c d : Int32) : Both mX7_room mX8_room [.int a, .int b, .int c, .int d] := by
  intro x R
  obtain ⟨W, C, S, A, N, E, -, -⟩ := R.sea
  have hn := E.nums
  have ht := Rel.t2 E
  have hS : S ≤ 24 := hn.2.2.2.2.2.2.1
  have hW : W ≤ 30 := hn.2.2.2.2.1
  have iC := cell_iff (x := x) (T := gi x 718) (l1 := a) (l2 := b) (l3 := c) (g := gi x 2 0) hW hn.1 ht.1
  have d1 : (0 ≤ d ∧ d ≤ 1) ↔ (d = 0 ∨ d = 1) := by
    constructor
    · intro z
      obtain ⟨k, hk, rfl⟩ := nI_of2 (M := 1) (n := 1) (by decide) (Int32.not_lt.mpr z.1) z.2
      have : k = 0 ∨ k = 1 := by omega
      rcases this with rfl | rfl
      · exact Or.inl rfl
      · exact Or.inr rfl
    · rintro (rfl | rfl) <;> decide
  let al : Int32 := gi x 718 (6 + 2 * c.toNatClampNeg) - ldB (gi x 718) S a.toNatClampNeg b c 0 (-1)
  let il : Int32 := gi x 718 (7 + 2 * c.toNatClampNeg) - ldB (gi x 718) S a.toNatClampNeg b c 1 (-1)
  have rf : mSI mX8_room [.ref 717, .int a, .int b, .int c, .int d] KW x (fun r' z => (if (0 ≤ a ∧ a < gi x 2 0 ∧ 0 < gi x 2 0 ∧ 0 ≤ b ∧ b < 7 ∧ 0 ≤ c ∧ c < 24) ∧ (d = 0 ∨ d = 1) then (if d = 0 then (if (if il < al then il else al) < 0 then 0 else (if il < al then il else al)) else (if al < 0 then 0 else al)) else -2) = r' ∧ Rel z) := by
    refine v_X8_room_0 km R.2.1.1 km1 ⟨v0 (k := 0) (by decide) rfl rfl, ?_⟩
    rw [iC, d1]
    refine ⟨fun z => ⟨if_neg (fun w => z w.1), R⟩, fun z => ⟨fun z2 => ?_, fun z2 => ⟨if_neg (fun w => z2 w.2), R⟩⟩⟩
    rw [if_pos ⟨z, z2⟩]
    rw [hn.1] at z
    obtain ⟨w, hw, ew⟩ := inN (by omega) ⟨z.1, z.2.1⟩
    obtain ⟨h, hh, eh⟩ := inN (n := 24) (by decide) z.2.2.2.2.2
    have ea : a.toNatClampNeg = w := by rw [ew]; exact nI_clamp (by omega)
    have ec : c.toNatClampNeg = h := by rw [eh]; exact nI_clamp (by omega)
    refine ⟨by rw [eh, ixh]; exact vp_in_nI (by omega) (by decide), ?_⟩
    rw [ew]
    refine sp_X8_loadBut R.2.1 km1 ht.2.2.1 hS (by omega) ⟨R.2.1.1, by rw [eh, ixh1]; exact vp_in_nI (by omega) (by decide), sp_X8_loadBut R.2.1 km1 ht.2.2.1 hS (by omega) ?_⟩
    have e6 : ((6 : Int32) + (2 * c)).toNatClampNeg = 6 + 2 * c.toNatClampNeg := by rw [ec, eh, ixh, nI_clamp (by omega)]
    have e7 : (((6 : Int32) + (2 * c)) + 1).toNatClampNeg = 7 + 2 * c.toNatClampNeg := by rw [ec, eh, ixh1, nI_clamp (by omega)]
    rw [e6, e7, ← ea, mm0, mm0]
    exact ⟨fun z3 => ⟨if_neg z3, R⟩, fun z3 => ⟨if_pos z3, R⟩⟩
  refine v_X7_room_0 k0 R.1.2.1 (ks0 E.1) E.2.1.1 (ks1 E.1) ⟨fun z => by rwa [if_neg (fun w => z w.1)] at rf, fun z => ⟨fun z2 => ?_, fun z2 => by rwa [if_neg (fun w => z2 w.2)] at rf⟩⟩
  rw [if_pos ⟨z, z2⟩] at rf
  rw [hn.1] at z
  obtain ⟨w, hw, ew⟩ := inN (by omega) ⟨z.1, z.2.1⟩
  obtain ⟨h, hh, eh⟩ := inN (n := 24) (by decide) z.2.2.2.2.2
  have ea : a.toNatClampNeg = w := by rw [ew]; exact nI_clamp (by omega)
  have ec : c.toNatClampNeg = h := by rw [eh]; exact nI_clamp (by omega)
  have hl := E.2.2.1.2.2.2.2.2.1 h hh
  refine ⟨by rw [eh]; exact vp_in_nI hh (by decide), ?_⟩
  rw [ew]
  refine sp_X4_loadOf E (by omega) ⟨fun z3 => ?_, fun z3 => ⟨R.1.2.1, 4, E.2.1.2.1, 24, ks2 E.1, by rw [eh]; exact vp_in_nI hh (by decide), sp_X4_loadIn E (by omega) (fun r er => ?_)⟩⟩
  · rw [ec, hl.1, ← ec, ← ew, ← ea]
    rw [if_neg z3] at rf
    exact rf
  · rw [ec, hl.1, hl.2, ← ea, ← ec] at er
    rw [if_pos z3] at rf
    rw [er, ← ew]
    exact rf
theorem eq_at (a b c d : Int32) : Both mX7_at mX8_at [.int a, .int b, .int c, .int d] := by
  intro x R
  obtain ⟨W, C, S, A, N, E, -, -⟩ := R.sea
  have hn := E.nums
  have ht := Rel.t2 E
  have hS : S ≤ 24 := hn.2.2.2.2.2.2.1
  have hW : W ≤ 30 := hn.2.2.2.2.1
  have iC := cell_iff (x := x) (T := gi x 718) (l1 := a) (l2 := b) (l3 := c) (g := gi x 2 0) hW hn.1 ht.1
  have rf : mSI mX8_at [.ref 717, .int a, .int b, .int c, .int d] KW x (fun r' z => (if (0 ≤ a ∧ a < gi x 2 0 ∧ 0 < gi x 2 0 ∧ 0 ≤ b ∧ b < 7 ∧ 0 ≤ c ∧ c < 24) ∧ 0 ≤ d then lpR (stAt (gi x 718) a.toNatClampNeg b c) (fun _ => -1) S 0 d else -2) = r' ∧ Rel z) := by
    refine v_X8_at_0 km R.2.1.1 km1 ⟨v0 (k := 0) (by decide) rfl rfl, ?_⟩
    rw [iC]
    refine ⟨fun z => ⟨if_neg (fun w => z w.1), R⟩, fun z => ⟨fun z2 => ?_, fun z2 => ⟨if_neg (fun w => z2 w.2), R⟩⟩⟩
    rw [if_pos ⟨z, z2⟩]
    rw [hn.1] at z
    obtain ⟨w, hw, rfl⟩ := inN (by omega) ⟨z.1, z.2.1⟩
    rw [nI_clamp (show w < 2 ^ 31 by omega)]
    refine lp_gen (stAt (gi x 718) w b c) (fun _ => -1) (fun s l => GI mX8_at 25 [some (.ref 717), some (.int (nI w)), some (.int b), some (.int c), some (.int d), some (.int l), some (.int (nI s))] [] KW x _) (fun r => lpR (stAt (gi x 718) w b c) (fun _ => -1) S 0 d = r ∧ Rel x) S (fun l k => ?_) (fun s l hs n1 n2 => ?_) S 0 d (by omega) ⟨rfl, R⟩
    · exact v_X8_at_25 km R.2.1.1 km1 R.2.1.2.2.1 km1 ⟨v0 (k := 2) (by decide) rfl rfl, fun _ => k, fun z => absurd (by rw [ht.2.2.1]; exact nI_le (by omega) (by omega)) z⟩
    · refine v_X8_at_25 km R.2.1.1 km1 R.2.1.2.2.1 km1 ⟨v0 (k := 2) (by decide) rfl rfl, fun z => absurd (by rw [ht.2.2.1] at z; exact z) (nI_ge hs (by omega)), fun _ => ⟨l24_nI (by omega) rfl, ?_⟩⟩
      rw [nI_clamp (show s < 2 ^ 31 by omega), f_has_tb _ (by omega), nI_1]
      have no : ¬ cAt (gi x 718) w b c s → stAt (gi x 718) w b c s l = .inl l := fun z => if_neg z
      have ye : cAt (gi x 718) w b c s → stAt (gi x 718) w b c s l = if l = 0 then .inr (nI s) else .inl (l + (-1)) := fun z => if_pos z
      exact ⟨fun z => n1 _ (no (fun g => z g.1)), fun z1 => ⟨fun z => n1 _ (no (fun g => z g.2.1)), fun z2 => ⟨fun z3 => ⟨fun z => n1 _ ((ye ⟨z1, z2, z3⟩).trans (if_neg z)), fun z => n2 _ ((ye ⟨z1, z2, z3⟩).trans (if_pos z))⟩, fun z => n1 _ (no (fun g => z g.2.2))⟩⟩⟩
  refine v_X7_at_0 k0 R.1.2.1 (ks0 E.1) ⟨fun z => by rwa [if_neg (fun w => z w.1)] at rf, fun z => ⟨fun z2 => ?_, fun z2 => by rwa [if_neg (fun w => z2 w.2)] at rf⟩⟩
  rw [if_pos ⟨z, z2⟩] at rf
  rw [hn.1] at z
  obtain ⟨w, hw, rfl⟩ := inN (by omega) ⟨z.1, z.2.1⟩
  rw [nI_clamp (show w < 2 ^ 31 by omega)] at rf
  refine lp_gen (stAt (gi x 718) w b c) (fun _ => -1) (fun s l => GI mX7_at 25 [some (.ref 0), some (.int (nI w)), some (.int b), some (.int c), some (.int d), some (.int l), some (.int (nI s))] [] KW x _) (fun r => mSI mX8_at [.ref 717, .int (nI w), .int b, .int c, .int d] KW x (fun r' z => r = r' ∧ Rel z)) S (fun l k => ?_) (fun s l hs n1 n2 => ?_) S 0 d (by omega) rf
  · exact v_X7_at_25 k0 R.1.2.1 (ks0 E.1) E.2.1.2.2.1 (ks3 E.1) ⟨fun _ => k, fun z => absurd (by rw [hn.2.2.1]; exact nI_le (by omega) (by omega)) z⟩
  · obtain ⟨p, e1, e2, e3, e4, -, e6⟩ := E.ser hs
    refine v_X7_at_25 k0 R.1.2.1 (ks0 E.1) E.2.1.2.2.1 (ks3 E.1) ⟨fun z => absurd (by rw [hn.2.2.1] at z; exact z) (nI_ge hs (by omega)), fun _ => ⟨vp_in_nI (by omega) (by decide), p, by rw [nI_clamp (by omega)]; exact e1, e2, ?_⟩⟩
    rw [e3.1 1 (by decide) (by decide), e3.1 2 (by decide) (by decide), e4, f_bit_tb _ (by omega), nI_1]
    exact ⟨fun z => n1 _ (if_neg z), fun z1 => ⟨fun z => n1 _ ((if_pos z1).trans (if_neg z)), fun z => n2 _ ((if_pos z1).trans (if_pos z))⟩⟩
theorem eq_common (a b : Int32) : Both mX7_common mX8_common [.int a, .int b] := by
  intro x R
  obtain ⟨W, C, S, A, N, E, -, -⟩ := R.sea
  have hn := E.nums
  have ht := Rel.t2 E
  have hS : S ≤ 24 := hn.2.2.2.2.2.2.1
  have i1 := inN' (v := a) (n := S) (by omega)
  have i2 := inN' (v := b) (n := S) (by omega)
  have rf : mSI mX8_common [.ref 717, .int a, .int b] KW x (fun r' z => (if (0 ≤ a ∧ a < nI S) ∧ (0 ≤ b ∧ b < nI S) then (if so (gi x 718) a.toNatClampNeg 1 = so (gi x 718) b.toNatClampNeg 1 ∧ so (gi x 718) a.toNatClampNeg 2 = so (gi x 718) b.toNatClampNeg 2 then nI (cpt (bas (gi x 718) a.toNatClampNeg &&& bas (gi x 718) b.toNatClampNeg)) else 0) else -2) = r' ∧ Rel z) := by
    refine v_X8_common_0 km R.2.1.1 km1 R.2.1.2.2.1 km1 ⟨v0 (k := 2) (by decide) rfl rfl, ?_⟩
    rw [ht.2.2.1, i1, i2]
    refine ⟨fun z => ⟨if_neg (fun w => z w.1), R⟩, fun z => ⟨fun z2 => ?_, fun z2 => ⟨if_neg (fun w => z2 w.2), R⟩⟩⟩
    rw [if_pos ⟨z, z2⟩]
    obtain ⟨s, hs, rfl⟩ := inN (by omega) z
    obtain ⟨t, ht2, rfl⟩ := inN (by omega) z2
    exact ⟨l24_nI (by omega) rfl, l24_nI (by omega) rfl, fun w => ⟨if_neg (fun g => w g.1), R⟩, fun w => ⟨fun w2 => ⟨if_neg (fun g => w2 g.2), R⟩, fun w2 => ⟨if_pos ⟨w, w2⟩, R⟩⟩⟩
  refine v_X7_common_0 k0 R.1.2.1 (ks0 E.1) E.2.1.2.2.1 (ks3 E.1) ?_
  rw [hn.2.2.1]
  refine ⟨fun z => by rwa [if_neg (fun w => z w.1)] at rf, fun z => ⟨fun z2 => ?_, fun z2 => by rwa [if_neg (fun w => z2 w.2)] at rf⟩⟩
  rw [if_pos ⟨z, z2⟩] at rf
  obtain ⟨s, hs, rfl⟩ := inN (by omega) z
  obtain ⟨t, ht2, rfl⟩ := inN (by omega) z2
  obtain ⟨p, e1, e2, e3, e4, -, e6⟩ := E.ser hs
  obtain ⟨p', e1', e2', e3', e4', -, e6'⟩ := E.ser ht2
  rw [nI_clamp (show s < 2 ^ 31 by omega), nI_clamp (show t < 2 ^ 31 by omega)] at rf
  refine ⟨vp_in_nI (by omega) (by decide), p, by rw [nI_clamp (by omega)]; exact e1, vp_in_nI (by omega) (by decide), p', by rw [nI_clamp (by omega)]; exact e1', e2, e2', ?_⟩
  rw [e3.1 1 (by decide) (by decide), e3.1 2 (by decide) (by decide), e3'.1 1 (by decide) (by decide), e3'.1 2 (by decide) (by decide), e4, e4']
  exact ⟨fun w => by rwa [if_neg (fun g => w g.1)] at rf, fun w => ⟨fun w2 => by rwa [if_pos ⟨w, w2⟩] at rf, fun w2 => by rwa [if_neg (fun g => w2 g.2)] at rf⟩⟩
end
/-! 35.reads4.lean.txt -/
section
def accT {α : Type} (g : Nat → α → α) : Nat → α → α
  | 0, a => a
  | n + 1, a => g n (accT g n a)
theorem lp_acc {α : Type} (g : Nat → α → α) (G : Nat → α → Prop) (S : Nat) (a0 : α) (hend : G S (accT g S a0)) (hstep : ∀ s a, s < S → (∀ b, g s a = b → G (s + 1) b) → G s a) : G 0 a0 := by
  have key : ∀ n s, s + n = S → G s (accT g s a0) := by
    intro n
    induction n with
    | zero =>
      intro s hs
      rw [show s = S by omega]
      exact hend
    | succ n ih =>
      intro s hs
      refine hstep s _ (by omega) (fun b e => ?_)
      rw [← e]
      exact ih (s + 1) (by omega)
  exact key S 0 (by omega)
theorem accT_congr {α : Type} {g f : Nat → α → α} {a0 : α} : ∀ n, (∀ i a, i < n → g i a = f i a) → accT g n a0 = accT f n a0 := by
  intro n
  induction n with
  | zero => intro _; rfl
  | succ n ih =>
    intro h
    simp only [accT]
    rw [ih (fun i a hi => h i a (by omega)), h n _ (by omega)]
/-- a set grows by s where c holds -/
def orS (c : Nat → Prop) [∀ s, Decidable (c s)] : Nat → Int32 → Int32 := fun s a => if c s then a ||| (1 <<< (nI s &&& 31)) else a
def inc (c : Nat → Prop) [∀ s, Decidable (c s)] : Nat → Int32 → Int32 := fun s a => if c s then a + 1 else a
abbrev kw (T : TT) (s : Nat) (f : Int32) : Prop := f_kw (nI (cpt (bas T s))) (nI (cpt (so T s 8 ||| so T s 10)) + f)
def stds (T : TT) (s : Nat) : Int32 := if kw T s 0 then 1 else if kw T s (nI (cpt (so T s 7))) then 0 else 2
set_option maxHeartbeats 2000000 in
theorem v_X8_isKept_0 {K : Sh} {x : Cn} {Q : Int32 → Cn → Prop} {b0 : Nat} {l1 : Int32} {l2 : Int32} {b0_3 : Nat} {n_b0_3 : Nat} (k_b0 : kk K b0 = some (8, 0)) (g_b0_3 : gr x b0 3 = some b0_3) (k_b0_3 : kk K b0_3 = some (20, n_b0_3)) (K0 : (l24 l1 n_b0_3) ∧ (((nI (cpt (bas (gi x b0_3) (l1 : Int32).toNatClampNeg))) ≤ 0 → (Q 0 x)) ∧ (¬ (nI (cpt (bas (gi x b0_3) (l1 : Int32).toNatClampNeg))) ≤ 0 → (((5 * ((nI (cpt (so (gi x b0_3) (l1 : Int32).toNatClampNeg 8 ||| so (gi x b0_3) (l1 : Int32).toNatClampNeg 10))) + l2)) < (4 * (nI (cpt (bas (gi x b0_3) (l1 : Int32).toNatClampNeg)))) → (Q 0 x)) ∧ (¬ (5 * ((nI (cpt (so (gi x b0_3) (l1 : Int32).toNatClampNeg 8 ||| so (gi x b0_3) (l1 : Int32).toNatClampNeg 10))) + l2)) < (4 * (nI (cpt (bas (gi x b0_3) (l1 : Int32).toNatClampNeg)))) → (Q 1 x)))))) : mSI mX8_isKept [.ref b0, .int l1, .int l2] K x Q := by
  refine s_I (by decide) (by simp [Value.category]) (Nat.le_of_ble_eq_true rfl) ?_
  show mGM mX8_isKept 0 [some (.ref b0), some (.int l1), some (.int l2), none] [] (hp K x) (PI K Q)
  refine r_aload_n (pc := 0) dX8_isKept_0 rfl ?_
  refine r_iload_n (pc := 1) dX8_isKept_1 rfl ?_
  obtain ⟨p_1, K0⟩ := K0
  refine s_VI (pc := 2) mX8_basisOf (ci := 8) (a := b0) (As := [.int l1]) dX8_isKept_2 lk_X8_71 in_X8_basisOf mo_X8_basisOf ⟨by decide, rfl⟩ ⟨by decide, by decide⟩ (Nat.le_of_ble_eq_true rfl) k_b0 (sr_X8_basisOf k_b0 g_b0_3 k_b0_3 p_1 ?_)
  refine s_SI (pc := 5) mX8_bits (As := [.int (bas (gi x b0_3) (l1 : Int32).toNatClampNeg)]) dX8_isKept_5 lk_X8_296 st_X8_bits mo_X8_bits ⟨by decide, by decide⟩ (Nat.le_of_ble_eq_true rfl) (sp_X8_bits  ?_)
  refine r_istore_n (pc := 8) dX8_isKept_8 (by decide) ?_
  refine r_iload_n (pc := 9) (L := [some (.ref b0), some (.int l1), some (.int l2), some (.int (nI (cpt (bas (gi x b0_3) (l1 : Int32).toNatClampNeg))))]) dX8_isKept_9 rfl ?_
  refine r_if_le (pc := 10) (tgt := 32) dX8_isKept_10 (by decide) (fun q => ?_) (fun q => ?_)
  · have K0 := K0.1 q
    refine r_iconst (pc := 32) (v := 0) dX8_isKept_32 (by decide) ?_
    exact s_zret rfl (by decide) dX8_isKept_33 K0
  · have K0 := K0.2 q
    refine r_iconst (pc := 13) (v := 5) dX8_isKept_13 (by decide) ?_
    refine r_aload_n (pc := 14) dX8_isKept_14 rfl ?_
    refine r_iload_n (pc := 15) dX8_isKept_15 rfl ?_
    refine s_VI (pc := 16) mX8_goodOf (ci := 8) (a := b0) (As := [.int l1]) dX8_isKept_16 lk_X8_299 in_X8_goodOf mo_X8_goodOf ⟨by decide, rfl⟩ ⟨by decide, by decide⟩ (Nat.le_of_ble_eq_true rfl) k_b0 (sr_X8_goodOf k_b0 g_b0_3 k_b0_3 p_1 ?_)
    refine r_iload_n (pc := 19) dX8_isKept_19 rfl ?_
    refine r_iadd (pc := 20) dX8_isKept_20 ?_
    refine r_imul (pc := 21) dX8_isKept_21 ?_
    refine r_iconst (pc := 22) (v := 4) dX8_isKept_22 (by decide) ?_
    refine r_iload_n (pc := 23) dX8_isKept_23 rfl ?_
    refine r_imul (pc := 24) dX8_isKept_24 ?_
    refine r_icmp_lt (pc := 25) (tgt := 32) dX8_isKept_25 (by decide) (fun q => ?_) (fun q => ?_)
    · have K0 := K0.1 q
      refine r_iconst (pc := 32) (v := 0) dX8_isKept_32 (by decide) ?_
      exact s_zret rfl (by decide) dX8_isKept_33 K0
    · have K0 := K0.2 q
      refine r_iconst (pc := 28) (v := 1) dX8_isKept_28 (by decide) ?_
      refine r_goto (pc := 29) (tgt := 33) dX8_isKept_29 (by decide) ?_
      exact s_zret rfl (by decide) dX8_isKept_33 K0
section
variable {x : Cn} {Q : Int32 → Cn → Prop}
theorem sp_X8_isKept {t s : Nat} {f : Int32} (M : MRf x t) (ht : kk KW t = some (20, 518)) (hs : s < 24) (k : Q (b2i (kw (gi x t) s f)) x) : mSI mX8_isKept [.ref 717, .int (nI s), .int f] KW x Q := by
  refine v_X8_isKept_0 km M.2.2.1 ht ⟨l24_nI hs rfl, ?_⟩
  rw [nI_clamp (show s < 2 ^ 31 by omega)]
  exact ⟨fun h => (b2i_k k).2 (fun z => Int32.not_le.mpr z.1 h), fun h => ⟨fun g => (b2i_k k).2 (fun z => Int32.not_lt.mpr z.2 g), fun g => (b2i_k k).1 ⟨Int32.not_le.mp h, Int32.not_lt.mp g⟩⟩⟩
end
set_option maxHeartbeats 2000000 in
theorem v_X8_standsOf_0 {K : Sh} {x : Cn} {Q : Int32 → Cn → Prop} {b0 : Nat} {l1 : Int32}  (k_b0 : kk K b0 = some (8, 0)) (K0 : mSI mX8_isKept [.ref b0, .int l1, .int 0] K x (fun r_2 y_1 => (r_2 = 0 → (∃ c_4 : Nat, gr y_1 b0 3 = some c_4 ∧ (∃ n_7 : Nat, kk K c_4 = some (20, n_7) ∧ ((l24 l1 n_7) ∧ (mSI mX8_isKept [.ref b0, .int l1, .int (nI (cpt (so (gi y_1 c_4) (l1 : Int32).toNatClampNeg 7)))] K y_1 (fun r_10 y_9 => (r_10 = 0 → (Q 2 y_9)) ∧ (¬ r_10 = 0 → (Q 0 y_9)))))))) ∧ (¬ r_2 = 0 → (Q 1 y_1)))) : mSI mX8_standsOf [.ref b0, .int l1] K x Q := by
  refine s_I (by decide) (by simp [Value.category]) (Nat.le_of_ble_eq_true rfl) ?_
  show mGM mX8_standsOf 0 [some (.ref b0), some (.int l1)] [] (hp K x) (PI K Q)
  refine r_aload_n (pc := 0) dX8_standsOf_0 rfl ?_
  refine r_iload_n (pc := 1) dX8_standsOf_1 rfl ?_
  refine r_iconst (pc := 2) (v := 0) dX8_standsOf_2 (by decide) ?_
  refine s_VI (pc := 3) mX8_isKept (ci := 8) (a := b0) (As := [.int l1, .int 0]) dX8_standsOf_3 lk_X8_302 in_X8_isKept mo_X8_isKept ⟨by decide, rfl⟩ ⟨by decide, by decide⟩ (Nat.le_of_ble_eq_true rfl) k_b0 (mSI_mono K0 (fun r_2 y_1 K0 => ?_))
  refine r_if_eq (pc := 6) (tgt := 13) dX8_standsOf_6 (by decide) (fun q => ?_) (fun q => ?_)
  · have K0 := K0.1 q
    refine r_aload_n (pc := 13) dX8_standsOf_13 rfl ?_
    refine r_iload_n (pc := 14) dX8_standsOf_14 rfl ?_
    refine r_aload_n (pc := 15) dX8_standsOf_15 rfl ?_
    refine r_iload_n (pc := 16) dX8_standsOf_16 rfl ?_
    refine r_bipush (pc := 17) (v := 7) dX8_standsOf_17 (by decide) ?_
    obtain ⟨c_4, g_5, K0⟩ := K0
    obtain ⟨n_7, e_6, K0⟩ := K0
    obtain ⟨p_8, K0⟩ := K0
    refine s_VI (pc := 19) mX8_one (ci := 8) (a := b0) (As := [.int l1, .int 7]) dX8_standsOf_19 lk_X8_67 in_X8_one mo_X8_one ⟨by decide, rfl⟩ ⟨by decide, by decide⟩ (Nat.le_of_ble_eq_true rfl) k_b0 (sr_X8_one k_b0 g_5 e_6 p_8 ⟨by decide, by decide⟩ ?_)
    refine s_SI (pc := 22) mX8_bits (As := [.int (so (gi y_1 c_4) (l1 : Int32).toNatClampNeg 7)]) dX8_standsOf_22 lk_X8_296 st_X8_bits mo_X8_bits ⟨by decide, by decide⟩ (Nat.le_of_ble_eq_true rfl) (sp_X8_bits  ?_)
    refine s_VI (pc := 25) mX8_isKept (ci := 8) (a := b0) (As := [.int l1, .int (nI (cpt (so (gi y_1 c_4) (l1 : Int32).toNatClampNeg 7)))]) dX8_standsOf_25 lk_X8_302 in_X8_isKept mo_X8_isKept ⟨by decide, rfl⟩ ⟨by decide, by decide⟩ (Nat.le_of_ble_eq_true rfl) k_b0 (mSI_mono K0 (fun r_10 y_9 K0 => ?_))
    refine r_if_eq (pc := 28) (tgt := 35) dX8_standsOf_28 (by decide) (fun q => ?_) (fun q => ?_)
    · have K0 := K0.1 q
      refine r_iconst (pc := 35) (v := 2) dX8_standsOf_35 (by decide) ?_
      exact s_iret rfl dX8_standsOf_36 K0
    · have K0 := K0.2 q
      refine r_iconst (pc := 31) (v := 0) dX8_standsOf_31 (by decide) ?_
      refine r_goto (pc := 32) (tgt := 36) dX8_standsOf_32 (by decide) ?_
      exact s_iret rfl dX8_standsOf_36 K0
  · have K0 := K0.2 q
    refine r_iconst (pc := 9) (v := 1) dX8_standsOf_9 (by decide) ?_
    refine r_goto (pc := 10) (tgt := 36) dX8_standsOf_10 (by decide) ?_
    exact s_iret rfl dX8_standsOf_36 K0
section
variable {x : Cn} {Q : Int32 → Cn → Prop}
theorem sp_X8_standsOf {t s : Nat} (M : MRf x t) (ht : kk KW t = some (20, 518)) (hs : s < 24) (k : Q (stds (gi x t) s) x) : mSI mX8_standsOf [.ref 717, .int (nI s)] KW x Q := by
  refine v_X8_standsOf_0 km (sp_X8_isKept M ht hs ⟨fun z => ⟨t, M.2.2.1, 518, ht, l24_nI hs rfl, ?_⟩, fun z => ?_⟩)
  · rw [nI_clamp (show s < 2 ^ 31 by omega)]
    refine sp_X8_isKept M ht hs ⟨fun z2 => ?_, fun z2 => ?_⟩
    · unfold stds at k
      rwa [if_neg ((b2i_z _).mp z), if_neg ((b2i_z _).mp z2)] at k
    · unfold stds at k
      rwa [if_neg ((b2i_z _).mp z), if_pos (b2i_nz z2)] at k
  · unfold stds at k
    rwa [if_pos (b2i_nz z)] at k
end
set_option maxHeartbeats 2000000 in
theorem v_X4_seriesOf_0 {K : Sh} {x : Cn} {Q : Int32 → Cn → Prop} {b0 : Nat} {l1 : Int32} {l2 : Int32}   (K0 : GI mX4_seriesOf 5 [some (.ref b0), some (.int l1), some (.int l2), some (.int 0), some (.int 0)] [] K x Q) : mSI mX4_seriesOf [.ref b0, .int l1, .int l2] K x Q := by
  refine s_I (by decide) (by simp [Value.category]) (Nat.le_of_ble_eq_true rfl) ?_
  show mGM mX4_seriesOf 0 [some (.ref b0), some (.int l1), some (.int l2), none, none] [] (hp K x) (PI K Q)
  refine r_iconst (pc := 0) (v := 0) dX4_seriesOf_0 (by decide) ?_
  refine r_istore_n (pc := 1) dX4_seriesOf_1 (by decide) ?_
  refine r_iconst (pc := 2) (L := [some (.ref b0), some (.int l1), some (.int l2), some (.int 0), none]) (v := 0) dX4_seriesOf_2 (by decide) ?_
  refine r_istore (pc := 3) dX4_seriesOf_3 (by decide) ?_
  exact r_le (L' := [some (.ref b0), some (.int l1), some (.int l2), some (.int 0), some (.int 0)]) ⟨rfl, ⟨rfl, ⟨rfl, ⟨rfl, ⟨rfl, trivial⟩⟩⟩⟩⟩ K0
set_option maxHeartbeats 2000000 in
theorem v_X4_seriesOf_5 {K : Sh} {x : Cn} {Q : Int32 → Cn → Prop} {b0 : Nat} {l1 : Int32} {l2 : Int32} {l3 : Int32} {l4 : Int32} {b0_7 : Nat} {n_b0_7 : Nat} (k_b0 : kk K b0 = some (4, 0)) (g_b0_7 : gr x b0 7 = some b0_7) (k_b0_7 : kk K b0_7 = some (23, n_b0_7)) (K0 : ((gi x b0 3) ≤ l4 → (Q l3 x)) ∧ (¬ (gi x b0 3) ≤ l4 → (vp_in l4 n_b0_7 ∧ (∃ c_3 : Nat, gr x b0_7 ((l4 : Int32).toNatClampNeg) = some c_3 ∧ (kk K c_3 = some (5, 0) ∧ ((¬ (gi x c_3 0 = l1 ∧ (l2 = -1 ∨ gi x c_3 1 = l2)) → (GI mX4_seriesOf 5 [some (.ref b0), some (.int l1), some (.int l2), some (.int l3), some (.int (l4 + 1))] [] K x Q)) ∧ ((gi x c_3 0 = l1 ∧ (l2 = -1 ∨ gi x c_3 1 = l2)) → (GI mX4_seriesOf 5 [some (.ref b0), some (.int l1), some (.int l2), some (.int (l3 + 1)), some (.int (l4 + 1))] [] K x Q)))))))) : GI mX4_seriesOf 5 [some (.ref b0), some (.int l1), some (.int l2), some (.int l3), some (.int l4)] [] K x Q := by
  show mGM mX4_seriesOf 5 [some (.ref b0), some (.int l1), some (.int l2), some (.int l3), some (.int l4)] [] (hp K x) (PI K Q)
  refine r_iload (pc := 5) dX4_seriesOf_5 rfl ?_
  refine r_aload_n (pc := 7) dX4_seriesOf_7 rfl ?_
  refine s_getI (pc := 8) dX4_seriesOf_8 fl_X4_21 rfl k_b0 ?_
  refine r_icmp_ge (pc := 11) (tgt := 38) dX4_seriesOf_11 (by decide) (fun q => ?_) (fun q => ?_)
  · have K0 := K0.1 q
    refine r_iload_n (pc := 38) dX4_seriesOf_38 rfl ?_
    exact s_iret rfl dX4_seriesOf_39 K0
  · have K0 := K0.2 q
    refine r_aload_n (pc := 14) dX4_seriesOf_14 rfl ?_
    refine s_getR (pc := 15) dX4_seriesOf_15 fl_X4_36 rfl k_b0 g_b0_7 ?_
    refine r_iload (pc := 18) dX4_seriesOf_18 rfl ?_
    obtain ⟨i_2, K0⟩ := K0
    obtain ⟨c_3, g_4, K0⟩ := K0
    refine s_aald (pc := 20) dX4_seriesOf_20 (by decide) rfl k_b0_7 i_2 g_4 ?_
    refine r_iload_n (pc := 21) dX4_seriesOf_21 rfl ?_
    refine r_iload_n (pc := 22) dX4_seriesOf_22 rfl ?_
    obtain ⟨e_5, K0⟩ := K0
    refine s_VI (pc := 23) mX5_isOf (ci := 5) (a := c_3) (As := [.int l1, .int l2]) dX4_seriesOf_23 lk_X4_144 in_X5_isOf mo_X5_isOf ⟨by decide, rfl⟩ ⟨by decide, by decide⟩ (Nat.le_of_ble_eq_true rfl) e_5 (sp_X5_isOf e_5 ?_)
    refine r_if_eq (pc := 26) (tgt := 32) dX4_seriesOf_26 (by decide) (fun q => ?_) (fun q => ?_)
    · have q := (b2i_z _).mp q
      have K0 := K0.1 q
      refine r_iinc (pc := 32) (v := l4 + 1) dX4_seriesOf_32 rfl rfl (by decide) ?_
      refine r_goto (pc := 35) (L := [some (.ref b0), some (.int l1), some (.int l2), some (.int l3), some (.int (l4 + 1))]) (tgt := 5) dX4_seriesOf_35 (by decide) ?_
      exact r_le (L' := [some (.ref b0), some (.int l1), some (.int l2), some (.int l3), some (.int (l4 + 1))]) ⟨rfl, ⟨rfl, ⟨rfl, ⟨rfl, ⟨rfl, trivial⟩⟩⟩⟩⟩ K0
    · have q := b2i_nz q
      have K0 := K0.2 q
      refine r_iinc (pc := 29) (v := l3 + 1) dX4_seriesOf_29 rfl rfl (by decide) ?_
      refine r_iinc (pc := 32) (L := [some (.ref b0), some (.int l1), some (.int l2), some (.int (l3 + 1)), some (.int l4)]) (v := l4 + 1) dX4_seriesOf_32 rfl rfl (by decide) ?_
      refine r_goto (pc := 35) (L := [some (.ref b0), some (.int l1), some (.int l2), some (.int (l3 + 1)), some (.int (l4 + 1))]) (tgt := 5) dX4_seriesOf_35 (by decide) ?_
      exact r_le (L' := [some (.ref b0), some (.int l1), some (.int l2), some (.int (l3 + 1)), some (.int (l4 + 1))]) ⟨rfl, ⟨rfl, ⟨rfl, ⟨rfl, ⟨rfl, trivial⟩⟩⟩⟩⟩ K0
section
variable {x : Cn} {Q : Int32 → Cn → Prop}
theorem sp_X4_seriesOf {q : Nat} {T : TT} {W C S A N : Nat} (E : SEA x q T W C S A N) {c d : Int32} (k : Q (accT (inc (fun s => so T s 0 = c ∧ (d = -1 ∨ so T s 1 = d))) S 0) x) : mSI mX4_seriesOf [.ref q, .int c, .int d] KW x Q := by
  have hn := E.nums
  have hS : S ≤ 24 := hn.2.2.2.2.2.2.1
  refine v_X4_seriesOf_0 (lp_acc (inc (fun s => so T s 0 = c ∧ (d = -1 ∨ so T s 1 = d))) (fun s a => GI mX4_seriesOf 5 [some (.ref q), some (.int c), some (.int d), some (.int a), some (.int (nI s))] [] KW x Q) S 0 ?_ (fun s a hs n1 => ?_))
  · exact v_X4_seriesOf_5 (ks0 E.1) E.2.1.2.2.1 (ks3 E.1) ⟨fun _ => k, fun z => absurd (by rw [hn.2.2.1]; exact Int32.le_refl _) z⟩
  · obtain ⟨p, e1, e2, e3, e4, -, e6⟩ := E.ser hs
    refine v_X4_seriesOf_5 (ks0 E.1) E.2.1.2.2.1 (ks3 E.1) ⟨fun z => absurd (by rw [hn.2.2.1] at z; exact z) (nI_ge hs (by omega)), fun _ => ⟨vp_in_nI (by omega) (by decide), p, by rw [nI_clamp (by omega)]; exact e1, e2, ?_⟩⟩
    rw [e3.1 0 (by decide) (by decide), e3.1 1 (by decide) (by decide), nI_1]
    exact ⟨fun z => n1 _ (if_neg z), fun z => n1 _ (if_pos z)⟩
end
set_option maxHeartbeats 2000000 in
theorem v_X8_isEntrant_0 {K : Sh} {x : Cn} {Q : Int32 → Cn → Prop} {b0 : Nat} {l1 : Int32} {l2 : Int32}   (K0 : GI mX8_isEntrant 5 [some (.ref b0), some (.int l1), some (.int l2), some (.int 0), some (.int 0)] [] K x Q) : mSI mX8_isEntrant [.ref b0, .int l1, .int l2] K x Q := by
  refine s_I (by decide) (by simp [Value.category]) (Nat.le_of_ble_eq_true rfl) ?_
  show mGM mX8_isEntrant 0 [some (.ref b0), some (.int l1), some (.int l2), none, none] [] (hp K x) (PI K Q)
  refine r_iconst (pc := 0) (v := 0) dX8_isEntrant_0 (by decide) ?_
  refine r_istore_n (pc := 1) dX8_isEntrant_1 (by decide) ?_
  refine r_iconst (pc := 2) (L := [some (.ref b0), some (.int l1), some (.int l2), some (.int 0), none]) (v := 0) dX8_isEntrant_2 (by decide) ?_
  refine r_istore (pc := 3) dX8_isEntrant_3 (by decide) ?_
  exact r_le (L' := [some (.ref b0), some (.int l1), some (.int l2), some (.int 0), some (.int 0)]) ⟨rfl, ⟨rfl, ⟨rfl, ⟨rfl, ⟨rfl, trivial⟩⟩⟩⟩⟩ K0
set_option maxHeartbeats 2000000 in
theorem v_X8_isEntrant_5 {K : Sh} {x : Cn} {Q : Int32 → Cn → Prop} {b0 : Nat} {l1 : Int32} {l2 : Int32} {l3 : Int32} {l4 : Int32} {b0_3 : Nat} {n_b0_3 : Nat} (k_b0 : kk K b0 = some (8, 0)) (g_b0_3 : gr x b0 3 = some b0_3) (k_b0_3 : kk K b0_3 = some (20, n_b0_3)) (K0 : vp_in 2 n_b0_3 ∧ (((gi x b0_3 2) ≤ l4 → ((2 ≤ l3 → (Q 0 x)) ∧ (¬ 2 ≤ l3 → (Q 1 x)))) ∧ (¬ (gi x b0_3 2) ≤ l4 → ((l24 l4 n_b0_3) ∧ ((¬ (so (gi x b0_3) (l4 : Int32).toNatClampNeg 0) = l1 → (GI mX8_isEntrant 5 [some (.ref b0), some (.int l1), some (.int l2), some (.int (l3 + 0)), some (.int (l4 + 1))] [] K x Q)) ∧ ((so (gi x b0_3) (l4 : Int32).toNatClampNeg 0) = l1 → ((¬ (so (gi x b0_3) (l4 : Int32).toNatClampNeg 1) = l2 → (GI mX8_isEntrant 5 [some (.ref b0), some (.int l1), some (.int l2), some (.int (l3 + 0)), some (.int (l4 + 1))] [] K x Q)) ∧ ((so (gi x b0_3) (l4 : Int32).toNatClampNeg 1) = l2 → (GI mX8_isEntrant 5 [some (.ref b0), some (.int l1), some (.int l2), some (.int (l3 + 1)), some (.int (l4 + 1))] [] K x Q))))))))) : GI mX8_isEntrant 5 [some (.ref b0), some (.int l1), some (.int l2), some (.int l3), some (.int l4)] [] K x Q := by
  show mGM mX8_isEntrant 5 [some (.ref b0), some (.int l1), some (.int l2), some (.int l3), some (.int l4)] [] (hp K x) (PI K Q)
  refine r_iload (pc := 5) dX8_isEntrant_5 rfl ?_
  refine r_aload_n (pc := 7) dX8_isEntrant_7 rfl ?_
  refine s_getR (pc := 8) dX8_isEntrant_8 fl_X8_16 rfl k_b0 g_b0_3 ?_
  refine r_iconst (pc := 11) (v := 2) dX8_isEntrant_11 (by decide) ?_
  obtain ⟨i_1, K0⟩ := K0
  refine s_iald (pc := 12) dX8_isEntrant_12 k_b0_3 i_1 ?_
  refine r_icmp_ge (pc := 13) (tgt := 52) dX8_isEntrant_13 (by decide) (fun q => ?_) (fun q => ?_)
  · have K0 := K0.1 q
    refine r_iload_n (pc := 52) dX8_isEntrant_52 rfl ?_
    refine r_iconst (pc := 53) (v := 2) dX8_isEntrant_53 (by decide) ?_
    refine r_icmp_ge (pc := 54) (tgt := 61) dX8_isEntrant_54 (by decide) (fun q => ?_) (fun q => ?_)
    · have K0 := K0.1 q
      refine r_iconst (pc := 61) (v := 0) dX8_isEntrant_61 (by decide) ?_
      exact s_zret rfl (by decide) dX8_isEntrant_62 K0
    · have K0 := K0.2 q
      refine r_iconst (pc := 57) (v := 1) dX8_isEntrant_57 (by decide) ?_
      refine r_goto (pc := 58) (tgt := 62) dX8_isEntrant_58 (by decide) ?_
      exact s_zret rfl (by decide) dX8_isEntrant_62 K0
  · have K0 := K0.2 q
    refine r_iload_n (pc := 16) dX8_isEntrant_16 rfl ?_
    refine r_aload_n (pc := 17) dX8_isEntrant_17 rfl ?_
    refine r_iload (pc := 18) dX8_isEntrant_18 rfl ?_
    refine r_iconst (pc := 20) (v := 0) dX8_isEntrant_20 (by decide) ?_
    obtain ⟨p_4, K0⟩ := K0
    refine s_VI (pc := 21) mX8_one (ci := 8) (a := b0) (As := [.int l4, .int 0]) dX8_isEntrant_21 lk_X8_67 in_X8_one mo_X8_one ⟨by decide, rfl⟩ ⟨by decide, by decide⟩ (Nat.le_of_ble_eq_true rfl) k_b0 (sr_X8_one k_b0 g_b0_3 k_b0_3 p_4 ⟨by decide, by decide⟩ ?_)
    refine r_iload_n (pc := 24) dX8_isEntrant_24 rfl ?_
    refine r_icmp_ne (pc := 25) (tgt := 43) dX8_isEntrant_25 (by decide) (fun q => ?_) (fun q => ?_)
    · have K0 := K0.1 q
      refine r_iconst (pc := 43) (v := 0) dX8_isEntrant_43 (by decide) ?_
      refine r_iadd (pc := 44) dX8_isEntrant_44 ?_
      refine r_istore_n (pc := 45) dX8_isEntrant_45 (by decide) ?_
      refine r_iinc (pc := 46) (L := [some (.ref b0), some (.int l1), some (.int l2), some (.int (l3 + 0)), some (.int l4)]) (v := l4 + 1) dX8_isEntrant_46 rfl rfl (by decide) ?_
      refine r_goto (pc := 49) (L := [some (.ref b0), some (.int l1), some (.int l2), some (.int (l3 + 0)), some (.int (l4 + 1))]) (tgt := 5) dX8_isEntrant_49 (by decide) ?_
      exact r_le (L' := [some (.ref b0), some (.int l1), some (.int l2), some (.int (l3 + 0)), some (.int (l4 + 1))]) ⟨rfl, ⟨rfl, ⟨rfl, ⟨rfl, ⟨rfl, trivial⟩⟩⟩⟩⟩ K0
    · have K0 := K0.2 q
      refine r_aload_n (pc := 28) dX8_isEntrant_28 rfl ?_
      refine r_iload (pc := 29) dX8_isEntrant_29 rfl ?_
      refine r_iconst (pc := 31) (v := 1) dX8_isEntrant_31 (by decide) ?_
      refine s_VI (pc := 32) mX8_one (ci := 8) (a := b0) (As := [.int l4, .int 1]) dX8_isEntrant_32 lk_X8_67 in_X8_one mo_X8_one ⟨by decide, rfl⟩ ⟨by decide, by decide⟩ (Nat.le_of_ble_eq_true rfl) k_b0 (sr_X8_one k_b0 g_b0_3 k_b0_3 p_4 ⟨by decide, by decide⟩ ?_)
      refine r_iload_n (pc := 35) dX8_isEntrant_35 rfl ?_
      refine r_icmp_ne (pc := 36) (tgt := 43) dX8_isEntrant_36 (by decide) (fun q => ?_) (fun q => ?_)
      · have K0 := K0.1 q
        refine r_iconst (pc := 43) (v := 0) dX8_isEntrant_43 (by decide) ?_
        refine r_iadd (pc := 44) dX8_isEntrant_44 ?_
        refine r_istore_n (pc := 45) dX8_isEntrant_45 (by decide) ?_
        refine r_iinc (pc := 46) (L := [some (.ref b0), some (.int l1), some (.int l2), some (.int (l3 + 0)), some (.int l4)]) (v := l4 + 1) dX8_isEntrant_46 rfl rfl (by decide) ?_
        refine r_goto (pc := 49) (L := [some (.ref b0), some (.int l1), some (.int l2), some (.int (l3 + 0)), some (.int (l4 + 1))]) (tgt := 5) dX8_isEntrant_49 (by decide) ?_
        exact r_le (L' := [some (.ref b0), some (.int l1), some (.int l2), some (.int (l3 + 0)), some (.int (l4 + 1))]) ⟨rfl, ⟨rfl, ⟨rfl, ⟨rfl, ⟨rfl, trivial⟩⟩⟩⟩⟩ K0
      · have K0 := K0.2 q
        refine r_iconst (pc := 39) (v := 1) dX8_isEntrant_39 (by decide) ?_
        refine r_goto (pc := 40) (tgt := 44) dX8_isEntrant_40 (by decide) ?_
        refine r_iadd (pc := 44) dX8_isEntrant_44 ?_
        refine r_istore_n (pc := 45) dX8_isEntrant_45 (by decide) ?_
        refine r_iinc (pc := 46) (L := [some (.ref b0), some (.int l1), some (.int l2), some (.int (l3 + 1)), some (.int l4)]) (v := l4 + 1) dX8_isEntrant_46 rfl rfl (by decide) ?_
        refine r_goto (pc := 49) (L := [some (.ref b0), some (.int l1), some (.int l2), some (.int (l3 + 1)), some (.int (l4 + 1))]) (tgt := 5) dX8_isEntrant_49 (by decide) ?_
        exact r_le (L' := [some (.ref b0), some (.int l1), some (.int l2), some (.int (l3 + 1)), some (.int (l4 + 1))]) ⟨rfl, ⟨rfl, ⟨rfl, ⟨rfl, ⟨rfl, trivial⟩⟩⟩⟩⟩ K0
section
variable {x : Cn} {Q : Int32 → Cn → Prop}
theorem sp_X8_isEntrant {t S : Nat} (M : MRf x t) (ht : kk KW t = some (20, 518)) (h2 : gi x t 2 = nI S) (hS : S ≤ 24) {c d : Int32} (hd : ¬ d = -1) (k : Q (b2i (accT (inc (fun s => so (gi x t) s 0 = c ∧ (d = -1 ∨ so (gi x t) s 1 = d))) S 0 < 2)) x) : mSI mX8_isEntrant [.ref 717, .int c, .int d] KW x Q := by
  refine v_X8_isEntrant_0 (lp_acc (inc (fun s => so (gi x t) s 0 = c ∧ (d = -1 ∨ so (gi x t) s 1 = d))) (fun s a => GI mX8_isEntrant 5 [some (.ref 717), some (.int c), some (.int d), some (.int a), some (.int (nI s))] [] KW x Q) S 0 ?_ (fun s a hs n1 => ?_))
  · exact v_X8_isEntrant_5 km M.2.2.1 ht ⟨v0 (k := 2) (by decide) rfl rfl, fun _ => ⟨fun z => (b2i_k k).2 (Int32.not_lt.mpr z), fun z => (b2i_k k).1 (Int32.not_le.mp z)⟩, fun z => absurd (by rw [h2]; exact Int32.le_refl _) z⟩
  · refine v_X8_isEntrant_5 km M.2.2.1 ht ⟨v0 (k := 2) (by decide) rfl rfl, fun z => absurd (by rw [h2] at z; exact z) (nI_ge hs (by omega)), fun _ => ⟨l24_nI (by omega) rfl, ?_⟩⟩
    rw [nI_clamp (show s < 2 ^ 31 by omega), nI_1, Int32.add_zero]
    exact ⟨fun z => n1 _ (if_neg (fun g => z g.1)), fun z1 => ⟨fun z => n1 _ (if_neg (fun g => g.2.elim hd z)), fun z => n1 _ (if_pos ⟨z1, Or.inr z⟩)⟩⟩
theorem SER.safe {x : Cn} {p : Nat} {T : TT} {C W s : Nat} (h : SER x p T s) (w : Wse T C W s) : f_safe x p ↔ kw T s 0 := by
  unfold f_safe kw
  rw [h.held w, h.1 8 (by decide) (by decide), h.1 10 (by decide) (by decide), Int32.add_zero]
theorem SER.lost {x : Cn} {p : Nat} {T : TT} {C W s : Nat} (h : SER x p T s) (w : Wse T C W s) : f_lost x p ↔ ¬ kw T s (nI (cpt (so T s 7))) := by
  unfold f_lost kw
  rw [h.held w, h.opn w, h.1 8 (by decide) (by decide), h.1 10 (by decide) (by decide)]
theorem kw_mono {T : TT} {s : Nat} (h : kw T s 0) : kw T s (nI (cpt (so T s 7))) := by
  obtain ⟨h1, h2⟩ := h
  refine ⟨h1, ?_⟩
  have c1 := cpt_le (bas T s)
  have c2 := cpt_le (so T s 8 ||| so T s 10)
  have c3 := cpt_le (so T s 7)
  rw [Int32.add_zero] at h2
  rw [show (4 : Int32) = nI 4 by decide, show (5 : Int32) = nI 5 by decide, pk_mul, pk_mul, nI_leI (by omega) (by omega)] at h2
  rw [nI_add, show (4 : Int32) = nI 4 by decide, show (5 : Int32) = nI 5 by decide, pk_mul, pk_mul, nI_leI (by omega) (by omega)]
  omega
end
set_option maxHeartbeats 2000000 in
theorem v_X7_stands_0 {K : Sh} {x : Cn} {Q : Int32 → Cn → Prop} {b0 : Nat} {l1 : Int32} {b0_2 : Nat} {b0_2_7 : Nat} {n_b0_2_7 : Nat} (k_b0 : kk K b0 = some (7, 0)) (g_b0_2 : gr x b0 2 = some b0_2) (k_b0_2 : kk K b0_2 = some (4, 0)) (g_b0_2_7 : gr x b0_2 7 = some b0_2_7) (k_b0_2_7 : kk K b0_2_7 = some (23, n_b0_2_7)) (K0 : ((0 ≤ l1 ∧ l1 < gi x b0_2 3) → (vp_in l1 n_b0_2_7 ∧ (∃ c_3 : Nat, gr x b0_2_7 ((l1 : Int32).toNatClampNeg) = some c_3 ∧ (kk K c_3 = some (5, 0) ∧ ((¬ (f_safe x c_3) → ((¬ (f_lost x c_3) → (Q 0 x)) ∧ ((f_lost x c_3) → (Q 2 x)))) ∧ ((f_safe x c_3) → (Q 1 x))))))) ∧ (¬ (0 ≤ l1 ∧ l1 < gi x b0_2 3) → (Q (-2) x))) : mSI mX7_stands [.ref b0, .int l1] K x Q := by
  refine s_I (by decide) (by simp [Value.category]) (Nat.le_of_ble_eq_true rfl) ?_
  show mGM mX7_stands 0 [some (.ref b0), some (.int l1), none] [] (hp K x) (PI K Q)
  refine r_aload_n (pc := 0) dX7_stands_0 rfl ?_
  refine r_iload_n (pc := 1) dX7_stands_1 rfl ?_
  refine s_VI (pc := 2) mX7_isSeries (ci := 7) (a := b0) (As := [.int l1]) dX7_stands_2 lk_X7_132 in_X7_isSeries mo_X7_isSeries ⟨by decide, rfl⟩ ⟨by decide, by decide⟩ (Nat.le_of_ble_eq_true rfl) k_b0 (sp_X7_isSeries k_b0 g_b0_2 k_b0_2 ?_)
  refine r_if_ne (pc := 5) (tgt := 11) dX7_stands_5 (by decide) (fun q => ?_) (fun q => ?_)
  · have q := b2i_nz q
    have K0 := K0.1 q
    refine r_aload_n (pc := 11) dX7_stands_11 rfl ?_
    refine s_getR (pc := 12) dX7_stands_12 fl_X7_20 rfl k_b0 g_b0_2 ?_
    refine s_getR (pc := 15) dX7_stands_15 fl_X7_135 rfl k_b0_2 g_b0_2_7 ?_
    refine r_iload_n (pc := 18) dX7_stands_18 rfl ?_
    obtain ⟨i_2, K0⟩ := K0
    obtain ⟨c_3, g_4, K0⟩ := K0
    refine s_aald (pc := 19) dX7_stands_19 (by decide) rfl k_b0_2_7 i_2 g_4 ?_
    refine r_astore_n (pc := 20) dX7_stands_20 (by decide) ?_
    refine r_aload_n (pc := 21) (L := [some (.ref b0), some (.int l1), some (.ref c_3)]) dX7_stands_21 rfl ?_
    obtain ⟨e_5, K0⟩ := K0
    refine s_VI (pc := 22) mX5_isSafe (ci := 5) (a := c_3) (As := []) dX7_stands_22 lk_X7_236 in_X5_isSafe mo_X5_isSafe ⟨by decide, rfl⟩ ⟨by decide, by decide⟩ (Nat.le_of_ble_eq_true rfl) e_5 (sp_X5_isSafe e_5 ?_)
    refine r_if_eq (pc := 25) (tgt := 30) dX7_stands_25 (by decide) (fun q => ?_) (fun q => ?_)
    · have q := (b2i_z _).mp q
      have K0 := K0.1 q
      refine r_aload_n (pc := 30) dX7_stands_30 rfl ?_
      refine s_VI (pc := 31) mX5_isLost (ci := 5) (a := c_3) (As := []) dX7_stands_31 lk_X7_239 in_X5_isLost mo_X5_isLost ⟨by decide, rfl⟩ ⟨by decide, by decide⟩ (Nat.le_of_ble_eq_true rfl) e_5 (sp_X5_isLost e_5 ?_)
      refine r_if_eq (pc := 34) (tgt := 41) dX7_stands_34 (by decide) (fun q => ?_) (fun q => ?_)
      · have q := (b2i_z _).mp q
        have K0 := K0.1 q
        refine r_iconst (pc := 41) (v := 0) dX7_stands_41 (by decide) ?_
        exact s_iret rfl dX7_stands_42 K0
      · have q := b2i_nz q
        have K0 := K0.2 q
        refine r_iconst (pc := 37) (v := 2) dX7_stands_37 (by decide) ?_
        refine r_goto (pc := 38) (tgt := 42) dX7_stands_38 (by decide) ?_
        exact s_iret rfl dX7_stands_42 K0
    · have q := b2i_nz q
      have K0 := K0.2 q
      refine r_iconst (pc := 28) (v := 1) dX7_stands_28 (by decide) ?_
      exact s_iret rfl dX7_stands_29 K0
  · have q := (b2i_z _).mp q
    have K0 := K0.2 q
    refine r_bipush (pc := 8) (v := (-2)) dX7_stands_8 (by decide) ?_
    exact s_iret rfl dX7_stands_10 K0
set_option maxHeartbeats 2000000 in
theorem v_X8_stands_0 {K : Sh} {x : Cn} {Q : Int32 → Cn → Prop} {b0 : Nat} {l1 : Int32} {b0_1 : Nat} {n_b0_1 : Nat} (k_b0 : kk K b0 = some (8, 0)) (g_b0_1 : gr x b0 1 = some b0_1) (k_b0_1 : kk K b0_1 = some (20, n_b0_1)) (K0 : vp_in 2 n_b0_1 ∧ ((¬ (0 ≤ l1 ∧ l1 ≤ gi x b0_1 2 - 1) → (Q (-2) x)) ∧ ((0 ≤ l1 ∧ l1 ≤ gi x b0_1 2 - 1) → (mSI mX8_standsOf [.ref b0, .int l1] K x (fun r_4 y_3 => Q r_4 y_3))))) : mSI mX8_stands [.ref b0, .int l1] K x Q := by
  refine s_I (by decide) (by simp [Value.category]) (Nat.le_of_ble_eq_true rfl) ?_
  show mGM mX8_stands 0 [some (.ref b0), some (.int l1)] [] (hp K x) (PI K Q)
  refine r_aload_n (pc := 0) dX8_stands_0 rfl ?_
  refine r_iload_n (pc := 1) dX8_stands_1 rfl ?_
  obtain ⟨i_1, K0⟩ := K0
  refine s_VI (pc := 2) mX8_isSeries (ci := 8) (a := b0) (As := [.int l1]) dX8_stands_2 lk_X8_273 in_X8_isSeries mo_X8_isSeries ⟨by decide, rfl⟩ ⟨by decide, by decide⟩ (Nat.le_of_ble_eq_true rfl) k_b0 (sp_X8_isSeries k_b0 g_b0_1 k_b0_1 i_1 ?_)
  refine r_if_eq (pc := 5) (tgt := 16) dX8_stands_5 (by decide) (fun q => ?_) (fun q => ?_)
  · have q := (b2i_z _).mp q
    have K0 := K0.1 q
    refine r_bipush (pc := 16) (v := (-2)) dX8_stands_16 (by decide) ?_
    exact s_iret rfl dX8_stands_18 K0
  · have q := b2i_nz q
    have K0 := K0.2 q
    refine r_aload_n (pc := 8) dX8_stands_8 rfl ?_
    refine r_iload_n (pc := 9) dX8_stands_9 rfl ?_
    refine s_VI (pc := 10) mX8_standsOf (ci := 8) (a := b0) (As := [.int l1]) dX8_stands_10 lk_X8_305 in_X8_standsOf mo_X8_standsOf ⟨by decide, rfl⟩ ⟨by decide, by decide⟩ (Nat.le_of_ble_eq_true rfl) k_b0 (mSI_mono K0 (fun r_4 y_3 K0 => ?_))
    refine r_goto (pc := 13) (tgt := 18) dX8_stands_13 (by decide) ?_
    exact s_iret rfl dX8_stands_18 K0
set_option maxHeartbeats 2000000 in
theorem v_X7_kept_0 {K : Sh} {x : Cn} {Q : Int32 → Cn → Prop} {b0 : Nat} {l1 : Int32} {b0_2 : Nat} (k_b0 : kk K b0 = some (7, 0)) (g_b0_2 : gr x b0 2 = some b0_2) (k_b0_2 : kk K b0_2 = some (4, 0)) (K0 : (¬ (0 < gi x b0_2 0) → (Q (-2) x)) ∧ ((0 < gi x b0_2 0) → (((0 ≤ l1 ∧ l1 ≤ 1) → (GI mX7_kept 23 [some (.ref b0), some (.int l1), some (.int 0), some (.int 0), none] [] K x Q)) ∧ (¬ (0 ≤ l1 ∧ l1 ≤ 1) → (Q (-2) x))))) : mSI mX7_kept [.ref b0, .int l1] K x Q := by
  refine s_I (by decide) (by simp [Value.category]) (Nat.le_of_ble_eq_true rfl) ?_
  show mGM mX7_kept 0 [some (.ref b0), some (.int l1), none, none, none] [] (hp K x) (PI K Q)
  refine r_aload_n (pc := 0) dX7_kept_0 rfl ?_
  refine s_VI (pc := 1) mX7_hasText (ci := 7) (a := b0) (As := []) dX7_kept_1 lk_X7_121 in_X7_hasText mo_X7_hasText ⟨by decide, rfl⟩ ⟨by decide, by decide⟩ (Nat.le_of_ble_eq_true rfl) k_b0 (sp_X7_hasText k_b0 g_b0_2 k_b0_2 ?_)
  refine r_if_eq (pc := 4) (tgt := 16) dX7_kept_4 (by decide) (fun q => ?_) (fun q => ?_)
  · have q := (b2i_z _).mp q
    have K0 := K0.1 q
    refine r_bipush (pc := 16) (v := (-2)) dX7_kept_16 (by decide) ?_
    exact s_iret rfl dX7_kept_18 K0
  · have q := b2i_nz q
    have K0 := K0.2 q
    refine r_iload_n (pc := 7) dX7_kept_7 rfl ?_
    refine r_iconst (pc := 8) (v := 0) dX7_kept_8 (by decide) ?_
    refine r_iconst (pc := 9) (v := 1) dX7_kept_9 (by decide) ?_
    refine s_SI (pc := 10) mX7_isWithin (As := [.int l1, .int 0, .int 1]) dX7_kept_10 lk_X7_113 st_X7_isWithin mo_X7_isWithin ⟨by decide, by decide⟩ (Nat.le_of_ble_eq_true rfl) (sp_X7_isWithin  ?_)
    refine r_if_ne (pc := 13) (tgt := 19) dX7_kept_13 (by decide) (fun q => ?_) (fun q => ?_)
    · have q := b2i_nz q
      have K0 := K0.1 q
      refine r_iconst (pc := 19) (v := 0) dX7_kept_19 (by decide) ?_
      refine r_istore_n (pc := 20) dX7_kept_20 (by decide) ?_
      refine r_iconst (pc := 21) (L := [some (.ref b0), some (.int l1), some (.int 0), none, none]) (v := 0) dX7_kept_21 (by decide) ?_
      refine r_istore_n (pc := 22) dX7_kept_22 (by decide) ?_
      exact r_le (L' := [some (.ref b0), some (.int l1), some (.int 0), some (.int 0), none]) ⟨rfl, ⟨rfl, ⟨rfl, ⟨rfl, trivial⟩⟩⟩⟩ K0
    · have q := (b2i_z _).mp q
      have K0 := K0.2 q
      refine r_bipush (pc := 16) (v := (-2)) dX7_kept_16 (by decide) ?_
      exact s_iret rfl dX7_kept_18 K0
set_option maxHeartbeats 2000000 in
theorem v_X7_kept_23 {K : Sh} {x : Cn} {Q : Int32 → Cn → Prop} {b0 : Nat} {l1 : Int32} {l2 : Int32} {l3 : Int32} {b0_2 : Nat} {b0_2_7 : Nat} {n_b0_2_7 : Nat} (k_b0 : kk K b0 = some (7, 0)) (g_b0_2 : gr x b0 2 = some b0_2) (k_b0_2 : kk K b0_2 = some (4, 0)) (g_b0_2_7 : gr x b0_2 7 = some b0_2_7) (k_b0_2_7 : kk K b0_2_7 = some (23, n_b0_2_7)) (K0 : ((gi x b0_2 3) ≤ l3 → (Q l2 x)) ∧ (¬ (gi x b0_2 3) ≤ l3 → (vp_in l3 n_b0_2_7 ∧ (∃ c_3 : Nat, gr x b0_2_7 ((l3 : Int32).toNatClampNeg) = some c_3 ∧ ((¬ l1 = 0 → (kk K c_3 = some (5, 0) ∧ ((¬ (f_lost x c_3) → (GI mX7_kept 23 [some (.ref b0), some (.int l1), some (.int l2), some (.int (l3 + 1)), none] [] K x Q)) ∧ ((f_lost x c_3) → (GI mX7_kept 23 [some (.ref b0), some (.int l1), some (.int (l2 ||| (1 <<< (l3 &&& 31)))), some (.int (l3 + 1)), none] [] K x Q))))) ∧ (l1 = 0 → (kk K c_3 = some (5, 0) ∧ ((¬ (f_safe x c_3) → (GI mX7_kept 23 [some (.ref b0), some (.int l1), some (.int l2), some (.int (l3 + 1)), none] [] K x Q)) ∧ ((f_safe x c_3) → (GI mX7_kept 23 [some (.ref b0), some (.int l1), some (.int (l2 ||| (1 <<< (l3 &&& 31)))), some (.int (l3 + 1)), none] [] K x Q)))))))))) : GI mX7_kept 23 [some (.ref b0), some (.int l1), some (.int l2), some (.int l3), none] [] K x Q := by
  show mGM mX7_kept 23 [some (.ref b0), some (.int l1), some (.int l2), some (.int l3), none] [] (hp K x) (PI K Q)
  refine r_iload_n (pc := 23) dX7_kept_23 rfl ?_
  refine r_aload_n (pc := 24) dX7_kept_24 rfl ?_
  refine s_getR (pc := 25) dX7_kept_25 fl_X7_20 rfl k_b0 g_b0_2 ?_
  refine s_getI (pc := 28) dX7_kept_28 fl_X7_97 rfl k_b0_2 ?_
  refine r_icmp_ge (pc := 31) (tgt := 80) dX7_kept_31 (by decide) (fun q => ?_) (fun q => ?_)
  · have K0 := K0.1 q
    refine r_iload_n (pc := 80) dX7_kept_80 rfl ?_
    exact s_iret rfl dX7_kept_81 K0
  · have K0 := K0.2 q
    refine r_aload_n (pc := 34) dX7_kept_34 rfl ?_
    refine s_getR (pc := 35) dX7_kept_35 fl_X7_20 rfl k_b0 g_b0_2 ?_
    refine s_getR (pc := 38) dX7_kept_38 fl_X7_135 rfl k_b0_2 g_b0_2_7 ?_
    refine r_iload_n (pc := 41) dX7_kept_41 rfl ?_
    obtain ⟨i_2, K0⟩ := K0
    obtain ⟨c_3, g_4, K0⟩ := K0
    refine s_aald (pc := 42) dX7_kept_42 (by decide) rfl k_b0_2_7 i_2 g_4 ?_
    refine r_astore (pc := 43) dX7_kept_43 (by decide) ?_
    refine r_iload_n (pc := 45) (L := [some (.ref b0), some (.int l1), some (.int l2), some (.int l3), some (.ref c_3)]) dX7_kept_45 rfl ?_
    refine r_if_ne (pc := 46) (tgt := 60) dX7_kept_46 (by decide) (fun q => ?_) (fun q => ?_)
    · have K0 := K0.1 q
      refine r_aload (pc := 60) dX7_kept_60 rfl ?_
      obtain ⟨e_6, K0⟩ := K0
      refine s_VI (pc := 62) mX5_isLost (ci := 5) (a := c_3) (As := []) dX7_kept_62 lk_X7_239 in_X5_isLost mo_X5_isLost ⟨by decide, rfl⟩ ⟨by decide, by decide⟩ (Nat.le_of_ble_eq_true rfl) e_6 (sp_X5_isLost e_6 ?_)
      refine r_if_eq (pc := 65) (tgt := 74) dX7_kept_65 (by decide) (fun q => ?_) (fun q => ?_)
      · have q := (b2i_z _).mp q
        have K0 := K0.1 q
        refine r_iinc (pc := 74) (v := l3 + 1) dX7_kept_74 rfl rfl (by decide) ?_
        refine r_goto (pc := 77) (L := [some (.ref b0), some (.int l1), some (.int l2), some (.int (l3 + 1)), some (.ref c_3)]) (tgt := 23) dX7_kept_77 (by decide) ?_
        exact r_le (L' := [some (.ref b0), some (.int l1), some (.int l2), some (.int (l3 + 1)), none]) ⟨rfl, ⟨rfl, ⟨rfl, ⟨rfl, trivial⟩⟩⟩⟩ K0
      · have q := b2i_nz q
        have K0 := K0.2 q
        refine r_iload_n (pc := 68) dX7_kept_68 rfl ?_
        refine r_iconst (pc := 69) (v := 1) dX7_kept_69 (by decide) ?_
        refine r_iload_n (pc := 70) dX7_kept_70 rfl ?_
        refine r_ishl (pc := 71) dX7_kept_71 ?_
        refine r_ior (pc := 72) dX7_kept_72 ?_
        refine r_istore_n (pc := 73) dX7_kept_73 (by decide) ?_
        refine r_iinc (pc := 74) (L := [some (.ref b0), some (.int l1), some (.int (l2 ||| (1 <<< (l3 &&& 31)))), some (.int l3), some (.ref c_3)]) (v := l3 + 1) dX7_kept_74 rfl rfl (by decide) ?_
        refine r_goto (pc := 77) (L := [some (.ref b0), some (.int l1), some (.int (l2 ||| (1 <<< (l3 &&& 31)))), some (.int (l3 + 1)), some (.ref c_3)]) (tgt := 23) dX7_kept_77 (by decide) ?_
        exact r_le (L' := [some (.ref b0), some (.int l1), some (.int (l2 ||| (1 <<< (l3 &&& 31)))), some (.int (l3 + 1)), none]) ⟨rfl, ⟨rfl, ⟨rfl, ⟨rfl, trivial⟩⟩⟩⟩ K0
    · have K0 := K0.2 q
      refine r_aload (pc := 49) dX7_kept_49 rfl ?_
      obtain ⟨e_8, K0⟩ := K0
      refine s_VI (pc := 51) mX5_isSafe (ci := 5) (a := c_3) (As := []) dX7_kept_51 lk_X7_236 in_X5_isSafe mo_X5_isSafe ⟨by decide, rfl⟩ ⟨by decide, by decide⟩ (Nat.le_of_ble_eq_true rfl) e_8 (sp_X5_isSafe e_8 ?_)
      refine r_if_eq (pc := 54) (tgt := 74) dX7_kept_54 (by decide) (fun q => ?_) (fun q => ?_)
      · have q := (b2i_z _).mp q
        have K0 := K0.1 q
        refine r_iinc (pc := 74) (v := l3 + 1) dX7_kept_74 rfl rfl (by decide) ?_
        refine r_goto (pc := 77) (L := [some (.ref b0), some (.int l1), some (.int l2), some (.int (l3 + 1)), some (.ref c_3)]) (tgt := 23) dX7_kept_77 (by decide) ?_
        exact r_le (L' := [some (.ref b0), some (.int l1), some (.int l2), some (.int (l3 + 1)), none]) ⟨rfl, ⟨rfl, ⟨rfl, ⟨rfl, trivial⟩⟩⟩⟩ K0
      · have q := b2i_nz q
        have K0 := K0.2 q
        refine r_goto (pc := 57) (tgt := 68) dX7_kept_57 (by decide) ?_
        refine r_iload_n (pc := 68) dX7_kept_68 rfl ?_
        refine r_iconst (pc := 69) (v := 1) dX7_kept_69 (by decide) ?_
        refine r_iload_n (pc := 70) dX7_kept_70 rfl ?_
        refine r_ishl (pc := 71) dX7_kept_71 ?_
        refine r_ior (pc := 72) dX7_kept_72 ?_
        refine r_istore_n (pc := 73) dX7_kept_73 (by decide) ?_
        refine r_iinc (pc := 74) (L := [some (.ref b0), some (.int l1), some (.int (l2 ||| (1 <<< (l3 &&& 31)))), some (.int l3), some (.ref c_3)]) (v := l3 + 1) dX7_kept_74 rfl rfl (by decide) ?_
        refine r_goto (pc := 77) (L := [some (.ref b0), some (.int l1), some (.int (l2 ||| (1 <<< (l3 &&& 31)))), some (.int (l3 + 1)), some (.ref c_3)]) (tgt := 23) dX7_kept_77 (by decide) ?_
        exact r_le (L' := [some (.ref b0), some (.int l1), some (.int (l2 ||| (1 <<< (l3 &&& 31)))), some (.int (l3 + 1)), none]) ⟨rfl, ⟨rfl, ⟨rfl, ⟨rfl, trivial⟩⟩⟩⟩ K0
set_option maxHeartbeats 2000000 in
theorem v_X8_kept_0 {K : Sh} {x : Cn} {Q : Int32 → Cn → Prop} {b0 : Nat} {l1 : Int32} {b0_1 : Nat} {n_b0_1 : Nat} (k_b0 : kk K b0 = some (8, 0)) (g_b0_1 : gr x b0 1 = some b0_1) (k_b0_1 : kk K b0_1 = some (20, n_b0_1)) (K0 : vp_in 0 n_b0_1 ∧ ((¬ (0 < gi x b0_1 0) → (Q (-2) x)) ∧ ((0 < gi x b0_1 0) → (((0 ≤ l1 ∧ l1 ≤ 1) → (GI mX8_kept 24 [some (.ref b0), some (.int l1), some (.int 0), some (.int 0)] [] K x Q)) ∧ (¬ (0 ≤ l1 ∧ l1 ≤ 1) → (Q (-2) x)))))) : mSI mX8_kept [.ref b0, .int l1] K x Q := by
  refine s_I (by decide) (by simp [Value.category]) (Nat.le_of_ble_eq_true rfl) ?_
  show mGM mX8_kept 0 [some (.ref b0), some (.int l1), none, none] [] (hp K x) (PI K Q)
  refine r_aload_n (pc := 0) dX8_kept_0 rfl ?_
  obtain ⟨i_1, K0⟩ := K0
  refine s_VI (pc := 1) mX8_isThere (ci := 8) (a := b0) (As := []) dX8_kept_1 lk_X8_49 in_X8_isThere mo_X8_isThere ⟨by decide, rfl⟩ ⟨by decide, by decide⟩ (Nat.le_of_ble_eq_true rfl) k_b0 (sp_X8_isThere k_b0 g_b0_1 k_b0_1 i_1 ?_)
  refine r_if_eq (pc := 4) (tgt := 17) dX8_kept_4 (by decide) (fun q => ?_) (fun q => ?_)
  · have q := (b2i_z _).mp q
    have K0 := K0.1 q
    refine r_bipush (pc := 17) (v := (-2)) dX8_kept_17 (by decide) ?_
    exact s_iret rfl dX8_kept_19 K0
  · have q := b2i_nz q
    have K0 := K0.2 q
    refine r_iload_n (pc := 7) dX8_kept_7 rfl ?_
    refine r_i2l (pc := 8) dX8_kept_8 ?_
    refine r_lconst (pc := 9) (v := 0) dX8_kept_9 (by decide) ?_
    refine r_lconst (pc := 10) (v := 1) dX8_kept_10 (by decide) ?_
    refine s_SI (pc := 11) mX8_in (As := [.long ((l1 : Int32).toInt64), .long 0, .long 1]) dX8_kept_11 lk_X8_45 st_X8_in mo_X8_in ⟨by decide, by decide⟩ (Nat.le_of_ble_eq_true rfl) (sq_X8_in (v := l1) (lo := 0) (hi := 1) rfl (by decide) (by decide) ?_)
    refine r_if_ne (pc := 14) (tgt := 20) dX8_kept_14 (by decide) (fun q => ?_) (fun q => ?_)
    · have q := b2i_nz q
      have K0 := K0.1 q
      refine r_iconst (pc := 20) (v := 0) dX8_kept_20 (by decide) ?_
      refine r_istore_n (pc := 21) dX8_kept_21 (by decide) ?_
      refine r_iconst (pc := 22) (L := [some (.ref b0), some (.int l1), some (.int 0), none]) (v := 0) dX8_kept_22 (by decide) ?_
      refine r_istore_n (pc := 23) dX8_kept_23 (by decide) ?_
      exact r_le (L' := [some (.ref b0), some (.int l1), some (.int 0), some (.int 0)]) ⟨rfl, ⟨rfl, ⟨rfl, ⟨rfl, trivial⟩⟩⟩⟩ K0
    · have q := (b2i_z _).mp q
      have K0 := K0.2 q
      refine r_bipush (pc := 17) (v := (-2)) dX8_kept_17 (by decide) ?_
      exact s_iret rfl dX8_kept_19 K0
set_option maxHeartbeats 2000000 in
theorem v_X8_kept_24 {K : Sh} {x : Cn} {Q : Int32 → Cn → Prop} {b0 : Nat} {l1 : Int32} {l2 : Int32} {l3 : Int32} {b0_1 : Nat} {n_b0_1 : Nat} (k_b0 : kk K b0 = some (8, 0)) (g_b0_1 : gr x b0 1 = some b0_1) (k_b0_1 : kk K b0_1 = some (20, n_b0_1)) (K0 : vp_in 2 n_b0_1 ∧ (((gi x b0_1 2) ≤ l3 → (Q l2 x)) ∧ (¬ (gi x b0_1 2) ≤ l3 → (mSI mX8_standsOf [.ref b0, .int l3] K x (fun r_4 y_3 => (¬ r_4 = (l1 + 1) → (GI mX8_kept 24 [some (.ref b0), some (.int l1), some (.int (l2 ||| 0)), some (.int (l3 + 1))] [] K y_3 Q)) ∧ (r_4 = (l1 + 1) → (GI mX8_kept 24 [some (.ref b0), some (.int l1), some (.int (l2 ||| (1 <<< (l3 &&& 31)))), some (.int (l3 + 1))] [] K y_3 Q))))))) : GI mX8_kept 24 [some (.ref b0), some (.int l1), some (.int l2), some (.int l3)] [] K x Q := by
  show mGM mX8_kept 24 [some (.ref b0), some (.int l1), some (.int l2), some (.int l3)] [] (hp K x) (PI K Q)
  refine r_iload_n (pc := 24) dX8_kept_24 rfl ?_
  refine r_aload_n (pc := 25) dX8_kept_25 rfl ?_
  refine s_getR (pc := 26) dX8_kept_26 fl_X8_9 rfl k_b0 g_b0_1 ?_
  refine r_iconst (pc := 29) (v := 2) dX8_kept_29 (by decide) ?_
  obtain ⟨i_1, K0⟩ := K0
  refine s_iald (pc := 30) dX8_kept_30 k_b0_1 i_1 ?_
  refine r_icmp_ge (pc := 31) (tgt := 61) dX8_kept_31 (by decide) (fun q => ?_) (fun q => ?_)
  · have K0 := K0.1 q
    refine r_iload_n (pc := 61) dX8_kept_61 rfl ?_
    exact s_iret rfl dX8_kept_62 K0
  · have K0 := K0.2 q
    refine r_iload_n (pc := 34) dX8_kept_34 rfl ?_
    refine r_aload_n (pc := 35) dX8_kept_35 rfl ?_
    refine r_iload_n (pc := 36) dX8_kept_36 rfl ?_
    refine s_VI (pc := 37) mX8_standsOf (ci := 8) (a := b0) (As := [.int l3]) dX8_kept_37 lk_X8_305 in_X8_standsOf mo_X8_standsOf ⟨by decide, rfl⟩ ⟨by decide, by decide⟩ (Nat.le_of_ble_eq_true rfl) k_b0 (mSI_mono K0 (fun r_4 y_3 K0 => ?_))
    refine r_iload_n (pc := 40) dX8_kept_40 rfl ?_
    refine r_iconst (pc := 41) (v := 1) dX8_kept_41 (by decide) ?_
    refine r_iadd (pc := 42) dX8_kept_42 ?_
    refine r_icmp_ne (pc := 43) (tgt := 52) dX8_kept_43 (by decide) (fun q => ?_) (fun q => ?_)
    · have K0 := K0.1 q
      refine r_iconst (pc := 52) (v := 0) dX8_kept_52 (by decide) ?_
      refine r_ior (pc := 53) dX8_kept_53 ?_
      refine r_istore_n (pc := 54) dX8_kept_54 (by decide) ?_
      refine r_iinc (pc := 55) (L := [some (.ref b0), some (.int l1), some (.int (l2 ||| 0)), some (.int l3)]) (v := l3 + 1) dX8_kept_55 rfl rfl (by decide) ?_
      refine r_goto (pc := 58) (L := [some (.ref b0), some (.int l1), some (.int (l2 ||| 0)), some (.int (l3 + 1))]) (tgt := 24) dX8_kept_58 (by decide) ?_
      exact r_le (L' := [some (.ref b0), some (.int l1), some (.int (l2 ||| 0)), some (.int (l3 + 1))]) ⟨rfl, ⟨rfl, ⟨rfl, ⟨rfl, trivial⟩⟩⟩⟩ K0
    · have K0 := K0.2 q
      refine r_iconst (pc := 46) (v := 1) dX8_kept_46 (by decide) ?_
      refine r_iload_n (pc := 47) dX8_kept_47 rfl ?_
      refine r_ishl (pc := 48) dX8_kept_48 ?_
      refine r_goto (pc := 49) (tgt := 53) dX8_kept_49 (by decide) ?_
      refine r_ior (pc := 53) dX8_kept_53 ?_
      refine r_istore_n (pc := 54) dX8_kept_54 (by decide) ?_
      refine r_iinc (pc := 55) (L := [some (.ref b0), some (.int l1), some (.int (l2 ||| (1 <<< (l3 &&& 31)))), some (.int l3)]) (v := l3 + 1) dX8_kept_55 rfl rfl (by decide) ?_
      refine r_goto (pc := 58) (L := [some (.ref b0), some (.int l1), some (.int (l2 ||| (1 <<< (l3 &&& 31)))), some (.int (l3 + 1))]) (tgt := 24) dX8_kept_58 (by decide) ?_
      exact r_le (L' := [some (.ref b0), some (.int l1), some (.int (l2 ||| (1 <<< (l3 &&& 31)))), some (.int (l3 + 1))]) ⟨rfl, ⟨rfl, ⟨rfl, ⟨rfl, trivial⟩⟩⟩⟩ K0
set_option maxHeartbeats 2000000 in
theorem v_X7_entrant_0 {K : Sh} {x : Cn} {Q : Int32 → Cn → Prop} {b0 : Nat} {l1 : Int32} {l2 : Int32} {b0_3 : Nat} {b0_2 : Nat} (k_b0 : kk K b0 = some (7, 0)) (g_b0_3 : gr x b0 3 = some b0_3) (k_b0_3 : kk K b0_3 = some (1, 0)) (g_b0_2 : gr x b0 2 = some b0_2) (k_b0_2 : kk K b0_2 = some (4, 0)) (K0 : (¬ (0 ≤ l1 ∧ l1 < gi x b0_3 0) → (Q (-2) x)) ∧ ((0 ≤ l1 ∧ l1 < gi x b0_3 0) → (((0 < gi x b0_2 0 ∧ 0 ≤ l2 ∧ l2 < 7) → (mSI mX4_seriesOf [.ref b0_2, .int l1, .int l2] K x (fun r_4 y_3 => (2 ≤ r_4 → (Q 0 y_3)) ∧ (¬ 2 ≤ r_4 → (Q 1 y_3))))) ∧ (¬ (0 < gi x b0_2 0 ∧ 0 ≤ l2 ∧ l2 < 7) → (Q (-2) x))))) : mSI mX7_entrant [.ref b0, .int l1, .int l2] K x Q := by
  refine s_I (by decide) (by simp [Value.category]) (Nat.le_of_ble_eq_true rfl) ?_
  show mGM mX7_entrant 0 [some (.ref b0), some (.int l1), some (.int l2)] [] (hp K x) (PI K Q)
  refine r_aload_n (pc := 0) dX7_entrant_0 rfl ?_
  refine r_iload_n (pc := 1) dX7_entrant_1 rfl ?_
  refine s_VI (pc := 2) mX7_isCarrier (ci := 7) (a := b0) (As := [.int l1]) dX7_entrant_2 lk_X7_109 in_X7_isCarrier mo_X7_isCarrier ⟨by decide, rfl⟩ ⟨by decide, by decide⟩ (Nat.le_of_ble_eq_true rfl) k_b0 (sp_X7_isCarrier k_b0 g_b0_3 k_b0_3 ?_)
  refine r_if_eq (pc := 5) (tgt := 16) dX7_entrant_5 (by decide) (fun q => ?_) (fun q => ?_)
  · have q := (b2i_z _).mp q
    have K0 := K0.1 q
    refine r_bipush (pc := 16) (v := (-2)) dX7_entrant_16 (by decide) ?_
    exact s_iret rfl dX7_entrant_18 K0
  · have q := b2i_nz q
    have K0 := K0.2 q
    refine r_aload_n (pc := 8) dX7_entrant_8 rfl ?_
    refine r_iload_n (pc := 9) dX7_entrant_9 rfl ?_
    refine s_VI (pc := 10) mX7_isDay (ci := 7) (a := b0) (As := [.int l2]) dX7_entrant_10 lk_X7_245 in_X7_isDay mo_X7_isDay ⟨by decide, rfl⟩ ⟨by decide, by decide⟩ (Nat.le_of_ble_eq_true rfl) k_b0 (sp_X7_isDay k_b0 g_b0_2 k_b0_2 ?_)
    refine r_if_ne (pc := 13) (tgt := 19) dX7_entrant_13 (by decide) (fun q => ?_) (fun q => ?_)
    · have q := b2i_nz q
      have K0 := K0.1 q
      refine r_aload_n (pc := 19) dX7_entrant_19 rfl ?_
      refine s_getR (pc := 20) dX7_entrant_20 fl_X7_20 rfl k_b0 g_b0_2 ?_
      refine r_iload_n (pc := 23) dX7_entrant_23 rfl ?_
      refine r_iload_n (pc := 24) dX7_entrant_24 rfl ?_
      refine s_VI (pc := 25) mX4_seriesOf (ci := 4) (a := b0_2) (As := [.int l1, .int l2]) dX7_entrant_25 lk_X7_252 in_X4_seriesOf mo_X4_seriesOf ⟨by decide, rfl⟩ ⟨by decide, by decide⟩ (Nat.le_of_ble_eq_true rfl) k_b0_2 (mSI_mono K0 (fun r_4 y_3 K0 => ?_))
      refine r_iconst (pc := 28) (v := 2) dX7_entrant_28 (by decide) ?_
      refine r_icmp_ge (pc := 29) (tgt := 36) dX7_entrant_29 (by decide) (fun q => ?_) (fun q => ?_)
      · have K0 := K0.1 q
        refine r_iconst (pc := 36) (v := 0) dX7_entrant_36 (by decide) ?_
        exact s_iret rfl dX7_entrant_37 K0
      · have K0 := K0.2 q
        refine r_iconst (pc := 32) (v := 1) dX7_entrant_32 (by decide) ?_
        refine r_goto (pc := 33) (tgt := 37) dX7_entrant_33 (by decide) ?_
        exact s_iret rfl dX7_entrant_37 K0
    · have q := (b2i_z _).mp q
      have K0 := K0.2 q
      refine r_bipush (pc := 16) (v := (-2)) dX7_entrant_16 (by decide) ?_
      exact s_iret rfl dX7_entrant_18 K0
set_option maxHeartbeats 2000000 in
theorem v_X8_entrant_0 {K : Sh} {x : Cn} {Q : Int32 → Cn → Prop} {b0 : Nat} {l1 : Int32} {l2 : Int32} {b0_1 : Nat} {n_b0_1 : Nat} (k_b0 : kk K b0 = some (8, 0)) (g_b0_1 : gr x b0 1 = some b0_1) (k_b0_1 : kk K b0_1 = some (20, n_b0_1)) (K0 : vp_in 1 n_b0_1 ∧ ((¬ (0 ≤ l1 ∧ l1 ≤ gi x b0_1 1 - 1) → (Q (-2) x)) ∧ ((0 ≤ l1 ∧ l1 ≤ gi x b0_1 1 - 1) → (vp_in 0 n_b0_1 ∧ (((0 < gi x b0_1 0 ∧ 0 ≤ l2 ∧ l2 ≤ 6) → (mSI mX8_isEntrant [.ref b0, .int l1, .int l2] K x (fun r_6 y_5 => (r_6 = 0 → (Q 0 y_5)) ∧ (¬ r_6 = 0 → (Q 1 y_5))))) ∧ (¬ (0 < gi x b0_1 0 ∧ 0 ≤ l2 ∧ l2 ≤ 6) → (Q (-2) x))))))) : mSI mX8_entrant [.ref b0, .int l1, .int l2] K x Q := by
  refine s_I (by decide) (by simp [Value.category]) (Nat.le_of_ble_eq_true rfl) ?_
  show mGM mX8_entrant 0 [some (.ref b0), some (.int l1), some (.int l2)] [] (hp K x) (PI K Q)
  refine r_aload_n (pc := 0) dX8_entrant_0 rfl ?_
  refine r_iload_n (pc := 1) dX8_entrant_1 rfl ?_
  obtain ⟨i_1, K0⟩ := K0
  refine s_VI (pc := 2) mX8_isCarrier (ci := 8) (a := b0) (As := [.int l1]) dX8_entrant_2 lk_X8_265 in_X8_isCarrier mo_X8_isCarrier ⟨by decide, rfl⟩ ⟨by decide, by decide⟩ (Nat.le_of_ble_eq_true rfl) k_b0 (sp_X8_isCarrier k_b0 g_b0_1 k_b0_1 i_1 ?_)
  refine r_if_eq (pc := 5) (tgt := 16) dX8_entrant_5 (by decide) (fun q => ?_) (fun q => ?_)
  · have q := (b2i_z _).mp q
    have K0 := K0.1 q
    refine r_bipush (pc := 16) (v := (-2)) dX8_entrant_16 (by decide) ?_
    exact s_iret rfl dX8_entrant_18 K0
  · have q := b2i_nz q
    have K0 := K0.2 q
    refine r_aload_n (pc := 8) dX8_entrant_8 rfl ?_
    refine r_iload_n (pc := 9) dX8_entrant_9 rfl ?_
    obtain ⟨i_3, K0⟩ := K0
    refine s_VI (pc := 10) mX8_isDay (ci := 8) (a := b0) (As := [.int l2]) dX8_entrant_10 lk_X8_61 in_X8_isDay mo_X8_isDay ⟨by decide, rfl⟩ ⟨by decide, by decide⟩ (Nat.le_of_ble_eq_true rfl) k_b0 (sp_X8_isDay k_b0 g_b0_1 k_b0_1 i_3 ?_)
    refine r_if_ne (pc := 13) (tgt := 19) dX8_entrant_13 (by decide) (fun q => ?_) (fun q => ?_)
    · have q := b2i_nz q
      have K0 := K0.1 q
      refine r_aload_n (pc := 19) dX8_entrant_19 rfl ?_
      refine r_iload_n (pc := 20) dX8_entrant_20 rfl ?_
      refine r_iload_n (pc := 21) dX8_entrant_21 rfl ?_
      refine s_VI (pc := 22) mX8_isEntrant (ci := 8) (a := b0) (As := [.int l1, .int l2]) dX8_entrant_22 lk_X8_313 in_X8_isEntrant mo_X8_isEntrant ⟨by decide, rfl⟩ ⟨by decide, by decide⟩ (Nat.le_of_ble_eq_true rfl) k_b0 (mSI_mono K0 (fun r_6 y_5 K0 => ?_))
      refine r_if_eq (pc := 25) (tgt := 32) dX8_entrant_25 (by decide) (fun q => ?_) (fun q => ?_)
      · have K0 := K0.1 q
        refine r_iconst (pc := 32) (v := 0) dX8_entrant_32 (by decide) ?_
        exact s_iret rfl dX8_entrant_33 K0
      · have K0 := K0.2 q
        refine r_iconst (pc := 28) (v := 1) dX8_entrant_28 (by decide) ?_
        refine r_goto (pc := 29) (tgt := 33) dX8_entrant_29 (by decide) ?_
        exact s_iret rfl dX8_entrant_33 K0
    · have q := (b2i_z _).mp q
      have K0 := K0.2 q
      refine r_bipush (pc := 16) (v := (-2)) dX8_entrant_16 (by decide) ?_
      exact s_iret rfl dX8_entrant_18 K0
theorem eq_stands (a : Int32) : Both mX7_stands mX8_stands [.int a] := by
  intro x R
  obtain ⟨W, C, S, A, N, E, -, -⟩ := R.sea
  have hn := E.nums
  have ht := Rel.t2 E
  have hS : S ≤ 24 := hn.2.2.2.2.2.2.1
  have iS := inN' (v := a) (n := S) (by omega)
  have rf : mSI mX8_stands [.ref 717, .int a] KW x (fun r' z => (if 0 ≤ a ∧ a < nI S then stds (gi x 718) a.toNatClampNeg else -2) = r' ∧ Rel z) := by
    refine v_X8_stands_0 km R.2.1.1 km1 ⟨v0 (k := 2) (by decide) rfl rfl, ?_⟩
    rw [ht.2.2.1, iS]
    refine ⟨fun z => ⟨if_neg z, R⟩, fun z => ?_⟩
    rw [if_pos z]
    obtain ⟨s, hs, rfl⟩ := inN (by omega) z
    rw [nI_clamp (by omega)]
    exact sp_X8_standsOf R.2.1 km1 (by omega) ⟨rfl, R⟩
  refine v_X7_stands_0 k0 R.1.2.1 (ks0 E.1) E.2.1.2.2.1 (ks3 E.1) ?_
  rw [hn.2.2.1]
  refine ⟨fun z => ?_, fun z => by rwa [if_neg z] at rf⟩
  rw [if_pos z] at rf
  obtain ⟨s, hs, rfl⟩ := inN (by omega) z
  obtain ⟨p, e1, e2, e3, e4, -, e6⟩ := E.ser hs
  rw [nI_clamp (show s < 2 ^ 31 by omega)] at rf ⊢
  refine ⟨vp_in_nI (by omega) (by decide), p, e1, e2, ?_⟩
  have g1 := e3.safe e6
  have g2 := e3.lost e6
  refine ⟨fun w => ⟨fun w2 => ?_, fun w2 => ?_⟩, fun w => ?_⟩
  · unfold stds at rf
    rwa [if_neg (fun u => w (g1.mpr u)), if_pos (Classical.byContradiction (fun u => w2 (g2.mpr u)))] at rf
  · unfold stds at rf
    rwa [if_neg (fun u => w (g1.mpr u)), if_neg (g2.mp w2)] at rf
  · unfold stds at rf
    rwa [if_pos (g1.mp w)] at rf
theorem eq_kept (a : Int32) : Both mX7_kept mX8_kept [.int a] := by
  intro x R
  obtain ⟨W, C, S, A, N, E, -, -⟩ := R.sea
  have hn := E.nums
  have ht := Rel.t2 E
  have hS : S ≤ 24 := hn.2.2.2.2.2.2.1
  have rf : mSI mX8_kept [.ref 717, .int a] KW x (fun r' z => (if 0 < nI W ∧ (0 ≤ a ∧ a ≤ 1) then accT (orS (fun s => stds (gi x 718) s = a + 1)) S 0 else -2) = r' ∧ Rel z) := by
    refine v_X8_kept_0 km R.2.1.1 km1 ⟨v0 (k := 0) (by decide) rfl rfl, ?_⟩
    rw [ht.1]
    refine ⟨fun z => ⟨if_neg (fun w => z w.1), R⟩, fun z => ⟨fun z2 => ?_, fun z2 => ⟨if_neg (fun w => z2 w.2), R⟩⟩⟩
    rw [if_pos ⟨z, z2⟩]
    refine lp_acc (orS (fun s => stds (gi x 718) s = a + 1)) (fun s b => GI mX8_kept 24 [some (.ref 717), some (.int a), some (.int b), some (.int (nI s))] [] KW x _) S 0 ?_ (fun s b hs n1 => ?_)
    · exact v_X8_kept_24 km R.2.1.1 km1 ⟨v0 (k := 2) (by decide) rfl rfl, fun _ => ⟨rfl, R⟩, fun z => absurd (by rw [ht.2.2.1]; exact Int32.le_refl _) z⟩
    · refine v_X8_kept_24 km R.2.1.1 km1 ⟨v0 (k := 2) (by decide) rfl rfl, fun z => absurd (by rw [ht.2.2.1] at z; exact z) (nI_ge hs (by omega)), fun _ => sp_X8_standsOf R.2.1 km1 (by omega) ?_⟩
      rw [nI_1, Int32.or_zero]
      exact ⟨fun z => n1 _ (if_neg z), fun z => n1 _ (if_pos z)⟩
  refine v_X7_kept_0 k0 R.1.2.1 (ks0 E.1) ?_
  rw [hn.1]
  refine ⟨fun z => by rwa [if_neg (fun w => z w.1)] at rf, fun z => ⟨fun z2 => ?_, fun z2 => by rwa [if_neg (fun w => z2 w.2)] at rf⟩⟩
  rw [if_pos ⟨z, z2⟩] at rf
  refine lp_acc (orS (fun s => stds (gi x 718) s = a + 1)) (fun s b => GI mX7_kept 23 [some (.ref 0), some (.int a), some (.int b), some (.int (nI s)), none] [] KW x _) S 0 ?_ (fun s b hs n1 => ?_)
  · exact v_X7_kept_23 k0 R.1.2.1 (ks0 E.1) E.2.1.2.2.1 (ks3 E.1) ⟨fun _ => rf, fun z => absurd (by rw [hn.2.2.1]; exact Int32.le_refl _) z⟩
  · obtain ⟨p, e1, e2, e3, e4, -, e6⟩ := E.ser hs
    have g1 := e3.safe e6
    have g2 := e3.lost e6
    have hm := kw_mono (T := gi x 718) (s := s)
    refine v_X7_kept_23 k0 R.1.2.1 (ks0 E.1) E.2.1.2.2.1 (ks3 E.1) ⟨fun z => absurd (by rw [hn.2.2.1] at z; exact z) (nI_ge hs (by omega)), fun _ => ⟨vp_in_nI (by omega) (by decide), p, by rw [nI_clamp (by omega)]; exact e1, ?_⟩⟩
    rw [nI_1]
    obtain ⟨k, hk, rfl⟩ := nI_of2 (M := 1) (n := 1) (by decide) (Int32.not_lt.mpr z2.1) z2.2
    have hk' : k = 0 ∨ k = 1 := by omega
    rcases hk' with rfl | rfl
    · refine ⟨fun w => absurd (by decide) w, fun _ => ⟨e2, fun w => n1 _ (if_neg (fun u => ?_)), fun w => n1 _ (if_pos ?_)⟩⟩
      · have u : stds (gi x 718) s = nI 0 + 1 := u
        unfold stds at u
        rw [if_neg (fun v => w (g1.mpr v))] at u
        split at u <;> exact absurd u (by decide)
      · show stds (gi x 718) s = nI 0 + 1
        unfold stds
        rw [if_pos (g1.mp w)]
        decide
    · refine ⟨fun _ => ⟨e2, fun w => n1 _ (if_neg (fun u => ?_)), fun w => n1 _ (if_pos ?_)⟩, fun w => absurd w (by decide)⟩
      · have hkw : kw (gi x 718) s (nI (cpt (so (gi x 718) s 7))) := Classical.byContradiction (fun v => w (g2.mpr v))
        have u : stds (gi x 718) s = nI 1 + 1 := u
        unfold stds at u
        rw [if_pos hkw] at u
        split at u <;> exact absurd u (by decide)
      · show stds (gi x 718) s = nI 1 + 1
        unfold stds
        rw [if_neg (fun v => g2.mp w (hm v)), if_neg (g2.mp w)]
        decide
theorem eq_entrant (a b : Int32) : Both mX7_entrant mX8_entrant [.int a, .int b] := by
  intro x R
  obtain ⟨W, C, S, A, N, E, ⟨hc, -⟩, -⟩ := R.sea
  have hn := E.nums
  have ht := Rel.t2 E
  have hS : S ≤ 24 := hn.2.2.2.2.2.2.1
  have hC : C ≤ 8 := hn.2.2.2.2.2.1
  have iC := inN' (v := a) (n := C) (by omega)
  have hb : ∀ {b : Int32}, (0 ≤ b ∧ b < 7) → ¬ b = -1 := fun z e => absurd (e ▸ z.1) (by decide)
  let nn : Int32 := accT (inc (fun s => so (gi x 718) s 0 = a ∧ (b = -1 ∨ so (gi x 718) s 1 = b))) S 0
  have rf : mSI mX8_entrant [.ref 717, .int a, .int b] KW x (fun r' z => (if (0 ≤ a ∧ a < nI C) ∧ (0 < nI W ∧ 0 ≤ b ∧ b < 7) then (if nn < 2 then 1 else 0) else -2) = r' ∧ Rel z) := by
    refine v_X8_entrant_0 km R.2.1.1 km1 ⟨v0 (k := 1) (by decide) rfl rfl, ?_⟩
    rw [ht.2.1, iC, ht.1, d7]
    refine ⟨fun z => ⟨if_neg (fun w => z w.1), R⟩, fun z => ⟨v0 (k := 0) (by decide) rfl rfl, fun z2 => ?_, fun z2 => ⟨if_neg (fun w => z2 w.2), R⟩⟩⟩
    rw [if_pos ⟨z, z2⟩]
    refine sp_X8_isEntrant R.2.1 km1 ht.2.2.1 hS (hb z2.2) ⟨fun z3 => ⟨if_neg ((b2i_z _).mp z3), R⟩, fun z3 => ⟨if_pos (b2i_nz z3), R⟩⟩
  refine v_X7_entrant_0 k0 R.1.2.2.1 (by decide) R.1.2.1 (ks0 E.1) ?_
  rw [hc, hn.1]
  refine ⟨fun z => by rwa [if_neg (fun w => z w.1)] at rf, fun z => ⟨fun z2 => ?_, fun z2 => by rwa [if_neg (fun w => z2 w.2)] at rf⟩⟩
  rw [if_pos ⟨z, z2⟩] at rf
  refine sp_X4_seriesOf E ⟨fun z3 => ?_, fun z3 => ?_⟩
  · rwa [if_neg (Int32.not_lt.mpr z3)] at rf
  · rwa [if_pos (Int32.not_le.mp z3)] at rf
end
/-! 36.sums.lean.txt -/
section
def addS (c : Nat → Prop) [∀ s, Decidable (c s)] (f : Nat → Int32) : Nat → Int32 → Int32 := fun s a => if c s then a + f s else a
/-- basis of a carrier's series on a day (-1: all) -/
def bOf (T : TT) (S : Nat) (c d : Int32) : Int32 := accT (addS (fun s => so T s 0 = c ∧ (d = -1 ∨ so T s 1 = d)) (fun s => nI (cpt (bas T s)))) S 0
def gOf (T : TT) (S : Nat) (c : Int32) : Int32 := accT (addS (fun s => so T s 0 = c) (fun s => nI (cpt (so T s 8 ||| so T s 10)))) S 0
theorem acc_bd {c : Nat → Prop} [∀ s, Decidable (c s)] {f : Nat → Int32} (hf : ∀ s, ∃ k, k ≤ 32 ∧ f s = nI k) : ∀ n, ∃ k, k ≤ 32 * n ∧ accT (addS c f) n 0 = nI k := by
  intro n
  induction n with
  | zero => exact ⟨0, by omega, rfl⟩
  | succ n ih =>
    obtain ⟨k, hk, e⟩ := ih
    obtain ⟨j, hj, ej⟩ := hf n
    show ∃ k, k ≤ 32 * (n + 1) ∧ (if c n then accT (addS c f) n 0 + f n else accT (addS c f) n 0) = nI k
    by_cases z : c n
    · exact ⟨k + j, by omega, by rw [if_pos z, e, ej, nI_add]⟩
    · exact ⟨k, by omega, by rw [if_neg z, e]⟩
theorem bOf_bd (T : TT) (S : Nat) (c d : Int32) : ∃ k, k ≤ 32 * S ∧ bOf T S c d = nI k := acc_bd (fun s => ⟨_, cpt_le _, rfl⟩) S
theorem gOf_bd (T : TT) (S : Nat) (c : Int32) : ∃ k, k ≤ 32 * S ∧ gOf T S c = nI k := acc_bd (fun s => ⟨_, cpt_le _, rfl⟩) S
set_option maxHeartbeats 2000000 in
theorem v_X4_basisOf_0 {K : Sh} {x : Cn} {Q : Int32 → Cn → Prop} {b0 : Nat} {l1 : Int32} {l2 : Int32}   (K0 : GI mX4_basisOf 5 [some (.ref b0), some (.int l1), some (.int l2), some (.int 0), some (.int 0)] [] K x Q) : mSI mX4_basisOf [.ref b0, .int l1, .int l2] K x Q := by
  refine s_I (by decide) (by simp [Value.category]) (Nat.le_of_ble_eq_true rfl) ?_
  show mGM mX4_basisOf 0 [some (.ref b0), some (.int l1), some (.int l2), none, none] [] (hp K x) (PI K Q)
  refine r_iconst (pc := 0) (v := 0) dX4_basisOf_0 (by decide) ?_
  refine r_istore_n (pc := 1) dX4_basisOf_1 (by decide) ?_
  refine r_iconst (pc := 2) (L := [some (.ref b0), some (.int l1), some (.int l2), some (.int 0), none]) (v := 0) dX4_basisOf_2 (by decide) ?_
  refine r_istore (pc := 3) dX4_basisOf_3 (by decide) ?_
  exact r_le (L' := [some (.ref b0), some (.int l1), some (.int l2), some (.int 0), some (.int 0)]) ⟨rfl, ⟨rfl, ⟨rfl, ⟨rfl, ⟨rfl, trivial⟩⟩⟩⟩⟩ K0
set_option maxHeartbeats 2000000 in
theorem v_X4_basisOf_5 {K : Sh} {x : Cn} {Q : Int32 → Cn → Prop} {b0 : Nat} {l1 : Int32} {l2 : Int32} {l3 : Int32} {l4 : Int32} {b0_7 : Nat} {n_b0_7 : Nat} (k_b0 : kk K b0 = some (4, 0)) (g_b0_7 : gr x b0 7 = some b0_7) (k_b0_7 : kk K b0_7 = some (23, n_b0_7)) (K0 : ((gi x b0 3) ≤ l4 → (Q l3 x)) ∧ (¬ (gi x b0 3) ≤ l4 → (vp_in l4 n_b0_7 ∧ (∃ c_3 : Nat, gr x b0_7 ((l4 : Int32).toNatClampNeg) = some c_3 ∧ (kk K c_3 = some (5, 0) ∧ ((¬ (gi x c_3 0 = l1 ∧ (l2 = -1 ∨ gi x c_3 1 = l2)) → (GI mX4_basisOf 5 [some (.ref b0), some (.int l1), some (.int l2), some (.int l3), some (.int (l4 + 1))] [] K x Q)) ∧ ((gi x c_3 0 = l1 ∧ (l2 = -1 ∨ gi x c_3 1 = l2)) → (GI mX4_basisOf 5 [some (.ref b0), some (.int l1), some (.int l2), some (.int (l3 + (nI (cpt (f_held x c_3))))), some (.int (l4 + 1))] [] K x Q)))))))) : GI mX4_basisOf 5 [some (.ref b0), some (.int l1), some (.int l2), some (.int l3), some (.int l4)] [] K x Q := by
  show mGM mX4_basisOf 5 [some (.ref b0), some (.int l1), some (.int l2), some (.int l3), some (.int l4)] [] (hp K x) (PI K Q)
  refine r_iload (pc := 5) dX4_basisOf_5 rfl ?_
  refine r_aload_n (pc := 7) dX4_basisOf_7 rfl ?_
  refine s_getI (pc := 8) dX4_basisOf_8 fl_X4_21 rfl k_b0 ?_
  refine r_icmp_ge (pc := 11) (tgt := 48) dX4_basisOf_11 (by decide) (fun q => ?_) (fun q => ?_)
  · have K0 := K0.1 q
    refine r_iload_n (pc := 48) dX4_basisOf_48 rfl ?_
    exact s_iret rfl dX4_basisOf_49 K0
  · have K0 := K0.2 q
    refine r_aload_n (pc := 14) dX4_basisOf_14 rfl ?_
    refine s_getR (pc := 15) dX4_basisOf_15 fl_X4_36 rfl k_b0 g_b0_7 ?_
    refine r_iload (pc := 18) dX4_basisOf_18 rfl ?_
    obtain ⟨i_2, K0⟩ := K0
    obtain ⟨c_3, g_4, K0⟩ := K0
    refine s_aald (pc := 20) dX4_basisOf_20 (by decide) rfl k_b0_7 i_2 g_4 ?_
    refine r_iload_n (pc := 21) dX4_basisOf_21 rfl ?_
    refine r_iload_n (pc := 22) dX4_basisOf_22 rfl ?_
    obtain ⟨e_5, K0⟩ := K0
    refine s_VI (pc := 23) mX5_isOf (ci := 5) (a := c_3) (As := [.int l1, .int l2]) dX4_basisOf_23 lk_X4_144 in_X5_isOf mo_X5_isOf ⟨by decide, rfl⟩ ⟨by decide, by decide⟩ (Nat.le_of_ble_eq_true rfl) e_5 (sp_X5_isOf e_5 ?_)
    refine r_if_eq (pc := 26) (tgt := 42) dX4_basisOf_26 (by decide) (fun q => ?_) (fun q => ?_)
    · have q := (b2i_z _).mp q
      have K0 := K0.1 q
      refine r_iinc (pc := 42) (v := l4 + 1) dX4_basisOf_42 rfl rfl (by decide) ?_
      refine r_goto (pc := 45) (L := [some (.ref b0), some (.int l1), some (.int l2), some (.int l3), some (.int (l4 + 1))]) (tgt := 5) dX4_basisOf_45 (by decide) ?_
      exact r_le (L' := [some (.ref b0), some (.int l1), some (.int l2), some (.int l3), some (.int (l4 + 1))]) ⟨rfl, ⟨rfl, ⟨rfl, ⟨rfl, ⟨rfl, trivial⟩⟩⟩⟩⟩ K0
    · have q := b2i_nz q
      have K0 := K0.2 q
      refine r_iload_n (pc := 29) dX4_basisOf_29 rfl ?_
      refine r_aload_n (pc := 30) dX4_basisOf_30 rfl ?_
      refine s_getR (pc := 31) dX4_basisOf_31 fl_X4_36 rfl k_b0 g_b0_7 ?_
      refine r_iload (pc := 34) dX4_basisOf_34 rfl ?_
      refine s_aald (pc := 36) dX4_basisOf_36 (by decide) rfl k_b0_7 i_2 g_4 ?_
      refine s_VI (pc := 37) mX5_basis (ci := 5) (a := c_3) (As := []) dX4_basisOf_37 lk_X4_147 in_X5_basis mo_X5_basis ⟨by decide, rfl⟩ ⟨by decide, by decide⟩ (Nat.le_of_ble_eq_true rfl) e_5 (sp_X5_basis e_5 ?_)
      refine r_iadd (pc := 40) dX4_basisOf_40 ?_
      refine r_istore_n (pc := 41) dX4_basisOf_41 (by decide) ?_
      refine r_iinc (pc := 42) (L := [some (.ref b0), some (.int l1), some (.int l2), some (.int (l3 + (nI (cpt (f_held x c_3))))), some (.int l4)]) (v := l4 + 1) dX4_basisOf_42 rfl rfl (by decide) ?_
      refine r_goto (pc := 45) (L := [some (.ref b0), some (.int l1), some (.int l2), some (.int (l3 + (nI (cpt (f_held x c_3))))), some (.int (l4 + 1))]) (tgt := 5) dX4_basisOf_45 (by decide) ?_
      exact r_le (L' := [some (.ref b0), some (.int l1), some (.int l2), some (.int (l3 + (nI (cpt (f_held x c_3))))), some (.int (l4 + 1))]) ⟨rfl, ⟨rfl, ⟨rfl, ⟨rfl, ⟨rfl, trivial⟩⟩⟩⟩⟩ K0
section
variable {x : Cn} {Q : Int32 → Cn → Prop}
theorem sp_X4_basisOf {q : Nat} {T : TT} {W C S A N : Nat} (E : SEA x q T W C S A N) {c d : Int32} (k : Q (bOf T S c d) x) : mSI mX4_basisOf [.ref q, .int c, .int d] KW x Q := by
  have hn := E.nums
  have hS : S ≤ 24 := hn.2.2.2.2.2.2.1
  refine v_X4_basisOf_0 (lp_acc (addS (fun s => so T s 0 = c ∧ (d = -1 ∨ so T s 1 = d)) (fun s => nI (cpt (bas T s)))) (fun s a => GI mX4_basisOf 5 [some (.ref q), some (.int c), some (.int d), some (.int a), some (.int (nI s))] [] KW x Q) S 0 ?_ (fun s a hs n1 => ?_))
  · exact v_X4_basisOf_5 (ks0 E.1) E.2.1.2.2.1 (ks3 E.1) ⟨fun _ => k, fun z => absurd (by rw [hn.2.2.1]; exact Int32.le_refl _) z⟩
  · obtain ⟨p, e1, e2, e3, e4, -, e6⟩ := E.ser hs
    refine v_X4_basisOf_5 (ks0 E.1) E.2.1.2.2.1 (ks3 E.1) ⟨fun z => absurd (by rw [hn.2.2.1] at z; exact z) (nI_ge hs (by omega)), fun _ => ⟨vp_in_nI (by omega) (by decide), p, by rw [nI_clamp (by omega)]; exact e1, e2, ?_⟩⟩
    rw [e3.1 0 (by decide) (by decide), e3.1 1 (by decide) (by decide), e4, nI_1]
    exact ⟨fun z => n1 _ (if_neg z), fun z => n1 _ (if_pos z)⟩
end
set_option maxHeartbeats 2000000 in
theorem v_X4_goodOf_0 {K : Sh} {x : Cn} {Q : Int32 → Cn → Prop} {b0 : Nat} {l1 : Int32}   (K0 : GI mX4_goodOf 4 [some (.ref b0), some (.int l1), some (.int 0), some (.int 0)] [] K x Q) : mSI mX4_goodOf [.ref b0, .int l1] K x Q := by
  refine s_I (by decide) (by simp [Value.category]) (Nat.le_of_ble_eq_true rfl) ?_
  show mGM mX4_goodOf 0 [some (.ref b0), some (.int l1), none, none] [] (hp K x) (PI K Q)
  refine r_iconst (pc := 0) (v := 0) dX4_goodOf_0 (by decide) ?_
  refine r_istore_n (pc := 1) dX4_goodOf_1 (by decide) ?_
  refine r_iconst (pc := 2) (L := [some (.ref b0), some (.int l1), some (.int 0), none]) (v := 0) dX4_goodOf_2 (by decide) ?_
  refine r_istore_n (pc := 3) dX4_goodOf_3 (by decide) ?_
  exact r_le (L' := [some (.ref b0), some (.int l1), some (.int 0), some (.int 0)]) ⟨rfl, ⟨rfl, ⟨rfl, ⟨rfl, trivial⟩⟩⟩⟩ K0
set_option maxHeartbeats 2000000 in
theorem v_X4_goodOf_4 {K : Sh} {x : Cn} {Q : Int32 → Cn → Prop} {b0 : Nat} {l1 : Int32} {l2 : Int32} {l3 : Int32} {b0_7 : Nat} {n_b0_7 : Nat} (k_b0 : kk K b0 = some (4, 0)) (g_b0_7 : gr x b0 7 = some b0_7) (k_b0_7 : kk K b0_7 = some (23, n_b0_7)) (K0 : ((gi x b0 3) ≤ l3 → (Q l2 x)) ∧ (¬ (gi x b0 3) ≤ l3 → (vp_in l3 n_b0_7 ∧ (∃ c_3 : Nat, gr x b0_7 ((l3 : Int32).toNatClampNeg) = some c_3 ∧ (kk K c_3 = some (5, 0) ∧ ((¬ (gi x c_3 0) = l1 → (GI mX4_goodOf 4 [some (.ref b0), some (.int l1), some (.int l2), some (.int (l3 + 1))] [] K x Q)) ∧ ((gi x c_3 0) = l1 → (GI mX4_goodOf 4 [some (.ref b0), some (.int l1), some (.int (l2 + (nI (cpt (gi x c_3 8 ||| gi x c_3 10))))), some (.int (l3 + 1))] [] K x Q)))))))) : GI mX4_goodOf 4 [some (.ref b0), some (.int l1), some (.int l2), some (.int l3)] [] K x Q := by
  show mGM mX4_goodOf 4 [some (.ref b0), some (.int l1), some (.int l2), some (.int l3)] [] (hp K x) (PI K Q)
  refine r_iload_n (pc := 4) dX4_goodOf_4 rfl ?_
  refine r_aload_n (pc := 5) dX4_goodOf_5 rfl ?_
  refine s_getI (pc := 6) dX4_goodOf_6 fl_X4_21 rfl k_b0 ?_
  refine r_icmp_ge (pc := 9) (tgt := 43) dX4_goodOf_9 (by decide) (fun q => ?_) (fun q => ?_)
  · have K0 := K0.1 q
    refine r_iload_n (pc := 43) dX4_goodOf_43 rfl ?_
    exact s_iret rfl dX4_goodOf_44 K0
  · have K0 := K0.2 q
    refine r_aload_n (pc := 12) dX4_goodOf_12 rfl ?_
    refine s_getR (pc := 13) dX4_goodOf_13 fl_X4_36 rfl k_b0 g_b0_7 ?_
    refine r_iload_n (pc := 16) dX4_goodOf_16 rfl ?_
    obtain ⟨i_2, K0⟩ := K0
    obtain ⟨c_3, g_4, K0⟩ := K0
    refine s_aald (pc := 17) dX4_goodOf_17 (by decide) rfl k_b0_7 i_2 g_4 ?_
    obtain ⟨e_5, K0⟩ := K0
    refine s_getI (pc := 18) dX4_goodOf_18 fl_X4_150 rfl e_5 ?_
    refine r_iload_n (pc := 21) dX4_goodOf_21 rfl ?_
    refine r_icmp_ne (pc := 22) (tgt := 37) dX4_goodOf_22 (by decide) (fun q => ?_) (fun q => ?_)
    · have K0 := K0.1 q
      refine r_iinc (pc := 37) (v := l3 + 1) dX4_goodOf_37 rfl rfl (by decide) ?_
      refine r_goto (pc := 40) (L := [some (.ref b0), some (.int l1), some (.int l2), some (.int (l3 + 1))]) (tgt := 4) dX4_goodOf_40 (by decide) ?_
      exact r_le (L' := [some (.ref b0), some (.int l1), some (.int l2), some (.int (l3 + 1))]) ⟨rfl, ⟨rfl, ⟨rfl, ⟨rfl, trivial⟩⟩⟩⟩ K0
    · have K0 := K0.2 q
      refine r_iload_n (pc := 25) dX4_goodOf_25 rfl ?_
      refine r_aload_n (pc := 26) dX4_goodOf_26 rfl ?_
      refine s_getR (pc := 27) dX4_goodOf_27 fl_X4_36 rfl k_b0 g_b0_7 ?_
      refine r_iload_n (pc := 30) dX4_goodOf_30 rfl ?_
      refine s_aald (pc := 31) dX4_goodOf_31 (by decide) rfl k_b0_7 i_2 g_4 ?_
      refine s_VI (pc := 32) mX5_good (ci := 5) (a := c_3) (As := []) dX4_goodOf_32 lk_X4_151 in_X5_good mo_X5_good ⟨by decide, rfl⟩ ⟨by decide, by decide⟩ (Nat.le_of_ble_eq_true rfl) e_5 (sp_X5_good e_5 ?_)
      refine r_iadd (pc := 35) dX4_goodOf_35 ?_
      refine r_istore_n (pc := 36) dX4_goodOf_36 (by decide) ?_
      refine r_iinc (pc := 37) (L := [some (.ref b0), some (.int l1), some (.int (l2 + (nI (cpt (gi x c_3 8 ||| gi x c_3 10))))), some (.int l3)]) (v := l3 + 1) dX4_goodOf_37 rfl rfl (by decide) ?_
      refine r_goto (pc := 40) (L := [some (.ref b0), some (.int l1), some (.int (l2 + (nI (cpt (gi x c_3 8 ||| gi x c_3 10))))), some (.int (l3 + 1))]) (tgt := 4) dX4_goodOf_40 (by decide) ?_
      exact r_le (L' := [some (.ref b0), some (.int l1), some (.int (l2 + (nI (cpt (gi x c_3 8 ||| gi x c_3 10))))), some (.int (l3 + 1))]) ⟨rfl, ⟨rfl, ⟨rfl, ⟨rfl, trivial⟩⟩⟩⟩ K0
section
variable {x : Cn} {Q : Int32 → Cn → Prop}
theorem sp_X4_goodOf {q : Nat} {T : TT} {W C S A N : Nat} (E : SEA x q T W C S A N) {c : Int32} (k : Q (gOf T S c) x) : mSI mX4_goodOf [.ref q, .int c] KW x Q := by
  have hn := E.nums
  have hS : S ≤ 24 := hn.2.2.2.2.2.2.1
  refine v_X4_goodOf_0 (lp_acc (addS (fun s => so T s 0 = c) (fun s => nI (cpt (so T s 8 ||| so T s 10)))) (fun s a => GI mX4_goodOf 4 [some (.ref q), some (.int c), some (.int a), some (.int (nI s))] [] KW x Q) S 0 ?_ (fun s a hs n1 => ?_))
  · exact v_X4_goodOf_4 (ks0 E.1) E.2.1.2.2.1 (ks3 E.1) ⟨fun _ => k, fun z => absurd (by rw [hn.2.2.1]; exact Int32.le_refl _) z⟩
  · obtain ⟨p, e1, e2, e3, e4, -, e6⟩ := E.ser hs
    refine v_X4_goodOf_4 (ks0 E.1) E.2.1.2.2.1 (ks3 E.1) ⟨fun z => absurd (by rw [hn.2.2.1] at z; exact z) (nI_ge hs (by omega)), fun _ => ⟨vp_in_nI (by omega) (by decide), p, by rw [nI_clamp (by omega)]; exact e1, e2, ?_⟩⟩
    rw [e3.1 0 (by decide) (by decide), e3.1 8 (by decide) (by decide), e3.1 10 (by decide) (by decide), nI_1]
    exact ⟨fun z => n1 _ (if_neg z), fun z => n1 _ (if_pos z)⟩
end
set_option maxHeartbeats 2000000 in
theorem v_X8_basisOn_0 {K : Sh} {x : Cn} {Q : Int32 → Cn → Prop} {b0 : Nat} {l1 : Int32} {l2 : Int32}   (K0 : GI mX8_basisOn 5 [some (.ref b0), some (.int l1), some (.int l2), some (.int 0), some (.int 0)] [] K x Q) : mSI mX8_basisOn [.ref b0, .int l1, .int l2] K x Q := by
  refine s_I (by decide) (by simp [Value.category]) (Nat.le_of_ble_eq_true rfl) ?_
  show mGM mX8_basisOn 0 [some (.ref b0), some (.int l1), some (.int l2), none, none] [] (hp K x) (PI K Q)
  refine r_iconst (pc := 0) (v := 0) dX8_basisOn_0 (by decide) ?_
  refine r_istore_n (pc := 1) dX8_basisOn_1 (by decide) ?_
  refine r_iconst (pc := 2) (L := [some (.ref b0), some (.int l1), some (.int l2), some (.int 0), none]) (v := 0) dX8_basisOn_2 (by decide) ?_
  refine r_istore (pc := 3) dX8_basisOn_3 (by decide) ?_
  exact r_le (L' := [some (.ref b0), some (.int l1), some (.int l2), some (.int 0), some (.int 0)]) ⟨rfl, ⟨rfl, ⟨rfl, ⟨rfl, ⟨rfl, trivial⟩⟩⟩⟩⟩ K0
set_option maxHeartbeats 2000000 in
theorem v_X8_basisOn_5 {K : Sh} {x : Cn} {Q : Int32 → Cn → Prop} {b0 : Nat} {l1 : Int32} {l2 : Int32} {l3 : Int32} {l4 : Int32} {b0_1 : Nat} {n_b0_1 : Nat} {b0_3 : Nat} {n_b0_3 : Nat} (k_b0 : kk K b0 = some (8, 0)) (g_b0_1 : gr x b0 1 = some b0_1) (k_b0_1 : kk K b0_1 = some (20, n_b0_1)) (g_b0_3 : gr x b0 3 = some b0_3) (k_b0_3 : kk K b0_3 = some (20, n_b0_3)) (K0 : vp_in 2 n_b0_1 ∧ (((gi x b0_1 2) ≤ l4 → (Q l3 x)) ∧ (¬ (gi x b0_1 2) ≤ l4 → ((l24 l4 n_b0_3) ∧ ((¬ (so (gi x b0_3) (l4 : Int32).toNatClampNeg 0) = l1 → (GI mX8_basisOn 5 [some (.ref b0), some (.int l1), some (.int l2), some (.int (l3 + 0)), some (.int (l4 + 1))] [] K x Q)) ∧ ((so (gi x b0_3) (l4 : Int32).toNatClampNeg 0) = l1 → ((¬ (so (gi x b0_3) (l4 : Int32).toNatClampNeg 1) = l2 → (GI mX8_basisOn 5 [some (.ref b0), some (.int l1), some (.int l2), some (.int (l3 + 0)), some (.int (l4 + 1))] [] K x Q)) ∧ ((so (gi x b0_3) (l4 : Int32).toNatClampNeg 1) = l2 → (GI mX8_basisOn 5 [some (.ref b0), some (.int l1), some (.int l2), some (.int (l3 + (nI (cpt (bas (gi x b0_3) (l4 : Int32).toNatClampNeg))))), some (.int (l4 + 1))] [] K x Q))))))))) : GI mX8_basisOn 5 [some (.ref b0), some (.int l1), some (.int l2), some (.int l3), some (.int l4)] [] K x Q := by
  show mGM mX8_basisOn 5 [some (.ref b0), some (.int l1), some (.int l2), some (.int l3), some (.int l4)] [] (hp K x) (PI K Q)
  refine r_iload (pc := 5) dX8_basisOn_5 rfl ?_
  refine r_aload_n (pc := 7) dX8_basisOn_7 rfl ?_
  refine s_getR (pc := 8) dX8_basisOn_8 fl_X8_9 rfl k_b0 g_b0_1 ?_
  refine r_iconst (pc := 11) (v := 2) dX8_basisOn_11 (by decide) ?_
  obtain ⟨i_1, K0⟩ := K0
  refine s_iald (pc := 12) dX8_basisOn_12 k_b0_1 i_1 ?_
  refine r_icmp_ge (pc := 13) (tgt := 60) dX8_basisOn_13 (by decide) (fun q => ?_) (fun q => ?_)
  · have K0 := K0.1 q
    refine r_iload_n (pc := 60) dX8_basisOn_60 rfl ?_
    exact s_iret rfl dX8_basisOn_61 K0
  · have K0 := K0.2 q
    refine r_iload_n (pc := 16) dX8_basisOn_16 rfl ?_
    refine r_aload_n (pc := 17) dX8_basisOn_17 rfl ?_
    refine r_iload (pc := 18) dX8_basisOn_18 rfl ?_
    refine r_iconst (pc := 20) (v := 0) dX8_basisOn_20 (by decide) ?_
    obtain ⟨p_3, K0⟩ := K0
    refine s_VI (pc := 21) mX8_one (ci := 8) (a := b0) (As := [.int l4, .int 0]) dX8_basisOn_21 lk_X8_67 in_X8_one mo_X8_one ⟨by decide, rfl⟩ ⟨by decide, by decide⟩ (Nat.le_of_ble_eq_true rfl) k_b0 (sr_X8_one k_b0 g_b0_3 k_b0_3 p_3 ⟨by decide, by decide⟩ ?_)
    refine r_iload_n (pc := 24) dX8_basisOn_24 rfl ?_
    refine r_icmp_ne (pc := 25) (tgt := 51) dX8_basisOn_25 (by decide) (fun q => ?_) (fun q => ?_)
    · have K0 := K0.1 q
      refine r_iconst (pc := 51) (v := 0) dX8_basisOn_51 (by decide) ?_
      refine r_iadd (pc := 52) dX8_basisOn_52 ?_
      refine r_istore_n (pc := 53) dX8_basisOn_53 (by decide) ?_
      refine r_iinc (pc := 54) (L := [some (.ref b0), some (.int l1), some (.int l2), some (.int (l3 + 0)), some (.int l4)]) (v := l4 + 1) dX8_basisOn_54 rfl rfl (by decide) ?_
      refine r_goto (pc := 57) (L := [some (.ref b0), some (.int l1), some (.int l2), some (.int (l3 + 0)), some (.int (l4 + 1))]) (tgt := 5) dX8_basisOn_57 (by decide) ?_
      exact r_le (L' := [some (.ref b0), some (.int l1), some (.int l2), some (.int (l3 + 0)), some (.int (l4 + 1))]) ⟨rfl, ⟨rfl, ⟨rfl, ⟨rfl, ⟨rfl, trivial⟩⟩⟩⟩⟩ K0
    · have K0 := K0.2 q
      refine r_aload_n (pc := 28) dX8_basisOn_28 rfl ?_
      refine r_iload (pc := 29) dX8_basisOn_29 rfl ?_
      refine r_iconst (pc := 31) (v := 1) dX8_basisOn_31 (by decide) ?_
      refine s_VI (pc := 32) mX8_one (ci := 8) (a := b0) (As := [.int l4, .int 1]) dX8_basisOn_32 lk_X8_67 in_X8_one mo_X8_one ⟨by decide, rfl⟩ ⟨by decide, by decide⟩ (Nat.le_of_ble_eq_true rfl) k_b0 (sr_X8_one k_b0 g_b0_3 k_b0_3 p_3 ⟨by decide, by decide⟩ ?_)
      refine r_iload_n (pc := 35) dX8_basisOn_35 rfl ?_
      refine r_icmp_ne (pc := 36) (tgt := 51) dX8_basisOn_36 (by decide) (fun q => ?_) (fun q => ?_)
      · have K0 := K0.1 q
        refine r_iconst (pc := 51) (v := 0) dX8_basisOn_51 (by decide) ?_
        refine r_iadd (pc := 52) dX8_basisOn_52 ?_
        refine r_istore_n (pc := 53) dX8_basisOn_53 (by decide) ?_
        refine r_iinc (pc := 54) (L := [some (.ref b0), some (.int l1), some (.int l2), some (.int (l3 + 0)), some (.int l4)]) (v := l4 + 1) dX8_basisOn_54 rfl rfl (by decide) ?_
        refine r_goto (pc := 57) (L := [some (.ref b0), some (.int l1), some (.int l2), some (.int (l3 + 0)), some (.int (l4 + 1))]) (tgt := 5) dX8_basisOn_57 (by decide) ?_
        exact r_le (L' := [some (.ref b0), some (.int l1), some (.int l2), some (.int (l3 + 0)), some (.int (l4 + 1))]) ⟨rfl, ⟨rfl, ⟨rfl, ⟨rfl, ⟨rfl, trivial⟩⟩⟩⟩⟩ K0
      · have K0 := K0.2 q
        refine r_aload_n (pc := 39) dX8_basisOn_39 rfl ?_
        refine r_iload (pc := 40) dX8_basisOn_40 rfl ?_
        refine s_VI (pc := 42) mX8_basisOf (ci := 8) (a := b0) (As := [.int l4]) dX8_basisOn_42 lk_X8_71 in_X8_basisOf mo_X8_basisOf ⟨by decide, rfl⟩ ⟨by decide, by decide⟩ (Nat.le_of_ble_eq_true rfl) k_b0 (sr_X8_basisOf k_b0 g_b0_3 k_b0_3 p_3 ?_)
        refine s_SI (pc := 45) mX8_bits (As := [.int (bas (gi x b0_3) (l4 : Int32).toNatClampNeg)]) dX8_basisOn_45 lk_X8_296 st_X8_bits mo_X8_bits ⟨by decide, by decide⟩ (Nat.le_of_ble_eq_true rfl) (sp_X8_bits  ?_)
        refine r_goto (pc := 48) (tgt := 52) dX8_basisOn_48 (by decide) ?_
        refine r_iadd (pc := 52) dX8_basisOn_52 ?_
        refine r_istore_n (pc := 53) dX8_basisOn_53 (by decide) ?_
        refine r_iinc (pc := 54) (L := [some (.ref b0), some (.int l1), some (.int l2), some (.int (l3 + (nI (cpt (bas (gi x b0_3) (l4 : Int32).toNatClampNeg))))), some (.int l4)]) (v := l4 + 1) dX8_basisOn_54 rfl rfl (by decide) ?_
        refine r_goto (pc := 57) (L := [some (.ref b0), some (.int l1), some (.int l2), some (.int (l3 + (nI (cpt (bas (gi x b0_3) (l4 : Int32).toNatClampNeg))))), some (.int (l4 + 1))]) (tgt := 5) dX8_basisOn_57 (by decide) ?_
        exact r_le (L' := [some (.ref b0), some (.int l1), some (.int l2), some (.int (l3 + (nI (cpt (bas (gi x b0_3) (l4 : Int32).toNatClampNeg))))), some (.int (l4 + 1))]) ⟨rfl, ⟨rfl, ⟨rfl, ⟨rfl, ⟨rfl, trivial⟩⟩⟩⟩⟩ K0
section
variable {x : Cn} {Q : Int32 → Cn → Prop}
theorem sp_X8_basisOn {S : Nat} (M : MRf x 718) (h2 : gi x 718 2 = nI S) (hS : S ≤ 24) {c d : Int32} (hd : ¬ d = -1) (k : Q (bOf (gi x 718) S c d) x) : mSI mX8_basisOn [.ref 717, .int c, .int d] KW x Q := by
  refine v_X8_basisOn_0 (lp_acc (addS (fun s => so (gi x 718) s 0 = c ∧ (d = -1 ∨ so (gi x 718) s 1 = d)) (fun s => nI (cpt (bas (gi x 718) s)))) (fun s a => GI mX8_basisOn 5 [some (.ref 717), some (.int c), some (.int d), some (.int a), some (.int (nI s))] [] KW x Q) S 0 ?_ (fun s a hs n1 => ?_))
  · exact v_X8_basisOn_5 km M.1 km1 M.2.2.1 km1 ⟨v0 (k := 2) (by decide) rfl rfl, fun _ => k, fun z => absurd (by rw [h2]; exact Int32.le_refl _) z⟩
  · refine v_X8_basisOn_5 km M.1 km1 M.2.2.1 km1 ⟨v0 (k := 2) (by decide) rfl rfl, fun z => absurd (by rw [h2] at z; exact z) (nI_ge hs (by omega)), fun _ => ⟨l24_nI (by omega) rfl, ?_⟩⟩
    rw [nI_clamp (show s < 2 ^ 31 by omega), nI_1, Int32.add_zero]
    exact ⟨fun z => n1 _ (if_neg (fun g => z g.1)), fun z1 => ⟨fun z => n1 _ (if_neg (fun g => g.2.elim hd z)), fun z => n1 _ (if_pos ⟨z1, Or.inr z⟩)⟩⟩
end
set_option maxHeartbeats 2000000 in
theorem v_X8_allOf_0 {K : Sh} {x : Cn} {Q : Int32 → Cn → Prop} {b0 : Nat} {l1 : Int32} {l2 : Int32}   (K0 : GI mX8_allOf 5 [some (.ref b0), some (.int l1), some (.int l2), some (.int 0), some (.int 0)] [] K x Q) : mSI mX8_allOf [.ref b0, .int l1, .int l2] K x Q := by
  refine s_I (by decide) (by simp [Value.category]) (Nat.le_of_ble_eq_true rfl) ?_
  show mGM mX8_allOf 0 [some (.ref b0), some (.int l1), some (.int l2), none, none] [] (hp K x) (PI K Q)
  refine r_iconst (pc := 0) (v := 0) dX8_allOf_0 (by decide) ?_
  refine r_istore_n (pc := 1) dX8_allOf_1 (by decide) ?_
  refine r_iconst (pc := 2) (L := [some (.ref b0), some (.int l1), some (.int l2), some (.int 0), none]) (v := 0) dX8_allOf_2 (by decide) ?_
  refine r_istore (pc := 3) dX8_allOf_3 (by decide) ?_
  exact r_le (L' := [some (.ref b0), some (.int l1), some (.int l2), some (.int 0), some (.int 0)]) ⟨rfl, ⟨rfl, ⟨rfl, ⟨rfl, ⟨rfl, trivial⟩⟩⟩⟩⟩ K0
set_option maxHeartbeats 2000000 in
theorem v_X8_allOf_5 {K : Sh} {x : Cn} {Q : Int32 → Cn → Prop} {b0 : Nat} {l1 : Int32} {l2 : Int32} {l3 : Int32} {l4 : Int32} {b0_1 : Nat} {n_b0_1 : Nat} {b0_3 : Nat} {n_b0_3 : Nat} (k_b0 : kk K b0 = some (8, 0)) (g_b0_1 : gr x b0 1 = some b0_1) (k_b0_1 : kk K b0_1 = some (20, n_b0_1)) (g_b0_3 : gr x b0 3 = some b0_3) (k_b0_3 : kk K b0_3 = some (20, n_b0_3)) (K0 : vp_in 2 n_b0_1 ∧ (((gi x b0_1 2) ≤ l4 → (Q l3 x)) ∧ (¬ (gi x b0_1 2) ≤ l4 → ((l24 l4 n_b0_3) ∧ (((so (gi x b0_3) (l4 : Int32).toNatClampNeg 0) = l1 → ((l2 = 0 → (∀ r_6 : Int32, r_6 = (l3 + (nI (cpt (so (gi x b0_3) (l4 : Int32).toNatClampNeg 8 ||| so (gi x b0_3) (l4 : Int32).toNatClampNeg 10)))) → (GI mX8_allOf 5 [some (.ref b0), some (.int l1), some (.int l2), some (.int r_6), some (.int (l4 + 1))] [] K x Q))) ∧ (¬ l2 = 0 → (GI mX8_allOf 5 [some (.ref b0), some (.int l1), some (.int l2), some (.int (l3 + (nI (cpt (bas (gi x b0_3) (l4 : Int32).toNatClampNeg))))), some (.int (l4 + 1))] [] K x Q)))) ∧ (¬ (so (gi x b0_3) (l4 : Int32).toNatClampNeg 0) = l1 → (GI mX8_allOf 5 [some (.ref b0), some (.int l1), some (.int l2), some (.int (l3 + 0)), some (.int (l4 + 1))] [] K x Q))))))) : GI mX8_allOf 5 [some (.ref b0), some (.int l1), some (.int l2), some (.int l3), some (.int l4)] [] K x Q := by
  show mGM mX8_allOf 5 [some (.ref b0), some (.int l1), some (.int l2), some (.int l3), some (.int l4)] [] (hp K x) (PI K Q)
  refine r_iload (pc := 5) dX8_allOf_5 rfl ?_
  refine r_aload_n (pc := 7) dX8_allOf_7 rfl ?_
  refine s_getR (pc := 8) dX8_allOf_8 fl_X8_9 rfl k_b0 g_b0_1 ?_
  refine r_iconst (pc := 11) (v := 2) dX8_allOf_11 (by decide) ?_
  obtain ⟨i_1, K0⟩ := K0
  refine s_iald (pc := 12) dX8_allOf_12 k_b0_1 i_1 ?_
  refine r_icmp_ge (pc := 13) (tgt := 62) dX8_allOf_13 (by decide) (fun q => ?_) (fun q => ?_)
  · have K0 := K0.1 q
    refine r_iload_n (pc := 62) dX8_allOf_62 rfl ?_
    exact s_iret rfl dX8_allOf_63 K0
  · have K0 := K0.2 q
    refine r_iload_n (pc := 16) dX8_allOf_16 rfl ?_
    refine r_aload_n (pc := 17) dX8_allOf_17 rfl ?_
    refine r_iload (pc := 18) dX8_allOf_18 rfl ?_
    refine r_iconst (pc := 20) (v := 0) dX8_allOf_20 (by decide) ?_
    obtain ⟨p_3, K0⟩ := K0
    refine s_VI (pc := 21) mX8_one (ci := 8) (a := b0) (As := [.int l4, .int 0]) dX8_allOf_21 lk_X8_67 in_X8_one mo_X8_one ⟨by decide, rfl⟩ ⟨by decide, by decide⟩ (Nat.le_of_ble_eq_true rfl) k_b0 (sr_X8_one k_b0 g_b0_3 k_b0_3 p_3 ⟨by decide, by decide⟩ ?_)
    refine r_iload_n (pc := 24) dX8_allOf_24 rfl ?_
    refine r_icmp_eq (pc := 25) (tgt := 32) dX8_allOf_25 (by decide) (fun q => ?_) (fun q => ?_)
    · have K0 := K0.1 q
      refine r_iload_n (pc := 32) dX8_allOf_32 rfl ?_
      refine r_if_eq (pc := 33) (tgt := 48) dX8_allOf_33 (by decide) (fun q => ?_) (fun q => ?_)
      · have K0 := K0.1 q
        refine r_aload_n (pc := 48) dX8_allOf_48 rfl ?_
        refine r_iload (pc := 49) dX8_allOf_49 rfl ?_
        refine s_VI (pc := 51) mX8_goodOf (ci := 8) (a := b0) (As := [.int l4]) dX8_allOf_51 lk_X8_299 in_X8_goodOf mo_X8_goodOf ⟨by decide, rfl⟩ ⟨by decide, by decide⟩ (Nat.le_of_ble_eq_true rfl) k_b0 (sr_X8_goodOf k_b0 g_b0_3 k_b0_3 p_3 ?_)
        refine r_iadd (pc := 54) dX8_allOf_54 ?_
        obtain ⟨r_6, w_7⟩ : ∃ z : Int32, z = (l3 + (nI (cpt (so (gi x b0_3) (l4 : Int32).toNatClampNeg 8 ||| so (gi x b0_3) (l4 : Int32).toNatClampNeg 10)))) := ⟨_, rfl⟩
        rw [← w_7]
        have K0 := K0 r_6 w_7
        refine r_istore_n (pc := 55) dX8_allOf_55 (by decide) ?_
        refine r_iinc (pc := 56) (L := [some (.ref b0), some (.int l1), some (.int l2), some (.int r_6), some (.int l4)]) (v := l4 + 1) dX8_allOf_56 rfl rfl (by decide) ?_
        refine r_goto (pc := 59) (L := [some (.ref b0), some (.int l1), some (.int l2), some (.int r_6), some (.int (l4 + 1))]) (tgt := 5) dX8_allOf_59 (by decide) ?_
        exact r_le (L' := [some (.ref b0), some (.int l1), some (.int l2), some (.int r_6), some (.int (l4 + 1))]) ⟨rfl, ⟨rfl, ⟨rfl, ⟨rfl, ⟨rfl, trivial⟩⟩⟩⟩⟩ K0
      · have K0 := K0.2 q
        refine r_aload_n (pc := 36) dX8_allOf_36 rfl ?_
        refine r_iload (pc := 37) dX8_allOf_37 rfl ?_
        refine s_VI (pc := 39) mX8_basisOf (ci := 8) (a := b0) (As := [.int l4]) dX8_allOf_39 lk_X8_71 in_X8_basisOf mo_X8_basisOf ⟨by decide, rfl⟩ ⟨by decide, by decide⟩ (Nat.le_of_ble_eq_true rfl) k_b0 (sr_X8_basisOf k_b0 g_b0_3 k_b0_3 p_3 ?_)
        refine s_SI (pc := 42) mX8_bits (As := [.int (bas (gi x b0_3) (l4 : Int32).toNatClampNeg)]) dX8_allOf_42 lk_X8_296 st_X8_bits mo_X8_bits ⟨by decide, by decide⟩ (Nat.le_of_ble_eq_true rfl) (sp_X8_bits  ?_)
        refine r_goto (pc := 45) (tgt := 54) dX8_allOf_45 (by decide) ?_
        refine r_iadd (pc := 54) dX8_allOf_54 ?_
        refine r_istore_n (pc := 55) dX8_allOf_55 (by decide) ?_
        refine r_iinc (pc := 56) (L := [some (.ref b0), some (.int l1), some (.int l2), some (.int (l3 + (nI (cpt (bas (gi x b0_3) (l4 : Int32).toNatClampNeg))))), some (.int l4)]) (v := l4 + 1) dX8_allOf_56 rfl rfl (by decide) ?_
        refine r_goto (pc := 59) (L := [some (.ref b0), some (.int l1), some (.int l2), some (.int (l3 + (nI (cpt (bas (gi x b0_3) (l4 : Int32).toNatClampNeg))))), some (.int (l4 + 1))]) (tgt := 5) dX8_allOf_59 (by decide) ?_
        exact r_le (L' := [some (.ref b0), some (.int l1), some (.int l2), some (.int (l3 + (nI (cpt (bas (gi x b0_3) (l4 : Int32).toNatClampNeg))))), some (.int (l4 + 1))]) ⟨rfl, ⟨rfl, ⟨rfl, ⟨rfl, ⟨rfl, trivial⟩⟩⟩⟩⟩ K0
    · have K0 := K0.2 q
      refine r_iconst (pc := 28) (v := 0) dX8_allOf_28 (by decide) ?_
      refine r_goto (pc := 29) (tgt := 54) dX8_allOf_29 (by decide) ?_
      refine r_iadd (pc := 54) dX8_allOf_54 ?_
      refine r_istore_n (pc := 55) dX8_allOf_55 (by decide) ?_
      refine r_iinc (pc := 56) (L := [some (.ref b0), some (.int l1), some (.int l2), some (.int (l3 + 0)), some (.int l4)]) (v := l4 + 1) dX8_allOf_56 rfl rfl (by decide) ?_
      refine r_goto (pc := 59) (L := [some (.ref b0), some (.int l1), some (.int l2), some (.int (l3 + 0)), some (.int (l4 + 1))]) (tgt := 5) dX8_allOf_59 (by decide) ?_
      exact r_le (L' := [some (.ref b0), some (.int l1), some (.int l2), some (.int (l3 + 0)), some (.int (l4 + 1))]) ⟨rfl, ⟨rfl, ⟨rfl, ⟨rfl, ⟨rfl, trivial⟩⟩⟩⟩⟩ K0
section
variable {x : Cn} {Q : Int32 → Cn → Prop}
theorem sp_X8_allOf_1 {S : Nat} (M : MRf x 718) (h2 : gi x 718 2 = nI S) (hS : S ≤ 24) {c : Int32} (k : Q (bOf (gi x 718) S c (-1)) x) : mSI mX8_allOf [.ref 717, .int c, .int 1] KW x Q := by
  refine v_X8_allOf_0 (lp_acc (addS (fun s => so (gi x 718) s 0 = c ∧ ((-1 : Int32) = -1 ∨ so (gi x 718) s 1 = -1)) (fun s => nI (cpt (bas (gi x 718) s)))) (fun s a => GI mX8_allOf 5 [some (.ref 717), some (.int c), some (.int 1), some (.int a), some (.int (nI s))] [] KW x Q) S 0 ?_ (fun s a hs n1 => ?_))
  · exact v_X8_allOf_5 km M.1 km1 M.2.2.1 km1 ⟨v0 (k := 2) (by decide) rfl rfl, fun _ => k, fun z => absurd (by rw [h2]; exact Int32.le_refl _) z⟩
  · refine v_X8_allOf_5 km M.1 km1 M.2.2.1 km1 ⟨v0 (k := 2) (by decide) rfl rfl, fun z => absurd (by rw [h2] at z; exact z) (nI_ge hs (by omega)), fun _ => ⟨l24_nI (by omega) rfl, ?_⟩⟩
    rw [nI_clamp (show s < 2 ^ 31 by omega), nI_1, Int32.add_zero]
    exact ⟨fun z => ⟨fun w => absurd w (by decide), fun _ => n1 _ (if_pos ⟨z, Or.inl rfl⟩)⟩, fun z => n1 _ (if_neg (fun g => z g.1))⟩
theorem sp_X8_allOf_0 {S : Nat} (M : MRf x 718) (h2 : gi x 718 2 = nI S) (hS : S ≤ 24) {c : Int32} (k : Q (gOf (gi x 718) S c) x) : mSI mX8_allOf [.ref 717, .int c, .int 0] KW x Q := by
  refine v_X8_allOf_0 (lp_acc (addS (fun s => so (gi x 718) s 0 = c) (fun s => nI (cpt (so (gi x 718) s 8 ||| so (gi x 718) s 10)))) (fun s a => GI mX8_allOf 5 [some (.ref 717), some (.int c), some (.int 0), some (.int a), some (.int (nI s))] [] KW x Q) S 0 ?_ (fun s a hs n1 => ?_))
  · exact v_X8_allOf_5 km M.1 km1 M.2.2.1 km1 ⟨v0 (k := 2) (by decide) rfl rfl, fun _ => k, fun z => absurd (by rw [h2]; exact Int32.le_refl _) z⟩
  · refine v_X8_allOf_5 km M.1 km1 M.2.2.1 km1 ⟨v0 (k := 2) (by decide) rfl rfl, fun z => absurd (by rw [h2] at z; exact z) (nI_ge hs (by omega)), fun _ => ⟨l24_nI (by omega) rfl, ?_⟩⟩
    rw [nI_clamp (show s < 2 ^ 31 by omega), nI_1, Int32.add_zero]
    exact ⟨fun z => ⟨fun _ r er => n1 _ (by rw [er]; exact if_pos z), fun w => absurd (by decide) w⟩, fun z => n1 _ (if_neg z)⟩
/-- of two carriers the first uses more -/
def btr (T : TT) (S : Nat) (a b : Int32) : Prop := if bOf T S a (-1) = 0 ∨ bOf T S b (-1) = 0 then (bOf T S a (-1) ≠ bOf T S b (-1) ∧ 0 < bOf T S a (-1)) ∨ (bOf T S a (-1) = bOf T S b (-1) ∧ a < b) else (gOf T S b * bOf T S a (-1) < gOf T S a * bOf T S b (-1)) ∨ (gOf T S a * bOf T S b (-1) = gOf T S b * bOf T S a (-1) ∧ a < b)
end
set_option maxHeartbeats 2000000 in
theorem v_X7_usesMore_0 {K : Sh} {x : Cn} {Q : Int32 → Cn → Prop} {b0 : Nat} {l1 : Int32} {l2 : Int32} {b0_2 : Nat} (k_b0 : kk K b0 = some (7, 0)) (g_b0_2 : gr x b0 2 = some b0_2) (k_b0_2 : kk K b0_2 = some (4, 0)) (K0 : mSI mX4_basisOf [.ref b0_2, .int l1, .int (-1)] K x (fun r_2 y_1 => gr y_1 b0 2 = some b0_2 ∧ (mSI mX4_basisOf [.ref b0_2, .int l2, .int (-1)] K y_1 (fun r_5 y_4 => (r_2 = 0 → (GI mX7_usesMore 30 [some (.ref b0), some (.int l1), some (.int l2), some (.int r_2), some (.int r_5), none, none] [] K y_4 Q)) ∧ (¬ r_2 = 0 → ((¬ r_5 = 0 → (gr y_4 b0 2 = some b0_2 ∧ (mSI mX4_goodOf [.ref b0_2, .int l1] K y_4 (fun r_10 y_9 => gr y_9 b0 2 = some b0_2 ∧ (mSI mX4_goodOf [.ref b0_2, .int l2] K y_9 (fun r_13 y_12 => (¬ (r_10 * r_5) = (r_13 * r_2) → (((r_10 * r_5) ≤ (r_13 * r_2) → (Q 0 y_12)) ∧ (¬ (r_10 * r_5) ≤ (r_13 * r_2) → (Q 1 y_12)))) ∧ ((r_10 * r_5) = (r_13 * r_2) → ((l2 ≤ l1 → (Q 0 y_12)) ∧ (¬ l2 ≤ l1 → (Q 1 y_12)))))))))) ∧ (r_5 = 0 → (GI mX7_usesMore 30 [some (.ref b0), some (.int l1), some (.int l2), some (.int r_2), some (.int r_5), none, none] [] K y_4 Q)))))))) : mSI mX7_usesMore [.ref b0, .int l1, .int l2] K x Q := by
  refine s_I (by decide) (by simp [Value.category]) (Nat.le_of_ble_eq_true rfl) ?_
  show mGM mX7_usesMore 0 [some (.ref b0), some (.int l1), some (.int l2), none, none, none, none] [] (hp K x) (PI K Q)
  refine r_aload_n (pc := 0) dX7_usesMore_0 rfl ?_
  refine s_getR (pc := 1) dX7_usesMore_1 fl_X7_20 rfl k_b0 g_b0_2 ?_
  refine r_iload_n (pc := 4) dX7_usesMore_4 rfl ?_
  refine r_iconst (pc := 5) (v := (-1)) dX7_usesMore_5 (by decide) ?_
  refine s_VI (pc := 6) mX4_basisOf (ci := 4) (a := b0_2) (As := [.int l1, .int (-1)]) dX7_usesMore_6 lk_X7_263 in_X4_basisOf mo_X4_basisOf ⟨by decide, rfl⟩ ⟨by decide, by decide⟩ (Nat.le_of_ble_eq_true rfl) k_b0_2 (mSI_mono K0 (fun r_2 y_1 K0 => ?_))
  refine r_istore_n (pc := 9) dX7_usesMore_9 (by decide) ?_
  refine r_aload_n (pc := 10) (L := [some (.ref b0), some (.int l1), some (.int l2), some (.int r_2), none, none, none]) dX7_usesMore_10 rfl ?_
  obtain ⟨g_3, K0⟩ := K0
  refine s_getR (pc := 11) dX7_usesMore_11 fl_X7_20 rfl k_b0 g_3 ?_
  refine r_iload_n (pc := 14) dX7_usesMore_14 rfl ?_
  refine r_iconst (pc := 15) (v := (-1)) dX7_usesMore_15 (by decide) ?_
  refine s_VI (pc := 16) mX4_basisOf (ci := 4) (a := b0_2) (As := [.int l2, .int (-1)]) dX7_usesMore_16 lk_X7_263 in_X4_basisOf mo_X4_basisOf ⟨by decide, rfl⟩ ⟨by decide, by decide⟩ (Nat.le_of_ble_eq_true rfl) k_b0_2 (mSI_mono K0 (fun r_5 y_4 K0 => ?_))
  refine r_istore (pc := 19) dX7_usesMore_19 (by decide) ?_
  refine r_iload_n (pc := 21) (L := [some (.ref b0), some (.int l1), some (.int l2), some (.int r_2), some (.int r_5), none, none]) dX7_usesMore_21 rfl ?_
  refine r_if_eq (pc := 22) (tgt := 30) dX7_usesMore_22 (by decide) (fun q => ?_) (fun q => ?_)
  · have K0 := K0.1 q
    exact r_le (L' := [some (.ref b0), some (.int l1), some (.int l2), some (.int r_2), some (.int r_5), none, none]) ⟨rfl, ⟨rfl, ⟨rfl, ⟨rfl, ⟨rfl, trivial⟩⟩⟩⟩⟩ K0
  · have K0 := K0.2 q
    refine r_iload (pc := 25) dX7_usesMore_25 rfl ?_
    refine r_if_ne (pc := 27) (tgt := 59) dX7_usesMore_27 (by decide) (fun q => ?_) (fun q => ?_)
    · have K0 := K0.1 q
      refine r_aload_n (pc := 59) dX7_usesMore_59 rfl ?_
      obtain ⟨g_8, K0⟩ := K0
      refine s_getR (pc := 60) dX7_usesMore_60 fl_X7_20 rfl k_b0 g_8 ?_
      refine r_iload_n (pc := 63) dX7_usesMore_63 rfl ?_
      refine s_VI (pc := 64) mX4_goodOf (ci := 4) (a := b0_2) (As := [.int l1]) dX7_usesMore_64 lk_X7_387 in_X4_goodOf mo_X4_goodOf ⟨by decide, rfl⟩ ⟨by decide, by decide⟩ (Nat.le_of_ble_eq_true rfl) k_b0_2 (mSI_mono K0 (fun r_10 y_9 K0 => ?_))
      refine r_iload (pc := 67) dX7_usesMore_67 rfl ?_
      refine r_imul (pc := 69) dX7_usesMore_69 ?_
      refine r_istore (pc := 70) dX7_usesMore_70 (by decide) ?_
      refine r_aload_n (pc := 72) (L := [some (.ref b0), some (.int l1), some (.int l2), some (.int r_2), some (.int r_5), some (.int (r_10 * r_5)), none]) dX7_usesMore_72 rfl ?_
      obtain ⟨g_11, K0⟩ := K0
      refine s_getR (pc := 73) dX7_usesMore_73 fl_X7_20 rfl k_b0 g_11 ?_
      refine r_iload_n (pc := 76) dX7_usesMore_76 rfl ?_
      refine s_VI (pc := 77) mX4_goodOf (ci := 4) (a := b0_2) (As := [.int l2]) dX7_usesMore_77 lk_X7_387 in_X4_goodOf mo_X4_goodOf ⟨by decide, rfl⟩ ⟨by decide, by decide⟩ (Nat.le_of_ble_eq_true rfl) k_b0_2 (mSI_mono K0 (fun r_13 y_12 K0 => ?_))
      refine r_iload_n (pc := 80) dX7_usesMore_80 rfl ?_
      refine r_imul (pc := 81) dX7_usesMore_81 ?_
      refine r_istore (pc := 82) dX7_usesMore_82 (by decide) ?_
      refine r_iload (pc := 84) (L := [some (.ref b0), some (.int l1), some (.int l2), some (.int r_2), some (.int r_5), some (.int (r_10 * r_5)), some (.int (r_13 * r_2))]) dX7_usesMore_84 rfl ?_
      refine r_iload (pc := 86) dX7_usesMore_86 rfl ?_
      refine r_icmp_ne (pc := 88) (tgt := 104) dX7_usesMore_88 (by decide) (fun q => ?_) (fun q => ?_)
      · have K0 := K0.1 q
        refine r_iload (pc := 104) dX7_usesMore_104 rfl ?_
        refine r_iload (pc := 106) dX7_usesMore_106 rfl ?_
        refine r_icmp_le (pc := 108) (tgt := 115) dX7_usesMore_108 (by decide) (fun q => ?_) (fun q => ?_)
        · have K0 := K0.1 q
          refine r_iconst (pc := 115) (v := 0) dX7_usesMore_115 (by decide) ?_
          exact s_zret rfl (by decide) dX7_usesMore_116 K0
        · have K0 := K0.2 q
          refine r_iconst (pc := 111) (v := 1) dX7_usesMore_111 (by decide) ?_
          refine r_goto (pc := 112) (tgt := 116) dX7_usesMore_112 (by decide) ?_
          exact s_zret rfl (by decide) dX7_usesMore_116 K0
      · have K0 := K0.2 q
        refine r_iload_n (pc := 91) dX7_usesMore_91 rfl ?_
        refine r_iload_n (pc := 92) dX7_usesMore_92 rfl ?_
        refine r_icmp_ge (pc := 93) (tgt := 100) dX7_usesMore_93 (by decide) (fun q => ?_) (fun q => ?_)
        · have K0 := K0.1 q
          refine r_iconst (pc := 100) (v := 0) dX7_usesMore_100 (by decide) ?_
          refine r_goto (pc := 101) (tgt := 116) dX7_usesMore_101 (by decide) ?_
          exact s_zret rfl (by decide) dX7_usesMore_116 K0
        · have K0 := K0.2 q
          refine r_iconst (pc := 96) (v := 1) dX7_usesMore_96 (by decide) ?_
          refine r_goto (pc := 97) (tgt := 116) dX7_usesMore_97 (by decide) ?_
          exact s_zret rfl (by decide) dX7_usesMore_116 K0
    · have K0 := K0.2 q
      exact r_le (L' := [some (.ref b0), some (.int l1), some (.int l2), some (.int r_2), some (.int r_5), none, none]) ⟨rfl, ⟨rfl, ⟨rfl, ⟨rfl, ⟨rfl, trivial⟩⟩⟩⟩⟩ K0
set_option maxHeartbeats 2000000 in
theorem v_X7_usesMore_30 {K : Sh} {x : Cn} {Q : Int32 → Cn → Prop} {b0 : Nat} {l1 : Int32} {l2 : Int32} {l3 : Int32} {l4 : Int32}   (K0 : (¬ l3 = l4 → ((l3 ≤ 0 → (Q 0 x)) ∧ (¬ l3 ≤ 0 → (Q 1 x)))) ∧ (l3 = l4 → ((l2 ≤ l1 → (Q 0 x)) ∧ (¬ l2 ≤ l1 → (Q 1 x))))) : GI mX7_usesMore 30 [some (.ref b0), some (.int l1), some (.int l2), some (.int l3), some (.int l4), none, none] [] K x Q := by
  show mGM mX7_usesMore 30 [some (.ref b0), some (.int l1), some (.int l2), some (.int l3), some (.int l4), none, none] [] (hp K x) (PI K Q)
  refine r_iload_n (pc := 30) dX7_usesMore_30 rfl ?_
  refine r_iload (pc := 31) dX7_usesMore_31 rfl ?_
  refine r_icmp_ne (pc := 33) (tgt := 49) dX7_usesMore_33 (by decide) (fun q => ?_) (fun q => ?_)
  · have K0 := K0.1 q
    refine r_iload_n (pc := 49) dX7_usesMore_49 rfl ?_
    refine r_if_le (pc := 50) (tgt := 57) dX7_usesMore_50 (by decide) (fun q => ?_) (fun q => ?_)
    · have K0 := K0.1 q
      refine r_iconst (pc := 57) (v := 0) dX7_usesMore_57 (by decide) ?_
      exact s_zret rfl (by decide) dX7_usesMore_58 K0
    · have K0 := K0.2 q
      refine r_iconst (pc := 53) (v := 1) dX7_usesMore_53 (by decide) ?_
      refine r_goto (pc := 54) (tgt := 58) dX7_usesMore_54 (by decide) ?_
      exact s_zret rfl (by decide) dX7_usesMore_58 K0
  · have K0 := K0.2 q
    refine r_iload_n (pc := 36) dX7_usesMore_36 rfl ?_
    refine r_iload_n (pc := 37) dX7_usesMore_37 rfl ?_
    refine r_icmp_ge (pc := 38) (tgt := 45) dX7_usesMore_38 (by decide) (fun q => ?_) (fun q => ?_)
    · have K0 := K0.1 q
      refine r_iconst (pc := 45) (v := 0) dX7_usesMore_45 (by decide) ?_
      refine r_goto (pc := 46) (tgt := 58) dX7_usesMore_46 (by decide) ?_
      exact s_zret rfl (by decide) dX7_usesMore_58 K0
    · have K0 := K0.2 q
      refine r_iconst (pc := 41) (v := 1) dX7_usesMore_41 (by decide) ?_
      refine r_goto (pc := 42) (tgt := 58) dX7_usesMore_42 (by decide) ?_
      exact s_zret rfl (by decide) dX7_usesMore_58 K0
section
variable {x : Cn} {Q : Int32 → Cn → Prop}
theorem sp_X7_usesMore {x : Cn} {Q : Int32 → Cn → Prop} {T : TT} {W C S A N : Nat} (c1 : CRf x) (E : SEA x 2 T W C S A N) {a b : Int32} (k : Q (bP (btr T S a b)) x) : mSI mX7_usesMore [.ref 0, .int a, .int b] KW x Q := by
  have k2 := bP_k k
  have mid : (bOf T S a (-1) = 0 ∨ bOf T S b (-1) = 0) → GI mX7_usesMore 30 [some (.ref 0), some (.int a), some (.int b), some (.int (bOf T S a (-1))), some (.int (bOf T S b (-1))), none, none] [] KW x Q := by
    intro z
    unfold btr at k2
    rw [if_pos z] at k2
    refine v_X7_usesMore_30 ⟨fun w => ⟨fun w2 => k2.2 ?_, fun w2 => k2.1 (Or.inl ⟨w, Int32.not_le.mp w2⟩)⟩, fun w => ⟨fun w2 => k2.2 ?_, fun w2 => k2.1 (Or.inr ⟨w, Int32.not_le.mp w2⟩)⟩⟩
    · rintro (u | u)
      · exact Int32.not_le.mpr u.2 w2
      · exact w u.1
    · rintro (u | u)
      · exact u.1 w
      · exact Int32.not_le.mpr u.2 w2
  refine v_X7_usesMore_0 k0 c1.2.1 (ks0 E.1) (sp_X4_basisOf E ⟨c1.2.1, sp_X4_basisOf E ⟨fun z => mid (Or.inl z), fun z => ⟨fun z2 => ⟨c1.2.1, sp_X4_goodOf E ⟨c1.2.1, sp_X4_goodOf E ?_⟩⟩, fun z2 => mid (Or.inr z2)⟩⟩⟩)
  unfold btr at k2
  rw [if_neg (fun u => u.elim z z2)] at k2
  refine ⟨fun w => ⟨fun w2 => k2.2 ?_, fun w2 => k2.1 (Or.inl (Int32.not_le.mp w2))⟩, fun w => ⟨fun w2 => k2.2 ?_, fun w2 => k2.1 (Or.inr ⟨w, Int32.not_le.mp w2⟩)⟩⟩
  · rintro (u | u)
    · exact Int32.not_le.mpr u w2
    · exact w u.1
  · rintro (u | u)
    · rw [w] at u
      exact Int32.lt_irrefl u
    · exact Int32.not_le.mpr u.2 w2
theorem dif_sgn {a b : Nat} (ha : a < 2 ^ 30) (hb : b < 2 ^ 30) : (0 < nI a - nI b ↔ nI b < nI a) ∧ (nI a - nI b = 0 ↔ nI a = nI b) := by
  have e := pk_sub_toInt ha hb
  refine ⟨?_, ?_⟩
  · rw [Int32.lt_iff_toInt_lt, e, nI_ltI (by omega) (by omega)]
    show (0 : Int) < _ ↔ _
    omega
  · rw [← Int32.toInt_inj, e, nI_eq (by omega) (by omega)]
    show _ = (0 : Int) ↔ _
    omega
end
set_option maxHeartbeats 2000000 in
theorem v_X8_isBetter_0 {K : Sh} {x : Cn} {Q : Int32 → Cn → Prop} {b0 : Nat} {l1 : Int32} {l2 : Int32}  (k_b0 : kk K b0 = some (8, 0)) (K0 : mSI mX8_allOf [.ref b0, .int l1, .int 1] K x (fun r_2 y_1 => mSI mX8_allOf [.ref b0, .int l2, .int 1] K y_1 (fun r_4 y_3 => (r_2 = 0 → (GI mX8_isBetter 24 [some (.ref b0), some (.int l1), some (.int l2), some (.int r_2), some (.int r_4), none] [] K y_3 Q)) ∧ (¬ r_2 = 0 → ((¬ r_4 = 0 → (mSI mX8_allOf [.ref b0, .int l1, .int 0] K y_3 (fun r_8 y_7 => mSI mX8_allOf [.ref b0, .int l2, .int 0] K y_7 (fun r_10 y_9 => (0 < ((r_8 * r_4) - (r_10 * r_2)) → (Q 1 y_9)) ∧ (¬ 0 < ((r_8 * r_4) - (r_10 * r_2)) → ((¬ ((r_8 * r_4) - (r_10 * r_2)) = 0 → (Q 0 y_9)) ∧ (((r_8 * r_4) - (r_10 * r_2)) = 0 → ((l2 ≤ l1 → (Q 0 y_9)) ∧ (¬ l2 ≤ l1 → (Q 1 y_9)))))))))) ∧ (r_4 = 0 → (GI mX8_isBetter 24 [some (.ref b0), some (.int l1), some (.int l2), some (.int r_2), some (.int r_4), none] [] K y_3 Q))))))) : mSI mX8_isBetter [.ref b0, .int l1, .int l2] K x Q := by
  refine s_I (by decide) (by simp [Value.category]) (Nat.le_of_ble_eq_true rfl) ?_
  show mGM mX8_isBetter 0 [some (.ref b0), some (.int l1), some (.int l2), none, none, none] [] (hp K x) (PI K Q)
  refine r_aload_n (pc := 0) dX8_isBetter_0 rfl ?_
  refine r_iload_n (pc := 1) dX8_isBetter_1 rfl ?_
  refine r_iconst (pc := 2) (v := 1) dX8_isBetter_2 (by decide) ?_
  refine s_VI (pc := 3) mX8_allOf (ci := 8) (a := b0) (As := [.int l1, .int 1]) dX8_isBetter_3 lk_X8_316 in_X8_allOf mo_X8_allOf ⟨by decide, rfl⟩ ⟨by decide, by decide⟩ (Nat.le_of_ble_eq_true rfl) k_b0 (mSI_mono K0 (fun r_2 y_1 K0 => ?_))
  refine r_istore_n (pc := 6) dX8_isBetter_6 (by decide) ?_
  refine r_aload_n (pc := 7) (L := [some (.ref b0), some (.int l1), some (.int l2), some (.int r_2), none, none]) dX8_isBetter_7 rfl ?_
  refine r_iload_n (pc := 8) dX8_isBetter_8 rfl ?_
  refine r_iconst (pc := 9) (v := 1) dX8_isBetter_9 (by decide) ?_
  refine s_VI (pc := 10) mX8_allOf (ci := 8) (a := b0) (As := [.int l2, .int 1]) dX8_isBetter_10 lk_X8_316 in_X8_allOf mo_X8_allOf ⟨by decide, rfl⟩ ⟨by decide, by decide⟩ (Nat.le_of_ble_eq_true rfl) k_b0 (mSI_mono K0 (fun r_4 y_3 K0 => ?_))
  refine r_istore (pc := 13) dX8_isBetter_13 (by decide) ?_
  refine r_iload_n (pc := 15) (L := [some (.ref b0), some (.int l1), some (.int l2), some (.int r_2), some (.int r_4), none]) dX8_isBetter_15 rfl ?_
  refine r_if_eq (pc := 16) (tgt := 24) dX8_isBetter_16 (by decide) (fun q => ?_) (fun q => ?_)
  · have K0 := K0.1 q
    exact r_le (L' := [some (.ref b0), some (.int l1), some (.int l2), some (.int r_2), some (.int r_4), none]) ⟨rfl, ⟨rfl, ⟨rfl, ⟨rfl, ⟨rfl, trivial⟩⟩⟩⟩⟩ K0
  · have K0 := K0.2 q
    refine r_iload (pc := 19) dX8_isBetter_19 rfl ?_
    refine r_if_ne (pc := 21) (tgt := 44) dX8_isBetter_21 (by decide) (fun q => ?_) (fun q => ?_)
    · have K0 := K0.1 q
      refine r_aload_n (pc := 44) dX8_isBetter_44 rfl ?_
      refine r_iload_n (pc := 45) dX8_isBetter_45 rfl ?_
      refine r_iconst (pc := 46) (v := 0) dX8_isBetter_46 (by decide) ?_
      refine s_VI (pc := 47) mX8_allOf (ci := 8) (a := b0) (As := [.int l1, .int 0]) dX8_isBetter_47 lk_X8_316 in_X8_allOf mo_X8_allOf ⟨by decide, rfl⟩ ⟨by decide, by decide⟩ (Nat.le_of_ble_eq_true rfl) k_b0 (mSI_mono K0 (fun r_8 y_7 K0 => ?_))
      refine r_iload (pc := 50) dX8_isBetter_50 rfl ?_
      refine r_imul (pc := 52) dX8_isBetter_52 ?_
      refine r_aload_n (pc := 53) dX8_isBetter_53 rfl ?_
      refine r_iload_n (pc := 54) dX8_isBetter_54 rfl ?_
      refine r_iconst (pc := 55) (v := 0) dX8_isBetter_55 (by decide) ?_
      refine s_VI (pc := 56) mX8_allOf (ci := 8) (a := b0) (As := [.int l2, .int 0]) dX8_isBetter_56 lk_X8_316 in_X8_allOf mo_X8_allOf ⟨by decide, rfl⟩ ⟨by decide, by decide⟩ (Nat.le_of_ble_eq_true rfl) k_b0 (mSI_mono K0 (fun r_10 y_9 K0 => ?_))
      refine r_iload_n (pc := 59) dX8_isBetter_59 rfl ?_
      refine r_imul (pc := 60) dX8_isBetter_60 ?_
      refine r_isub (pc := 61) dX8_isBetter_61 ?_
      refine r_istore (pc := 62) dX8_isBetter_62 (by decide) ?_
      refine r_iload (pc := 64) (L := [some (.ref b0), some (.int l1), some (.int l2), some (.int r_2), some (.int r_4), some (.int ((r_8 * r_4) - (r_10 * r_2)))]) dX8_isBetter_64 rfl ?_
      refine r_if_gt (pc := 66) (tgt := 79) dX8_isBetter_66 (by decide) (fun q => ?_) (fun q => ?_)
      · have K0 := K0.1 q
        refine r_iconst (pc := 79) (v := 1) dX8_isBetter_79 (by decide) ?_
        refine r_goto (pc := 80) (tgt := 84) dX8_isBetter_80 (by decide) ?_
        exact s_zret rfl (by decide) dX8_isBetter_84 K0
      · have K0 := K0.2 q
        refine r_iload (pc := 69) dX8_isBetter_69 rfl ?_
        refine r_if_ne (pc := 71) (tgt := 83) dX8_isBetter_71 (by decide) (fun q => ?_) (fun q => ?_)
        · have K0 := K0.1 q
          refine r_iconst (pc := 83) (v := 0) dX8_isBetter_83 (by decide) ?_
          exact s_zret rfl (by decide) dX8_isBetter_84 K0
        · have K0 := K0.2 q
          refine r_iload_n (pc := 74) dX8_isBetter_74 rfl ?_
          refine r_iload_n (pc := 75) dX8_isBetter_75 rfl ?_
          refine r_icmp_ge (pc := 76) (tgt := 83) dX8_isBetter_76 (by decide) (fun q => ?_) (fun q => ?_)
          · have K0 := K0.1 q
            refine r_iconst (pc := 83) (v := 0) dX8_isBetter_83 (by decide) ?_
            exact s_zret rfl (by decide) dX8_isBetter_84 K0
          · have K0 := K0.2 q
            refine r_iconst (pc := 79) (v := 1) dX8_isBetter_79 (by decide) ?_
            refine r_goto (pc := 80) (tgt := 84) dX8_isBetter_80 (by decide) ?_
            exact s_zret rfl (by decide) dX8_isBetter_84 K0
    · have K0 := K0.2 q
      exact r_le (L' := [some (.ref b0), some (.int l1), some (.int l2), some (.int r_2), some (.int r_4), none]) ⟨rfl, ⟨rfl, ⟨rfl, ⟨rfl, ⟨rfl, trivial⟩⟩⟩⟩⟩ K0
set_option maxHeartbeats 2000000 in
theorem v_X8_isBetter_24 {K : Sh} {x : Cn} {Q : Int32 → Cn → Prop} {b0 : Nat} {l1 : Int32} {l2 : Int32} {l3 : Int32} {l4 : Int32}   (K0 : (0 < l3 → (Q 1 x)) ∧ (¬ 0 < l3 → ((¬ l4 = 0 → (Q 0 x)) ∧ (l4 = 0 → ((l2 ≤ l1 → (Q 0 x)) ∧ (¬ l2 ≤ l1 → (Q 1 x))))))) : GI mX8_isBetter 24 [some (.ref b0), some (.int l1), some (.int l2), some (.int l3), some (.int l4), none] [] K x Q := by
  show mGM mX8_isBetter 24 [some (.ref b0), some (.int l1), some (.int l2), some (.int l3), some (.int l4), none] [] (hp K x) (PI K Q)
  refine r_iload_n (pc := 24) dX8_isBetter_24 rfl ?_
  refine r_if_gt (pc := 25) (tgt := 38) dX8_isBetter_25 (by decide) (fun q => ?_) (fun q => ?_)
  · have K0 := K0.1 q
    refine r_iconst (pc := 38) (v := 1) dX8_isBetter_38 (by decide) ?_
    refine r_goto (pc := 39) (tgt := 43) dX8_isBetter_39 (by decide) ?_
    exact s_zret rfl (by decide) dX8_isBetter_43 K0
  · have K0 := K0.2 q
    refine r_iload (pc := 28) dX8_isBetter_28 rfl ?_
    refine r_if_ne (pc := 30) (tgt := 42) dX8_isBetter_30 (by decide) (fun q => ?_) (fun q => ?_)
    · have K0 := K0.1 q
      refine r_iconst (pc := 42) (v := 0) dX8_isBetter_42 (by decide) ?_
      exact s_zret rfl (by decide) dX8_isBetter_43 K0
    · have K0 := K0.2 q
      refine r_iload_n (pc := 33) dX8_isBetter_33 rfl ?_
      refine r_iload_n (pc := 34) dX8_isBetter_34 rfl ?_
      refine r_icmp_ge (pc := 35) (tgt := 42) dX8_isBetter_35 (by decide) (fun q => ?_) (fun q => ?_)
      · have K0 := K0.1 q
        refine r_iconst (pc := 42) (v := 0) dX8_isBetter_42 (by decide) ?_
        exact s_zret rfl (by decide) dX8_isBetter_43 K0
      · have K0 := K0.2 q
        refine r_iconst (pc := 38) (v := 1) dX8_isBetter_38 (by decide) ?_
        refine r_goto (pc := 39) (tgt := 43) dX8_isBetter_39 (by decide) ?_
        exact s_zret rfl (by decide) dX8_isBetter_43 K0
section
variable {x : Cn} {Q : Int32 → Cn → Prop}
theorem sp_X8_isBetter {x : Cn} {Q : Int32 → Cn → Prop} {S : Nat} (M : MRf x 718) (h2 : gi x 718 2 = nI S) (hS : S ≤ 24) {a b : Int32} (k : Q (bP (btr (gi x 718) S a b)) x) : mSI mX8_isBetter [.ref 717, .int a, .int b] KW x Q := by
  have k2 := bP_k k
  obtain ⟨n1, hn1, e1⟩ := bOf_bd (gi x 718) S a (-1)
  obtain ⟨n2, hn2, e2⟩ := bOf_bd (gi x 718) S b (-1)
  obtain ⟨n3, hn3, e3⟩ := gOf_bd (gi x 718) S a
  obtain ⟨n4, hn4, e4⟩ := gOf_bd (gi x 718) S b
  have mid : (bOf (gi x 718) S a (-1) = 0 ∨ bOf (gi x 718) S b (-1) = 0) → GI mX8_isBetter 24 [some (.ref 717), some (.int a), some (.int b), some (.int (bOf (gi x 718) S a (-1))), some (.int (bOf (gi x 718) S b (-1))), none] [] KW x Q := by
    intro z
    unfold btr at k2
    rw [if_pos z] at k2
    have hp : ∀ {n : Nat}, n ≤ 32 * S → ¬ 0 < nI n → nI n = 0 := fun h g => Int32.le_antisymm (Int32.not_lt.mp g) (nI_pos' (by omega))
    refine v_X8_isBetter_24 ⟨fun w => k2.1 ?_, fun w => ⟨fun w2 => k2.2 ?_, fun w2 => ⟨fun w3 => k2.2 ?_, fun w3 => k2.1 ?_⟩⟩⟩
    · refine Or.inl ⟨fun u => ?_, w⟩
      rcases z with z | z
      · rw [z] at w
        exact Int32.lt_irrefl w
      · rw [u, z] at w
        exact Int32.lt_irrefl w
    · have hz : bOf (gi x 718) S a (-1) = 0 := by rw [e1] at w ⊢; exact hp hn1 w
      rintro (u | u)
      · exact w u.2
      · exact w2 (by rw [← u.1]; exact hz)
    · have hz : bOf (gi x 718) S a (-1) = 0 := by rw [e1] at w ⊢; exact hp hn1 w
      rintro (u | u)
      · exact w u.2
      · exact Int32.not_le.mpr u.2 w3
    · have hz : bOf (gi x 718) S a (-1) = 0 := by rw [e1] at w ⊢; exact hp hn1 w
      exact Or.inr ⟨by rw [hz, w2], Int32.not_le.mp w3⟩
  refine v_X8_isBetter_0 km (sp_X8_allOf_1 M h2 hS (sp_X8_allOf_1 M h2 hS ⟨fun z => mid (Or.inl z), fun z => ⟨fun z2 => sp_X8_allOf_0 M h2 hS (sp_X8_allOf_0 M h2 hS ?_), fun z2 => mid (Or.inr z2)⟩⟩))
  unfold btr at k2
  rw [if_neg (fun u => u.elim z z2)] at k2
  rw [e1, e2, e3, e4] at k2 ⊢
  rw [pk_mul, pk_mul] at k2 ⊢
  have hS2 : 32 * S ≤ 768 := by omega
  have b1 : n3 * n2 < 2 ^ 30 := Nat.lt_of_le_of_lt (Nat.mul_le_mul (Nat.le_trans hn3 hS2) (Nat.le_trans hn2 hS2)) (by decide)
  have b2 : n4 * n1 < 2 ^ 30 := Nat.lt_of_le_of_lt (Nat.mul_le_mul (Nat.le_trans hn4 hS2) (Nat.le_trans hn1 hS2)) (by decide)
  have hd := dif_sgn b1 b2
  rw [hd.1, hd.2]
  refine ⟨fun w => k2.1 (Or.inl w), fun w => ⟨fun w2 => k2.2 ?_, fun w2 => ⟨fun w3 => k2.2 ?_, fun w3 => k2.1 (Or.inr ⟨w2, Int32.not_le.mp w3⟩)⟩⟩⟩
  · rintro (u | u)
    · exact w u
    · exact w2 u.1
  · rintro (u | u)
    · exact w u
    · exact Int32.not_le.mpr u.2 w3

end
end

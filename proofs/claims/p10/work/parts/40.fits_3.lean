set_option maxHeartbeats 2000000 in
theorem v_X8_fitting_50 {K : Sh} {x : Cn} {Q : Int32 → Cn → Prop} {b0 : Nat} {l1 : Int32} {l2 : Int32} {l3 : Int32} {l4 : Int32} {l5 : Int32} {l6 : Int32}  (k_b0 : kk K b0 = some (8, 0)) (K0 : (24 ≤ l6 → (Q l5 x)) ∧ (¬ 24 ≤ l6 → (mSI mX8_canBe [.ref b0, .int (f_span l3 l4), .int l1, .int l6, .int l2, .int (-1)] K x (fun r_3 y_2 => (r_3 = 0 → (GI mX8_fitting 50 [some (.ref b0), some (.int l1), some (.int l2), some (.int l3), some (.int l4), some (.int (l5 ||| 0)), some (.int (l6 + 1))] [] K y_2 Q)) ∧ (¬ r_3 = 0 → (GI mX8_fitting 50 [some (.ref b0), some (.int l1), some (.int l2), some (.int l3), some (.int l4), some (.int (l5 ||| (1 <<< (l6 &&& 31)))), some (.int (l6 + 1))] [] K y_2 Q)))))) : GI mX8_fitting 50 [some (.ref b0), some (.int l1), some (.int l2), some (.int l3), some (.int l4), some (.int l5), some (.int l6)] [] K x Q := by
  show mGM mX8_fitting 50 [some (.ref b0), some (.int l1), some (.int l2), some (.int l3), some (.int l4), some (.int l5), some (.int l6)] [] (hp K x) (PI K Q)
  refine r_iload (pc := 50) dX8_fitting_50 rfl ?_
  refine r_bipush (pc := 52) (v := 24) dX8_fitting_52 (by decide) ?_
  refine r_icmp_ge (pc := 54) (tgt := 94) dX8_fitting_54 (by decide) (fun q => ?_) (fun q => ?_)
  · have K0 := K0.1 q
    refine r_iload (pc := 94) dX8_fitting_94 rfl ?_
    exact s_iret rfl dX8_fitting_96 K0
  · have K0 := K0.2 q
    refine r_iload (pc := 57) dX8_fitting_57 rfl ?_
    refine r_aload_n (pc := 59) dX8_fitting_59 rfl ?_
    refine r_iload_n (pc := 60) dX8_fitting_60 rfl ?_
    refine r_iload (pc := 61) dX8_fitting_61 rfl ?_
    refine s_SI (pc := 63) mX8_span (As := [.int l3, .int l4]) dX8_fitting_63 lk_X8_79 st_X8_span mo_X8_span ⟨by decide, by decide⟩ (Nat.le_of_ble_eq_true rfl) (sp_X8_span  ?_)
    refine r_iload_n (pc := 66) dX8_fitting_66 rfl ?_
    refine r_iload (pc := 67) dX8_fitting_67 rfl ?_
    refine r_iload_n (pc := 69) dX8_fitting_69 rfl ?_
    refine r_iconst (pc := 70) (v := (-1)) dX8_fitting_70 (by decide) ?_
    refine s_VI (pc := 71) mX8_canBe (ci := 8) (a := b0) (As := [.int (f_span l3 l4), .int l1, .int l6, .int l2, .int (-1)]) dX8_fitting_71 lk_X8_90 in_X8_canBe mo_X8_canBe ⟨by decide, rfl⟩ ⟨by decide, by decide⟩ (Nat.le_of_ble_eq_true rfl) k_b0 (mSI_mono K0 (fun r_3 y_2 K0 => ?_))
    refine r_if_eq (pc := 74) (tgt := 84) dX8_fitting_74 (by decide) (fun q => ?_) (fun q => ?_)
    · have K0 := K0.1 q
      refine r_iconst (pc := 84) (v := 0) dX8_fitting_84 (by decide) ?_
      refine r_ior (pc := 85) dX8_fitting_85 ?_
      refine r_istore (pc := 86) dX8_fitting_86 (by decide) ?_
      refine r_iinc (pc := 88) (L := [some (.ref b0), some (.int l1), some (.int l2), some (.int l3), some (.int l4), some (.int (l5 ||| 0)), some (.int l6)]) (v := l6 + 1) dX8_fitting_88 rfl rfl (by decide) ?_
      refine r_goto (pc := 91) (L := [some (.ref b0), some (.int l1), some (.int l2), some (.int l3), some (.int l4), some (.int (l5 ||| 0)), some (.int (l6 + 1))]) (tgt := 50) dX8_fitting_91 (by decide) ?_
      exact r_le (L' := [some (.ref b0), some (.int l1), some (.int l2), some (.int l3), some (.int l4), some (.int (l5 ||| 0)), some (.int (l6 + 1))]) ⟨rfl, ⟨rfl, ⟨rfl, ⟨rfl, ⟨rfl, ⟨rfl, ⟨rfl, trivial⟩⟩⟩⟩⟩⟩⟩ K0
    · have K0 := K0.2 q
      refine r_iconst (pc := 77) (v := 1) dX8_fitting_77 (by decide) ?_
      refine r_iload (pc := 78) dX8_fitting_78 rfl ?_
      refine r_ishl (pc := 80) dX8_fitting_80 ?_
      refine r_goto (pc := 81) (tgt := 85) dX8_fitting_81 (by decide) ?_
      refine r_ior (pc := 85) dX8_fitting_85 ?_
      refine r_istore (pc := 86) dX8_fitting_86 (by decide) ?_
      refine r_iinc (pc := 88) (L := [some (.ref b0), some (.int l1), some (.int l2), some (.int l3), some (.int l4), some (.int (l5 ||| (1 <<< (l6 &&& 31)))), some (.int l6)]) (v := l6 + 1) dX8_fitting_88 rfl rfl (by decide) ?_
      refine r_goto (pc := 91) (L := [some (.ref b0), some (.int l1), some (.int l2), some (.int l3), some (.int l4), some (.int (l5 ||| (1 <<< (l6 &&& 31)))), some (.int (l6 + 1))]) (tgt := 50) dX8_fitting_91 (by decide) ?_
      exact r_le (L' := [some (.ref b0), some (.int l1), some (.int l2), some (.int l3), some (.int l4), some (.int (l5 ||| (1 <<< (l6 &&& 31)))), some (.int (l6 + 1))]) ⟨rfl, ⟨rfl, ⟨rfl, ⟨rfl, ⟨rfl, ⟨rfl, ⟨rfl, trivial⟩⟩⟩⟩⟩⟩⟩ K0
set_option maxHeartbeats 2000000 in
theorem v_X7_blocked_0 {K : Sh} {x : Cn} {Q : Int32 → Cn → Prop} {b0 : Nat} {l1 : Int32} {b0_2 : Nat} {b0_2_8 : Nat} {n_b0_2_8 : Nat} (k_b0 : kk K b0 = some (7, 0)) (g_b0_2 : gr x b0 2 = some b0_2) (k_b0_2 : kk K b0_2 = some (4, 0)) (g_b0_2_8 : gr x b0_2 8 = some b0_2_8) (k_b0_2_8 : kk K b0_2_8 = some (24, n_b0_2_8)) (K0 : ((0 ≤ l1 ∧ l1 < gi x b0_2 4) → (vp_in l1 n_b0_2_8 ∧ (∃ c_3 : Nat, gr x b0_2_8 ((l1 : Int32).toNatClampNeg) = some c_3 ∧ (kk K c_3 = some (0, 0) ∧ (mSI mX4_hasPlaceFor [.ref b0_2, .ref c_3, .int (gi x c_3 2), .int 0] K x (fun r_7 y_6 => (r_7 = 0 → (GI mX7_blocked 44 [some (.ref b0), some (.int l1), some (.ref c_3), some (.int 0), some (.int 0)] [] K y_6 Q)) ∧ (¬ r_7 = 0 → (Q 0 y_6)))))))) ∧ (¬ (0 ≤ l1 ∧ l1 < gi x b0_2 4) → (Q (-2) x))) : mSI mX7_blocked [.ref b0, .int l1] K x Q := by
  refine s_I (by decide) (by simp [Value.category]) (Nat.le_of_ble_eq_true rfl) ?_
  show mGM mX7_blocked 0 [some (.ref b0), some (.int l1), none, none, none] [] (hp K x) (PI K Q)
  refine r_aload_n (pc := 0) dX7_blocked_0 rfl ?_
  refine r_iload_n (pc := 1) dX7_blocked_1 rfl ?_
  refine s_VI (pc := 2) mX7_isAsk (ci := 7) (a := b0) (As := [.int l1]) dX7_blocked_2 lk_X7_173 in_X7_isAsk mo_X7_isAsk ⟨by decide, rfl⟩ ⟨by decide, by decide⟩ (Nat.le_of_ble_eq_true rfl) k_b0 (sp_X7_isAsk k_b0 g_b0_2 k_b0_2 ?_)
  refine r_if_ne (pc := 5) (tgt := 11) dX7_blocked_5 (by decide) (fun q => ?_) (fun q => ?_)
  · have q := b2i_nz q
    have K0 := K0.1 q
    refine r_aload_n (pc := 11) dX7_blocked_11 rfl ?_
    refine s_getR (pc := 12) dX7_blocked_12 fl_X7_20 rfl k_b0 g_b0_2 ?_
    refine s_getR (pc := 15) dX7_blocked_15 fl_X7_176 rfl k_b0_2 g_b0_2_8 ?_
    refine r_iload_n (pc := 18) dX7_blocked_18 rfl ?_
    obtain ⟨i_2, K0⟩ := K0
    obtain ⟨c_3, g_4, K0⟩ := K0
    refine s_aald (pc := 19) dX7_blocked_19 (by decide) rfl k_b0_2_8 i_2 g_4 ?_
    refine r_astore_n (pc := 20) dX7_blocked_20 (by decide) ?_
    refine r_aload_n (pc := 21) (L := [some (.ref b0), some (.int l1), some (.ref c_3), none, none]) dX7_blocked_21 rfl ?_
    refine s_getR (pc := 22) dX7_blocked_22 fl_X7_20 rfl k_b0 g_b0_2 ?_
    refine r_aload_n (pc := 25) dX7_blocked_25 rfl ?_
    refine r_aload_n (pc := 26) dX7_blocked_26 rfl ?_
    obtain ⟨e_5, K0⟩ := K0
    refine s_getI (pc := 27) dX7_blocked_27 fl_X7_184 rfl e_5 ?_
    refine r_iconst (pc := 30) (v := 0) dX7_blocked_30 (by decide) ?_
    refine s_VI (pc := 31) mX4_hasPlaceFor (ci := 4) (a := b0_2) (As := [.ref c_3, .int (gi x c_3 2), .int 0]) dX7_blocked_31 lk_X7_299 in_X4_hasPlaceFor mo_X4_hasPlaceFor ⟨by decide, rfl⟩ ⟨by decide, by decide⟩ (Nat.le_of_ble_eq_true rfl) k_b0_2 (mSI_mono K0 (fun r_7 y_6 K0 => ?_))
    refine r_if_eq (pc := 34) (tgt := 39) dX7_blocked_34 (by decide) (fun q => ?_) (fun q => ?_)
    · have K0 := K0.1 q
      refine r_iconst (pc := 39) (v := 0) dX7_blocked_39 (by decide) ?_
      refine r_istore_n (pc := 40) dX7_blocked_40 (by decide) ?_
      refine r_iconst (pc := 41) (L := [some (.ref b0), some (.int l1), some (.ref c_3), some (.int 0), none]) (v := 0) dX7_blocked_41 (by decide) ?_
      refine r_istore (pc := 42) dX7_blocked_42 (by decide) ?_
      exact r_le (L' := [some (.ref b0), some (.int l1), some (.ref c_3), some (.int 0), some (.int 0)]) ⟨rfl, ⟨rfl, ⟨rfl, ⟨rfl, ⟨rfl, trivial⟩⟩⟩⟩⟩ K0
    · have K0 := K0.2 q
      refine r_iconst (pc := 37) (v := 0) dX7_blocked_37 (by decide) ?_
      exact s_iret rfl dX7_blocked_38 K0
  · have q := (b2i_z _).mp q
    have K0 := K0.2 q
    refine r_bipush (pc := 8) (v := (-2)) dX7_blocked_8 (by decide) ?_
    exact s_iret rfl dX7_blocked_10 K0
set_option maxHeartbeats 2000000 in
theorem v_X7_blocked_44 {K : Sh} {x : Cn} {Q : Int32 → Cn → Prop} {b0 : Nat} {l1 : Int32} {b2 : Nat} {l3 : Int32} {l4 : Int32} {b0_2 : Nat} (k_b0 : kk K b0 = some (7, 0)) (g_b0_2 : gr x b0 2 = some b0_2) (k_b0_2 : kk K b0_2 = some (4, 0)) (k_b2 : kk K b2 = some (0, 0)) (K0 : ((gi x b0_2 3) ≤ l4 → (Q l3 x)) ∧ (¬ (gi x b0_2 3) ≤ l4 → (mSI mX4_hasPlaceFor [.ref b0_2, .ref b2, .int (gi x b2 2), .int (1 <<< (l4 &&& 31))] K x (fun r_3 y_2 => (r_3 = 0 → (GI mX7_blocked 44 [some (.ref b0), some (.int l1), some (.ref b2), some (.int l3), some (.int (l4 + 1))] [] K y_2 Q)) ∧ (¬ r_3 = 0 → (GI mX7_blocked 44 [some (.ref b0), some (.int l1), some (.ref b2), some (.int (l3 ||| (1 <<< (l4 &&& 31)))), some (.int (l4 + 1))] [] K y_2 Q)))))) : GI mX7_blocked 44 [some (.ref b0), some (.int l1), some (.ref b2), some (.int l3), some (.int l4)] [] K x Q := by
  show mGM mX7_blocked 44 [some (.ref b0), some (.int l1), some (.ref b2), some (.int l3), some (.int l4)] [] (hp K x) (PI K Q)
  refine r_iload (pc := 44) dX7_blocked_44 rfl ?_
  refine r_aload_n (pc := 46) dX7_blocked_46 rfl ?_
  refine s_getR (pc := 47) dX7_blocked_47 fl_X7_20 rfl k_b0 g_b0_2 ?_
  refine s_getI (pc := 50) dX7_blocked_50 fl_X7_97 rfl k_b0_2 ?_
  refine r_icmp_ge (pc := 53) (tgt := 88) dX7_blocked_53 (by decide) (fun q => ?_) (fun q => ?_)
  · have K0 := K0.1 q
    refine r_iload_n (pc := 88) dX7_blocked_88 rfl ?_
    exact s_iret rfl dX7_blocked_89 K0
  · have K0 := K0.2 q
    refine r_aload_n (pc := 56) dX7_blocked_56 rfl ?_
    refine s_getR (pc := 57) dX7_blocked_57 fl_X7_20 rfl k_b0 g_b0_2 ?_
    refine r_aload_n (pc := 60) dX7_blocked_60 rfl ?_
    refine r_aload_n (pc := 61) dX7_blocked_61 rfl ?_
    refine s_getI (pc := 62) dX7_blocked_62 fl_X7_184 rfl k_b2 ?_
    refine r_iconst (pc := 65) (v := 1) dX7_blocked_65 (by decide) ?_
    refine r_iload (pc := 66) dX7_blocked_66 rfl ?_
    refine r_ishl (pc := 68) dX7_blocked_68 ?_
    refine s_VI (pc := 69) mX4_hasPlaceFor (ci := 4) (a := b0_2) (As := [.ref b2, .int (gi x b2 2), .int (1 <<< (l4 &&& 31))]) dX7_blocked_69 lk_X7_299 in_X4_hasPlaceFor mo_X4_hasPlaceFor ⟨by decide, rfl⟩ ⟨by decide, by decide⟩ (Nat.le_of_ble_eq_true rfl) k_b0_2 (mSI_mono K0 (fun r_3 y_2 K0 => ?_))
    refine r_if_eq (pc := 72) (tgt := 82) dX7_blocked_72 (by decide) (fun q => ?_) (fun q => ?_)
    · have K0 := K0.1 q
      refine r_iinc (pc := 82) (v := l4 + 1) dX7_blocked_82 rfl rfl (by decide) ?_
      refine r_goto (pc := 85) (L := [some (.ref b0), some (.int l1), some (.ref b2), some (.int l3), some (.int (l4 + 1))]) (tgt := 44) dX7_blocked_85 (by decide) ?_
      exact r_le (L' := [some (.ref b0), some (.int l1), some (.ref b2), some (.int l3), some (.int (l4 + 1))]) ⟨rfl, ⟨rfl, ⟨rfl, ⟨rfl, ⟨rfl, trivial⟩⟩⟩⟩⟩ K0
    · have K0 := K0.2 q
      refine r_iload_n (pc := 75) dX7_blocked_75 rfl ?_
      refine r_iconst (pc := 76) (v := 1) dX7_blocked_76 (by decide) ?_
      refine r_iload (pc := 77) dX7_blocked_77 rfl ?_
      refine r_ishl (pc := 79) dX7_blocked_79 ?_
      refine r_ior (pc := 80) dX7_blocked_80 ?_
      refine r_istore_n (pc := 81) dX7_blocked_81 (by decide) ?_
      refine r_iinc (pc := 82) (L := [some (.ref b0), some (.int l1), some (.ref b2), some (.int (l3 ||| (1 <<< (l4 &&& 31)))), some (.int l4)]) (v := l4 + 1) dX7_blocked_82 rfl rfl (by decide) ?_
      refine r_goto (pc := 85) (L := [some (.ref b0), some (.int l1), some (.ref b2), some (.int (l3 ||| (1 <<< (l4 &&& 31)))), some (.int (l4 + 1))]) (tgt := 44) dX7_blocked_85 (by decide) ?_
      exact r_le (L' := [some (.ref b0), some (.int l1), some (.ref b2), some (.int (l3 ||| (1 <<< (l4 &&& 31)))), some (.int (l4 + 1))]) ⟨rfl, ⟨rfl, ⟨rfl, ⟨rfl, ⟨rfl, trivial⟩⟩⟩⟩⟩ K0
set_option maxHeartbeats 2000000 in
theorem v_X8_blocked_0 {K : Sh} {x : Cn} {Q : Int32 → Cn → Prop} {b0 : Nat} {l1 : Int32} {b0_1 : Nat} {n_b0_1 : Nat} {b0_3 : Nat} {n_b0_3 : Nat} (k_b0 : kk K b0 = some (8, 0)) (g_b0_1 : gr x b0 1 = some b0_1) (k_b0_1 : kk K b0_1 = some (20, n_b0_1)) (g_b0_3 : gr x b0 3 = some b0_3) (k_b0_3 : kk K b0_3 = some (20, n_b0_3)) (K0 : vp_in 3 n_b0_1 ∧ (((0 ≤ l1 ∧ l1 ≤ gi x b0_1 3 - 1) → ((l24 l1 n_b0_3) ∧ (((f_span (ao (gi x b0_3) (l1 : Int32).toNatClampNeg 4) (ao (gi x b0_3) (l1 : Int32).toNatClampNeg 5) &&& f_span (gi x b0_3 4) (gi x b0_3 0 - 1)) = 0 → (Q 0 x)) ∧ (¬ (f_span (ao (gi x b0_3) (l1 : Int32).toNatClampNeg 4) (ao (gi x b0_3) (l1 : Int32).toNatClampNeg 5) &&& f_span (gi x b0_3 4) (gi x b0_3 0 - 1)) = 0 → (mSI mX8_canAsk [.ref b0, .int l1, .int (ao (gi x b0_3) (l1 : Int32).toNatClampNeg 2), .int (-1)] K x (fun r_6 y_5 => (r_6 = 0 → (GI mX8_blocked 40 [some (.ref b0), some (.int l1), some (.int 0), some (.int 0)] [] K y_5 Q)) ∧ (¬ r_6 = 0 → (Q 0 y_5)))))))) ∧ (¬ (0 ≤ l1 ∧ l1 ≤ gi x b0_1 3 - 1) → (Q (-2) x)))) : mSI mX8_blocked [.ref b0, .int l1] K x Q := by
  refine s_I (by decide) (by simp [Value.category]) (Nat.le_of_ble_eq_true rfl) ?_
  show mGM mX8_blocked 0 [some (.ref b0), some (.int l1), none, none] [] (hp K x) (PI K Q)
  refine r_aload_n (pc := 0) dX8_blocked_0 rfl ?_
  refine r_iload_n (pc := 1) dX8_blocked_1 rfl ?_
  obtain ⟨i_1, K0⟩ := K0
  refine s_VI (pc := 2) mX8_isAsk (ci := 8) (a := b0) (As := [.int l1]) dX8_blocked_2 lk_X8_281 in_X8_isAsk mo_X8_isAsk ⟨by decide, rfl⟩ ⟨by decide, by decide⟩ (Nat.le_of_ble_eq_true rfl) k_b0 (sp_X8_isAsk k_b0 g_b0_1 k_b0_1 i_1 ?_)
  refine r_if_ne (pc := 5) (tgt := 11) dX8_blocked_5 (by decide) (fun q => ?_) (fun q => ?_)
  · have q := b2i_nz q
    have K0 := K0.1 q
    refine r_aload_n (pc := 11) dX8_blocked_11 rfl ?_
    refine r_iload_n (pc := 12) dX8_blocked_12 rfl ?_
    obtain ⟨p_3, K0⟩ := K0
    refine s_VI (pc := 13) mX8_weeksOf (ci := 8) (a := b0) (As := [.int l1]) dX8_blocked_13 lk_X8_326 in_X8_weeksOf mo_X8_weeksOf ⟨by decide, rfl⟩ ⟨by decide, by decide⟩ (Nat.le_of_ble_eq_true rfl) k_b0 (sr_X8_weeksOf k_b0 g_b0_3 k_b0_3 p_3 ?_)
    refine r_if_eq (pc := 16) (tgt := 34) dX8_blocked_16 (by decide) (fun q => ?_) (fun q => ?_)
    · have K0 := K0.1 q
      refine r_iconst (pc := 34) (v := 0) dX8_blocked_34 (by decide) ?_
      exact s_iret rfl dX8_blocked_35 K0
    · have K0 := K0.2 q
      refine r_aload_n (pc := 19) dX8_blocked_19 rfl ?_
      refine r_iload_n (pc := 20) dX8_blocked_20 rfl ?_
      refine r_aload_n (pc := 21) dX8_blocked_21 rfl ?_
      refine r_iload_n (pc := 22) dX8_blocked_22 rfl ?_
      refine r_iconst (pc := 23) (v := 2) dX8_blocked_23 (by decide) ?_
      refine s_VI (pc := 24) mX8_ask0 (ci := 8) (a := b0) (As := [.int l1, .int 2]) dX8_blocked_24 lk_X8_284 in_X8_ask0 mo_X8_ask0 ⟨by decide, rfl⟩ ⟨by decide, by decide⟩ (Nat.le_of_ble_eq_true rfl) k_b0 (sr_X8_ask0 k_b0 g_b0_3 k_b0_3 p_3 ⟨by decide, by decide⟩ ?_)
      refine r_iconst (pc := 27) (v := (-1)) dX8_blocked_27 (by decide) ?_
      refine s_VI (pc := 28) mX8_canAsk (ci := 8) (a := b0) (As := [.int l1, .int (ao (gi x b0_3) (l1 : Int32).toNatClampNeg 2), .int (-1)]) dX8_blocked_28 lk_X8_329 in_X8_canAsk mo_X8_canAsk ⟨by decide, rfl⟩ ⟨by decide, by decide⟩ (Nat.le_of_ble_eq_true rfl) k_b0 (mSI_mono K0 (fun r_6 y_5 K0 => ?_))
      refine r_if_eq (pc := 31) (tgt := 36) dX8_blocked_31 (by decide) (fun q => ?_) (fun q => ?_)
      · have K0 := K0.1 q
        refine r_iconst (pc := 36) (v := 0) dX8_blocked_36 (by decide) ?_
        refine r_istore_n (pc := 37) dX8_blocked_37 (by decide) ?_
        refine r_iconst (pc := 38) (L := [some (.ref b0), some (.int l1), some (.int 0), none]) (v := 0) dX8_blocked_38 (by decide) ?_
        refine r_istore_n (pc := 39) dX8_blocked_39 (by decide) ?_
        exact r_le (L' := [some (.ref b0), some (.int l1), some (.int 0), some (.int 0)]) ⟨rfl, ⟨rfl, ⟨rfl, ⟨rfl, trivial⟩⟩⟩⟩ K0
      · have K0 := K0.2 q
        refine r_iconst (pc := 34) (v := 0) dX8_blocked_34 (by decide) ?_
        exact s_iret rfl dX8_blocked_35 K0
  · have q := (b2i_z _).mp q
    have K0 := K0.2 q
    refine r_bipush (pc := 8) (v := (-2)) dX8_blocked_8 (by decide) ?_
    exact s_iret rfl dX8_blocked_10 K0

set_option maxHeartbeats 2000000 in
theorem v_X7_fitting_0 {K : Sh} {x : Cn} {Q : Int32 → Cn → Prop} {b0 : Nat} {l1 : Int32} {l2 : Int32} {l3 : Int32} {l4 : Int32} {b0_2 : Nat} (k_b0 : kk K b0 = some (7, 0)) (g_b0_2 : gr x b0 2 = some b0_2) (k_b0_2 : kk K b0_2 = some (4, 0)) (K0 : (¬ (0 < gi x b0_2 0 ∧ 0 ≤ l1 ∧ l1 < 7) → (Q (-2) x)) ∧ ((0 < gi x b0_2 0 ∧ 0 ≤ l1 ∧ l1 < 7) → ((¬ (l2 = 0 ∨ l2 = 1) → (Q (-2) x)) ∧ ((l2 = 0 ∨ l2 = 1) → ((¬ (0 ≤ l3 ∧ l3 < gi x b0_2 0) → (Q (-2) x)) ∧ ((0 ≤ l3 ∧ l3 < gi x b0_2 0) → ((¬ (0 ≤ l4 ∧ l4 < gi x b0_2 0) → (Q (-2) x)) ∧ ((0 ≤ l4 ∧ l4 < gi x b0_2 0) → ((l3 ≤ l4 → (GI mX7_fitting 55 [some (.ref b0), some (.int l1), some (.int l2), some (.int l3), some (.int l4), some (.int (f_sb l3 l4)), some (.int 0), some (.int 0)] [] K x Q)) ∧ (¬ l3 ≤ l4 → (Q (-2) x))))))))))) : mSI mX7_fitting [.ref b0, .int l1, .int l2, .int l3, .int l4] K x Q := by
  refine s_I (by decide) (by simp [Value.category]) (Nat.le_of_ble_eq_true rfl) ?_
  show mGM mX7_fitting 0 [some (.ref b0), some (.int l1), some (.int l2), some (.int l3), some (.int l4), none, none, none] [] (hp K x) (PI K Q)
  refine r_aload_n (pc := 0) dX7_fitting_0 rfl ?_
  refine r_iload_n (pc := 1) dX7_fitting_1 rfl ?_
  refine s_VI (pc := 2) mX7_isDay (ci := 7) (a := b0) (As := [.int l1]) dX7_fitting_2 lk_X7_245 in_X7_isDay mo_X7_isDay ⟨by decide, rfl⟩ ⟨by decide, by decide⟩ (Nat.le_of_ble_eq_true rfl) k_b0 (sp_X7_isDay k_b0 g_b0_2 k_b0_2 ?_)
  refine r_if_eq (pc := 5) (tgt := 38) dX7_fitting_5 (by decide) (fun q => ?_) (fun q => ?_)
  · have q := (b2i_z _).mp q
    have K0 := K0.1 q
    refine r_bipush (pc := 38) (v := (-2)) dX7_fitting_38 (by decide) ?_
    exact s_iret rfl dX7_fitting_40 K0
  · have q := b2i_nz q
    have K0 := K0.2 q
    refine r_iload_n (pc := 8) dX7_fitting_8 rfl ?_
    refine s_SI (pc := 9) mX7_isWay (As := [.int l2]) dX7_fitting_9 lk_X7_218 st_X7_isWay mo_X7_isWay ⟨by decide, by decide⟩ (Nat.le_of_ble_eq_true rfl) (sp_X7_isWay  ?_)
    refine r_if_eq (pc := 12) (tgt := 38) dX7_fitting_12 (by decide) (fun q => ?_) (fun q => ?_)
    · have q := (b2i_z _).mp q
      have K0 := K0.1 q
      refine r_bipush (pc := 38) (v := (-2)) dX7_fitting_38 (by decide) ?_
      exact s_iret rfl dX7_fitting_40 K0
    · have q := b2i_nz q
      have K0 := K0.2 q
      refine r_aload_n (pc := 15) dX7_fitting_15 rfl ?_
      refine r_iload_n (pc := 16) dX7_fitting_16 rfl ?_
      refine s_VI (pc := 17) mX7_isWeek (ci := 7) (a := b0) (As := [.int l3]) dX7_fitting_17 lk_X7_167 in_X7_isWeek mo_X7_isWeek ⟨by decide, rfl⟩ ⟨by decide, by decide⟩ (Nat.le_of_ble_eq_true rfl) k_b0 (sp_X7_isWeek k_b0 g_b0_2 k_b0_2 ?_)
      refine r_if_eq (pc := 20) (tgt := 38) dX7_fitting_20 (by decide) (fun q => ?_) (fun q => ?_)
      · have q := (b2i_z _).mp q
        have K0 := K0.1 q
        refine r_bipush (pc := 38) (v := (-2)) dX7_fitting_38 (by decide) ?_
        exact s_iret rfl dX7_fitting_40 K0
      · have q := b2i_nz q
        have K0 := K0.2 q
        refine r_aload_n (pc := 23) dX7_fitting_23 rfl ?_
        refine r_iload (pc := 24) dX7_fitting_24 rfl ?_
        refine s_VI (pc := 26) mX7_isWeek (ci := 7) (a := b0) (As := [.int l4]) dX7_fitting_26 lk_X7_167 in_X7_isWeek mo_X7_isWeek ⟨by decide, rfl⟩ ⟨by decide, by decide⟩ (Nat.le_of_ble_eq_true rfl) k_b0 (sp_X7_isWeek k_b0 g_b0_2 k_b0_2 ?_)
        refine r_if_eq (pc := 29) (tgt := 38) dX7_fitting_29 (by decide) (fun q => ?_) (fun q => ?_)
        · have q := (b2i_z _).mp q
          have K0 := K0.1 q
          refine r_bipush (pc := 38) (v := (-2)) dX7_fitting_38 (by decide) ?_
          exact s_iret rfl dX7_fitting_40 K0
        · have q := b2i_nz q
          have K0 := K0.2 q
          refine r_iload (pc := 32) dX7_fitting_32 rfl ?_
          refine r_iload_n (pc := 34) dX7_fitting_34 rfl ?_
          refine r_icmp_ge (pc := 35) (tgt := 41) dX7_fitting_35 (by decide) (fun q => ?_) (fun q => ?_)
          · have K0 := K0.1 q
            refine r_iload_n (pc := 41) dX7_fitting_41 rfl ?_
            refine r_iload (pc := 42) dX7_fitting_42 rfl ?_
            refine s_SI (pc := 44) mX7_spanBits (As := [.int l3, .int l4]) dX7_fitting_44 lk_X7_292 st_X7_spanBits mo_X7_spanBits ⟨by decide, by decide⟩ (Nat.le_of_ble_eq_true rfl) (sp_X7_spanBits  ?_)
            refine r_istore (pc := 47) dX7_fitting_47 (by decide) ?_
            refine r_iconst (pc := 49) (L := [some (.ref b0), some (.int l1), some (.int l2), some (.int l3), some (.int l4), some (.int (f_sb l3 l4)), none, none]) (v := 0) dX7_fitting_49 (by decide) ?_
            refine r_istore (pc := 50) dX7_fitting_50 (by decide) ?_
            refine r_iconst (pc := 52) (L := [some (.ref b0), some (.int l1), some (.int l2), some (.int l3), some (.int l4), some (.int (f_sb l3 l4)), some (.int 0), none]) (v := 0) dX7_fitting_52 (by decide) ?_
            refine r_istore (pc := 53) dX7_fitting_53 (by decide) ?_
            exact r_le (L' := [some (.ref b0), some (.int l1), some (.int l2), some (.int l3), some (.int l4), some (.int (f_sb l3 l4)), some (.int 0), some (.int 0)]) ⟨rfl, ⟨rfl, ⟨rfl, ⟨rfl, ⟨rfl, ⟨rfl, ⟨rfl, ⟨rfl, trivial⟩⟩⟩⟩⟩⟩⟩⟩ K0
          · have K0 := K0.2 q
            refine r_bipush (pc := 38) (v := (-2)) dX7_fitting_38 (by decide) ?_
            exact s_iret rfl dX7_fitting_40 K0
set_option maxHeartbeats 2000000 in
theorem v_X7_fitting_55 {K : Sh} {x : Cn} {Q : Int32 → Cn → Prop} {b0 : Nat} {l1 : Int32} {l2 : Int32} {l3 : Int32} {l4 : Int32} {l5 : Int32} {l6 : Int32} {l7 : Int32} {b0_2 : Nat} (k_b0 : kk K b0 = some (7, 0)) (g_b0_2 : gr x b0 2 = some b0_2) (k_b0_2 : kk K b0_2 = some (4, 0)) (K0 : (24 ≤ l7 → (Q l6 x)) ∧ (¬ 24 ≤ l7 → (mSI mX4_hasPlace [.ref b0_2, .int l1, .int l7, .int l2, .int l5, .int 0] K x (fun r_3 y_2 => (r_3 = 0 → (GI mX7_fitting 55 [some (.ref b0), some (.int l1), some (.int l2), some (.int l3), some (.int l4), some (.int l5), some (.int l6), some (.int (l7 + 1))] [] K y_2 Q)) ∧ (¬ r_3 = 0 → (GI mX7_fitting 55 [some (.ref b0), some (.int l1), some (.int l2), some (.int l3), some (.int l4), some (.int l5), some (.int (l6 ||| (1 <<< (l7 &&& 31)))), some (.int (l7 + 1))] [] K y_2 Q)))))) : GI mX7_fitting 55 [some (.ref b0), some (.int l1), some (.int l2), some (.int l3), some (.int l4), some (.int l5), some (.int l6), some (.int l7)] [] K x Q := by
  show mGM mX7_fitting 55 [some (.ref b0), some (.int l1), some (.int l2), some (.int l3), some (.int l4), some (.int l5), some (.int l6), some (.int l7)] [] (hp K x) (PI K Q)
  refine r_iload (pc := 55) dX7_fitting_55 rfl ?_
  refine r_bipush (pc := 57) (v := 24) dX7_fitting_57 (by decide) ?_
  refine r_icmp_ge (pc := 59) (tgt := 94) dX7_fitting_59 (by decide) (fun q => ?_) (fun q => ?_)
  · have K0 := K0.1 q
    refine r_iload (pc := 94) dX7_fitting_94 rfl ?_
    exact s_iret rfl dX7_fitting_96 K0
  · have K0 := K0.2 q
    refine r_aload_n (pc := 62) dX7_fitting_62 rfl ?_
    refine s_getR (pc := 63) dX7_fitting_63 fl_X7_20 rfl k_b0 g_b0_2 ?_
    refine r_iload_n (pc := 66) dX7_fitting_66 rfl ?_
    refine r_iload (pc := 67) dX7_fitting_67 rfl ?_
    refine r_iload_n (pc := 69) dX7_fitting_69 rfl ?_
    refine r_iload (pc := 70) dX7_fitting_70 rfl ?_
    refine r_iconst (pc := 72) (v := 0) dX7_fitting_72 (by decide) ?_
    refine s_VI (pc := 73) mX4_hasPlace (ci := 4) (a := b0_2) (As := [.int l1, .int l7, .int l2, .int l5, .int 0]) dX7_fitting_73 lk_X7_295 in_X4_hasPlace mo_X4_hasPlace ⟨by decide, rfl⟩ ⟨by decide, by decide⟩ (Nat.le_of_ble_eq_true rfl) k_b0_2 (mSI_mono K0 (fun r_3 y_2 K0 => ?_))
    refine r_if_eq (pc := 76) (tgt := 88) dX7_fitting_76 (by decide) (fun q => ?_) (fun q => ?_)
    · have K0 := K0.1 q
      refine r_iinc (pc := 88) (v := l7 + 1) dX7_fitting_88 rfl rfl (by decide) ?_
      refine r_goto (pc := 91) (L := [some (.ref b0), some (.int l1), some (.int l2), some (.int l3), some (.int l4), some (.int l5), some (.int l6), some (.int (l7 + 1))]) (tgt := 55) dX7_fitting_91 (by decide) ?_
      exact r_le (L' := [some (.ref b0), some (.int l1), some (.int l2), some (.int l3), some (.int l4), some (.int l5), some (.int l6), some (.int (l7 + 1))]) ⟨rfl, ⟨rfl, ⟨rfl, ⟨rfl, ⟨rfl, ⟨rfl, ⟨rfl, ⟨rfl, trivial⟩⟩⟩⟩⟩⟩⟩⟩ K0
    · have K0 := K0.2 q
      refine r_iload (pc := 79) dX7_fitting_79 rfl ?_
      refine r_iconst (pc := 81) (v := 1) dX7_fitting_81 (by decide) ?_
      refine r_iload (pc := 82) dX7_fitting_82 rfl ?_
      refine r_ishl (pc := 84) dX7_fitting_84 ?_
      refine r_ior (pc := 85) dX7_fitting_85 ?_
      refine r_istore (pc := 86) dX7_fitting_86 (by decide) ?_
      refine r_iinc (pc := 88) (L := [some (.ref b0), some (.int l1), some (.int l2), some (.int l3), some (.int l4), some (.int l5), some (.int (l6 ||| (1 <<< (l7 &&& 31)))), some (.int l7)]) (v := l7 + 1) dX7_fitting_88 rfl rfl (by decide) ?_
      refine r_goto (pc := 91) (L := [some (.ref b0), some (.int l1), some (.int l2), some (.int l3), some (.int l4), some (.int l5), some (.int (l6 ||| (1 <<< (l7 &&& 31)))), some (.int (l7 + 1))]) (tgt := 55) dX7_fitting_91 (by decide) ?_
      exact r_le (L' := [some (.ref b0), some (.int l1), some (.int l2), some (.int l3), some (.int l4), some (.int l5), some (.int (l6 ||| (1 <<< (l7 &&& 31)))), some (.int (l7 + 1))]) ⟨rfl, ⟨rfl, ⟨rfl, ⟨rfl, ⟨rfl, ⟨rfl, ⟨rfl, ⟨rfl, trivial⟩⟩⟩⟩⟩⟩⟩⟩ K0
set_option maxHeartbeats 2000000 in
theorem v_X8_fitting_0 {K : Sh} {x : Cn} {Q : Int32 → Cn → Prop} {b0 : Nat} {l1 : Int32} {l2 : Int32} {l3 : Int32} {l4 : Int32} {b0_1 : Nat} {n_b0_1 : Nat} (k_b0 : kk K b0 = some (8, 0)) (g_b0_1 : gr x b0 1 = some b0_1) (k_b0_1 : kk K b0_1 = some (20, n_b0_1)) (K0 : vp_in 0 n_b0_1 ∧ ((¬ (0 < gi x b0_1 0 ∧ 0 ≤ l1 ∧ l1 ≤ 6) → (Q (-2) x)) ∧ ((0 < gi x b0_1 0 ∧ 0 ≤ l1 ∧ l1 ≤ 6) → ((¬ (0 ≤ l2 ∧ l2 ≤ 1) → (Q (-2) x)) ∧ ((0 ≤ l2 ∧ l2 ≤ 1) → ((¬ (0 ≤ l3 ∧ l3 ≤ gi x b0_1 0 - 1) → (Q (-2) x)) ∧ ((0 ≤ l3 ∧ l3 ≤ gi x b0_1 0 - 1) → ((¬ (0 ≤ l4 ∧ l4 ≤ gi x b0_1 0 - 1) → (Q (-2) x)) ∧ ((0 ≤ l4 ∧ l4 ≤ gi x b0_1 0 - 1) → ((l3 ≤ l4 → (GI mX8_fitting 50 [some (.ref b0), some (.int l1), some (.int l2), some (.int l3), some (.int l4), some (.int 0), some (.int 0)] [] K x Q)) ∧ (¬ l3 ≤ l4 → (Q (-2) x)))))))))))) : mSI mX8_fitting [.ref b0, .int l1, .int l2, .int l3, .int l4] K x Q := by
  refine s_I (by decide) (by simp [Value.category]) (Nat.le_of_ble_eq_true rfl) ?_
  show mGM mX8_fitting 0 [some (.ref b0), some (.int l1), some (.int l2), some (.int l3), some (.int l4), none, none] [] (hp K x) (PI K Q)
  refine r_aload_n (pc := 0) dX8_fitting_0 rfl ?_
  refine r_iload_n (pc := 1) dX8_fitting_1 rfl ?_
  obtain ⟨i_1, K0⟩ := K0
  refine s_VI (pc := 2) mX8_isDay (ci := 8) (a := b0) (As := [.int l1]) dX8_fitting_2 lk_X8_61 in_X8_isDay mo_X8_isDay ⟨by decide, rfl⟩ ⟨by decide, by decide⟩ (Nat.le_of_ble_eq_true rfl) k_b0 (sp_X8_isDay k_b0 g_b0_1 k_b0_1 i_1 ?_)
  refine r_if_eq (pc := 5) (tgt := 41) dX8_fitting_5 (by decide) (fun q => ?_) (fun q => ?_)
  · have q := (b2i_z _).mp q
    have K0 := K0.1 q
    refine r_bipush (pc := 41) (v := (-2)) dX8_fitting_41 (by decide) ?_
    exact s_iret rfl dX8_fitting_43 K0
  · have q := b2i_nz q
    have K0 := K0.2 q
    refine r_iload_n (pc := 8) dX8_fitting_8 rfl ?_
    refine r_i2l (pc := 9) dX8_fitting_9 ?_
    refine r_lconst (pc := 10) (v := 0) dX8_fitting_10 (by decide) ?_
    refine r_lconst (pc := 11) (v := 1) dX8_fitting_11 (by decide) ?_
    refine s_SI (pc := 12) mX8_in (As := [.long ((l2 : Int32).toInt64), .long 0, .long 1]) dX8_fitting_12 lk_X8_45 st_X8_in mo_X8_in ⟨by decide, by decide⟩ (Nat.le_of_ble_eq_true rfl) (sq_X8_in (v := l2) (lo := 0) (hi := 1) rfl (by decide) (by decide) ?_)
    refine r_if_eq (pc := 15) (tgt := 41) dX8_fitting_15 (by decide) (fun q => ?_) (fun q => ?_)
    · have q := (b2i_z _).mp q
      have K0 := K0.1 q
      refine r_bipush (pc := 41) (v := (-2)) dX8_fitting_41 (by decide) ?_
      exact s_iret rfl dX8_fitting_43 K0
    · have q := b2i_nz q
      have K0 := K0.2 q
      refine r_aload_n (pc := 18) dX8_fitting_18 rfl ?_
      refine r_iload_n (pc := 19) dX8_fitting_19 rfl ?_
      refine s_VI (pc := 20) mX8_isWeek (ci := 8) (a := b0) (As := [.int l3]) dX8_fitting_20 lk_X8_57 in_X8_isWeek mo_X8_isWeek ⟨by decide, rfl⟩ ⟨by decide, by decide⟩ (Nat.le_of_ble_eq_true rfl) k_b0 (sp_X8_isWeek k_b0 g_b0_1 k_b0_1 i_1 ?_)
      refine r_if_eq (pc := 23) (tgt := 41) dX8_fitting_23 (by decide) (fun q => ?_) (fun q => ?_)
      · have q := (b2i_z _).mp q
        have K0 := K0.1 q
        refine r_bipush (pc := 41) (v := (-2)) dX8_fitting_41 (by decide) ?_
        exact s_iret rfl dX8_fitting_43 K0
      · have q := b2i_nz q
        have K0 := K0.2 q
        refine r_aload_n (pc := 26) dX8_fitting_26 rfl ?_
        refine r_iload (pc := 27) dX8_fitting_27 rfl ?_
        refine s_VI (pc := 29) mX8_isWeek (ci := 8) (a := b0) (As := [.int l4]) dX8_fitting_29 lk_X8_57 in_X8_isWeek mo_X8_isWeek ⟨by decide, rfl⟩ ⟨by decide, by decide⟩ (Nat.le_of_ble_eq_true rfl) k_b0 (sp_X8_isWeek k_b0 g_b0_1 k_b0_1 i_1 ?_)
        refine r_if_eq (pc := 32) (tgt := 41) dX8_fitting_32 (by decide) (fun q => ?_) (fun q => ?_)
        · have q := (b2i_z _).mp q
          have K0 := K0.1 q
          refine r_bipush (pc := 41) (v := (-2)) dX8_fitting_41 (by decide) ?_
          exact s_iret rfl dX8_fitting_43 K0
        · have q := b2i_nz q
          have K0 := K0.2 q
          refine r_iload (pc := 35) dX8_fitting_35 rfl ?_
          refine r_iload_n (pc := 37) dX8_fitting_37 rfl ?_
          refine r_icmp_ge (pc := 38) (tgt := 44) dX8_fitting_38 (by decide) (fun q => ?_) (fun q => ?_)
          · have K0 := K0.1 q
            refine r_iconst (pc := 44) (v := 0) dX8_fitting_44 (by decide) ?_
            refine r_istore (pc := 45) dX8_fitting_45 (by decide) ?_
            refine r_iconst (pc := 47) (L := [some (.ref b0), some (.int l1), some (.int l2), some (.int l3), some (.int l4), some (.int 0), none]) (v := 0) dX8_fitting_47 (by decide) ?_
            refine r_istore (pc := 48) dX8_fitting_48 (by decide) ?_
            exact r_le (L' := [some (.ref b0), some (.int l1), some (.int l2), some (.int l3), some (.int l4), some (.int 0), some (.int 0)]) ⟨rfl, ⟨rfl, ⟨rfl, ⟨rfl, ⟨rfl, ⟨rfl, ⟨rfl, trivial⟩⟩⟩⟩⟩⟩⟩ K0
          · have K0 := K0.2 q
            refine r_bipush (pc := 41) (v := (-2)) dX8_fitting_41 (by decide) ?_
            exact s_iret rfl dX8_fitting_43 K0

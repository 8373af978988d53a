set_option maxHeartbeats 2000000 in
theorem v_X7_gives_38 {K : Sh} {x : Cn} {Q : Int32 → Cn → Prop} {b0 : Nat} {l1 : Int32} {l2 : Int32} {l3 : Int32} {l4 : Int32} {l5 : Int32} {b0_2 : Nat} {b0_2_7 : Nat} {n_b0_2_7 : Nat} (k_b0 : kk K b0 = some (7, 0)) (g_b0_2 : gr x b0 2 = some b0_2) (k_b0_2 : kk K b0_2 = some (4, 0)) (g_b0_2_7 : gr x b0_2 7 = some b0_2_7) (k_b0_2_7 : kk K b0_2_7 = some (23, n_b0_2_7)) (K0 : ((gi x b0_2 3) ≤ l5 → (Q l4 x)) ∧ (¬ (gi x b0_2 3) ≤ l5 → (vp_in l5 n_b0_2_7 ∧ (∃ c_3 : Nat, gr x b0_2_7 ((l5 : Int32).toNatClampNeg) = some c_3 ∧ (kk K c_3 = some (5, 0) ∧ ((¬ (gi x c_3 0 = l1 ∧ (l2 = -1 ∨ gi x c_3 1 = l2)) → (GI mX7_gives 38 [some (.ref b0), some (.int l1), some (.int l2), some (.int l3), some (.int l4), some (.int (l5 + 1)), none, none] [] K x Q)) ∧ ((gi x c_3 0 = l1 ∧ (l2 = -1 ∨ gi x c_3 1 = l2)) → ((((f_open x c_3) &&& l3) = 0 → (GI mX7_gives 38 [some (.ref b0), some (.int l1), some (.int l2), some (.int l3), some (.int l4), some (.int (l5 + 1)), none, none] [] K x Q)) ∧ (¬ ((f_open x c_3) &&& l3) = 0 → ((¬ l4 = 0 → (GI mX7_gives 38 [some (.ref b0), some (.int l1), some (.int l2), some (.int l3), some (.int (l4 + (nI (cpt ((f_open x c_3) &&& l3))))), some (.int (l5 + 1)), none, none] [] K (ui x c_3 11 ((gi x c_3 11) ||| ((f_open x c_3) &&& l3))) Q)) ∧ (l4 = 0 → (mSV mX7_remember [.ref b0] K x (fun y_9 => GI mX7_gives 38 [some (.ref b0), some (.int l1), some (.int l2), some (.int l3), some (.int (l4 + (nI (cpt ((f_open x c_3) &&& l3))))), some (.int (l5 + 1)), none, none] [] K (ui y_9 c_3 11 ((gi y_9 c_3 11) ||| ((f_open x c_3) &&& l3))) Q))))))))))))) : GI mX7_gives 38 [some (.ref b0), some (.int l1), some (.int l2), some (.int l3), some (.int l4), some (.int l5), none, none] [] K x Q := by
  show mGM mX7_gives 38 [some (.ref b0), some (.int l1), some (.int l2), some (.int l3), some (.int l4), some (.int l5), none, none] [] (hp K x) (PI K Q)
  refine r_iload (pc := 38) dX7_gives_38 rfl ?_
  refine r_aload_n (pc := 40) dX7_gives_40 rfl ?_
  refine s_getR (pc := 41) dX7_gives_41 fl_X7_20 rfl k_b0 g_b0_2 ?_
  refine s_getI (pc := 44) dX7_gives_44 fl_X7_97 rfl k_b0_2 ?_
  refine r_icmp_ge (pc := 47) (tgt := 127) dX7_gives_47 (by decide) (fun q => ?_) (fun q => ?_)
  · have K0 := K0.1 q
    refine r_iload (pc := 127) dX7_gives_127 rfl ?_
    exact s_iret rfl dX7_gives_129 K0
  · have K0 := K0.2 q
    refine r_aload_n (pc := 50) dX7_gives_50 rfl ?_
    refine s_getR (pc := 51) dX7_gives_51 fl_X7_20 rfl k_b0 g_b0_2 ?_
    refine s_getR (pc := 54) dX7_gives_54 fl_X7_135 rfl k_b0_2 g_b0_2_7 ?_
    refine r_iload (pc := 57) dX7_gives_57 rfl ?_
    obtain ⟨i_2, K0⟩ := K0
    obtain ⟨c_3, g_4, K0⟩ := K0
    refine s_aald (pc := 59) dX7_gives_59 (by decide) rfl k_b0_2_7 i_2 g_4 ?_
    refine r_astore (pc := 60) dX7_gives_60 (by decide) ?_
    refine r_aload (pc := 62) (L := [some (.ref b0), some (.int l1), some (.int l2), some (.int l3), some (.int l4), some (.int l5), some (.ref c_3), none]) dX7_gives_62 rfl ?_
    refine r_iload_n (pc := 64) dX7_gives_64 rfl ?_
    refine r_iload_n (pc := 65) dX7_gives_65 rfl ?_
    obtain ⟨e_5, K0⟩ := K0
    refine s_VI (pc := 66) mX5_isOf (ci := 5) (a := c_3) (As := [.int l1, .int l2]) dX7_gives_66 lk_X7_248 in_X5_isOf mo_X5_isOf ⟨by decide, rfl⟩ ⟨by decide, by decide⟩ (Nat.le_of_ble_eq_true rfl) e_5 (sp_X5_isOf e_5 ?_)
    refine r_if_eq (pc := 69) (tgt := 82) dX7_gives_69 (by decide) (fun q => ?_) (fun q => ?_)
    · have q := (b2i_z _).mp q
      have K0 := K0.1 q
      refine r_iconst (pc := 82) (v := 0) dX7_gives_82 (by decide) ?_
      refine r_istore (pc := 83) dX7_gives_83 (by decide) ?_
      refine r_iload (pc := 85) (L := [some (.ref b0), some (.int l1), some (.int l2), some (.int l3), some (.int l4), some (.int l5), some (.ref c_3), some (.int 0)]) dX7_gives_85 rfl ?_
      refine r_if_eq (pc := 87) (tgt := 121) dX7_gives_87 (by decide) (fun _ => ?_) (fun q => by first | exact absurd q (by decide) | exact absurd (by decide) q)
      refine r_iinc (pc := 121) (v := l5 + 1) dX7_gives_121 rfl rfl (by decide) ?_
      refine r_goto (pc := 124) (L := [some (.ref b0), some (.int l1), some (.int l2), some (.int l3), some (.int l4), some (.int (l5 + 1)), some (.ref c_3), some (.int 0)]) (tgt := 38) dX7_gives_124 (by decide) ?_
      exact r_le (L' := [some (.ref b0), some (.int l1), some (.int l2), some (.int l3), some (.int l4), some (.int (l5 + 1)), none, none]) ⟨rfl, ⟨rfl, ⟨rfl, ⟨rfl, ⟨rfl, ⟨rfl, trivial⟩⟩⟩⟩⟩⟩ K0
    · have q := b2i_nz q
      have K0 := K0.2 q
      refine r_aload (pc := 72) dX7_gives_72 rfl ?_
      refine s_VI (pc := 74) mX5_openBits (ci := 5) (a := c_3) (As := []) dX7_gives_74 lk_X7_339 in_X5_openBits mo_X5_openBits ⟨by decide, rfl⟩ ⟨by decide, by decide⟩ (Nat.le_of_ble_eq_true rfl) e_5 (sp_X5_openBits e_5 ?_)
      refine r_iload_n (pc := 77) dX7_gives_77 rfl ?_
      refine r_iand (pc := 78) dX7_gives_78 ?_
      refine r_goto (pc := 79) (tgt := 83) dX7_gives_79 (by decide) ?_
      refine r_istore (pc := 83) dX7_gives_83 (by decide) ?_
      refine r_iload (pc := 85) (L := [some (.ref b0), some (.int l1), some (.int l2), some (.int l3), some (.int l4), some (.int l5), some (.ref c_3), some (.int ((f_open x c_3) &&& l3))]) dX7_gives_85 rfl ?_
      refine r_if_eq (pc := 87) (tgt := 121) dX7_gives_87 (by decide) (fun q => ?_) (fun q => ?_)
      · have K0 := K0.1 q
        refine r_iinc (pc := 121) (v := l5 + 1) dX7_gives_121 rfl rfl (by decide) ?_
        refine r_goto (pc := 124) (L := [some (.ref b0), some (.int l1), some (.int l2), some (.int l3), some (.int l4), some (.int (l5 + 1)), some (.ref c_3), some (.int ((f_open x c_3) &&& l3))]) (tgt := 38) dX7_gives_124 (by decide) ?_
        exact r_le (L' := [some (.ref b0), some (.int l1), some (.int l2), some (.int l3), some (.int l4), some (.int (l5 + 1)), none, none]) ⟨rfl, ⟨rfl, ⟨rfl, ⟨rfl, ⟨rfl, ⟨rfl, trivial⟩⟩⟩⟩⟩⟩ K0
      · have K0 := K0.2 q
        refine r_iload (pc := 90) dX7_gives_90 rfl ?_
        refine r_if_ne (pc := 92) (tgt := 99) dX7_gives_92 (by decide) (fun q => ?_) (fun q => ?_)
        · have K0 := K0.1 q
          refine r_aload (pc := 99) dX7_gives_99 rfl ?_
          refine r_dup (pc := 101) dX7_gives_101 rfl ?_
          refine s_getI (pc := 102) dX7_gives_102 fl_X7_345 rfl e_5 ?_
          refine r_iload (pc := 105) dX7_gives_105 rfl ?_
          refine r_ior (pc := 107) dX7_gives_107 ?_
          refine s_putI (pc := 108) dX7_gives_108 fl_X7_345 rfl rfl e_5 ?_
          refine r_iload (pc := 111) dX7_gives_111 rfl ?_
          refine r_iload (pc := 113) dX7_gives_113 rfl ?_
          refine s_SI (pc := 115) mJ6_bitCount_0f7a4 (As := [.int ((f_open x c_3) &&& l3)]) dX7_gives_115 lk_X7_255 st_J6_bitCount_0f7a4 mo_J6_bitCount_0f7a4 ⟨by decide, by decide⟩ (Nat.le_of_ble_eq_true rfl) (sp_bc  ?_)
          refine r_iadd (pc := 118) dX7_gives_118 ?_
          refine r_istore (pc := 119) dX7_gives_119 (by decide) ?_
          refine r_iinc (pc := 121) (L := [some (.ref b0), some (.int l1), some (.int l2), some (.int l3), some (.int (l4 + (nI (cpt ((f_open x c_3) &&& l3))))), some (.int l5), some (.ref c_3), some (.int ((f_open x c_3) &&& l3))]) (v := l5 + 1) dX7_gives_121 rfl rfl (by decide) ?_
          refine r_goto (pc := 124) (L := [some (.ref b0), some (.int l1), some (.int l2), some (.int l3), some (.int (l4 + (nI (cpt ((f_open x c_3) &&& l3))))), some (.int (l5 + 1)), some (.ref c_3), some (.int ((f_open x c_3) &&& l3))]) (tgt := 38) dX7_gives_124 (by decide) ?_
          exact r_le (L' := [some (.ref b0), some (.int l1), some (.int l2), some (.int l3), some (.int (l4 + (nI (cpt ((f_open x c_3) &&& l3))))), some (.int (l5 + 1)), none, none]) ⟨rfl, ⟨rfl, ⟨rfl, ⟨rfl, ⟨rfl, ⟨rfl, trivial⟩⟩⟩⟩⟩⟩ K0
        · have K0 := K0.2 q
          refine r_aload_n (pc := 95) dX7_gives_95 rfl ?_
          refine s_VV (pc := 96) mX7_remember (ci := 7) (a := b0) (As := []) dX7_gives_96 lk_X7_333 in_X7_remember mo_X7_remember ⟨by decide, rfl⟩ ⟨by decide, by decide⟩ (Nat.le_of_ble_eq_true rfl) k_b0 (mSV_mono K0 (fun y_9 K0 => ?_))
          refine r_aload (pc := 99) dX7_gives_99 rfl ?_
          refine r_dup (pc := 101) dX7_gives_101 rfl ?_
          refine s_getI (pc := 102) dX7_gives_102 fl_X7_345 rfl e_5 ?_
          refine r_iload (pc := 105) dX7_gives_105 rfl ?_
          refine r_ior (pc := 107) dX7_gives_107 ?_
          refine s_putI (pc := 108) dX7_gives_108 fl_X7_345 rfl rfl e_5 ?_
          refine r_iload (pc := 111) dX7_gives_111 rfl ?_
          refine r_iload (pc := 113) dX7_gives_113 rfl ?_
          refine s_SI (pc := 115) mJ6_bitCount_0f7a4 (As := [.int ((f_open x c_3) &&& l3)]) dX7_gives_115 lk_X7_255 st_J6_bitCount_0f7a4 mo_J6_bitCount_0f7a4 ⟨by decide, by decide⟩ (Nat.le_of_ble_eq_true rfl) (sp_bc  ?_)
          refine r_iadd (pc := 118) dX7_gives_118 ?_
          refine r_istore (pc := 119) dX7_gives_119 (by decide) ?_
          refine r_iinc (pc := 121) (L := [some (.ref b0), some (.int l1), some (.int l2), some (.int l3), some (.int (l4 + (nI (cpt ((f_open x c_3) &&& l3))))), some (.int l5), some (.ref c_3), some (.int ((f_open x c_3) &&& l3))]) (v := l5 + 1) dX7_gives_121 rfl rfl (by decide) ?_
          refine r_goto (pc := 124) (L := [some (.ref b0), some (.int l1), some (.int l2), some (.int l3), some (.int (l4 + (nI (cpt ((f_open x c_3) &&& l3))))), some (.int (l5 + 1)), some (.ref c_3), some (.int ((f_open x c_3) &&& l3))]) (tgt := 38) dX7_gives_124 (by decide) ?_
          exact r_le (L' := [some (.ref b0), some (.int l1), some (.int l2), some (.int l3), some (.int (l4 + (nI (cpt ((f_open x c_3) &&& l3))))), some (.int (l5 + 1)), none, none]) ⟨rfl, ⟨rfl, ⟨rfl, ⟨rfl, ⟨rfl, ⟨rfl, trivial⟩⟩⟩⟩⟩⟩ K0
set_option maxHeartbeats 2000000 in
theorem v_X8_gives_0 {K : Sh} {x : Cn} {Q : Int32 → Cn → Prop} {b0 : Nat} {l1 : Int32} {l2 : Int32} {b0_1 : Nat} {n_b0_1 : Nat} (k_b0 : kk K b0 = some (8, 0)) (g_b0_1 : gr x b0 1 = some b0_1) (k_b0_1 : kk K b0_1 = some (20, n_b0_1)) (K0 : vp_in 1 n_b0_1 ∧ ((¬ (0 ≤ l1 ∧ l1 ≤ gi x b0_1 1 - 1) → (Q (-2) x)) ∧ ((0 ≤ l1 ∧ l1 ≤ gi x b0_1 1 - 1) → (vp_in 0 n_b0_1 ∧ (((0 < gi x b0_1 0 ∧ 0 ≤ l2 ∧ l2 ≤ 6) → (GI mX8_gives 24 [some (.ref b0), some (.int l1), some (.int l2), some (.int 0), some (.int 0), none] [] K x Q)) ∧ (¬ (0 < gi x b0_1 0 ∧ 0 ≤ l2 ∧ l2 ≤ 6) → (Q (-2) x))))))) : mSI mX8_gives [.ref b0, .int l1, .int l2] K x Q := by
  refine s_I (by decide) (by simp [Value.category]) (Nat.le_of_ble_eq_true rfl) ?_
  show mGM mX8_gives 0 [some (.ref b0), some (.int l1), some (.int l2), none, none, none] [] (hp K x) (PI K Q)
  refine r_aload_n (pc := 0) dX8_gives_0 rfl ?_
  refine r_iload_n (pc := 1) dX8_gives_1 rfl ?_
  obtain ⟨i_1, K0⟩ := K0
  refine s_VI (pc := 2) mX8_isCarrier (ci := 8) (a := b0) (As := [.int l1]) dX8_gives_2 lk_X8_265 in_X8_isCarrier mo_X8_isCarrier ⟨by decide, rfl⟩ ⟨by decide, by decide⟩ (Nat.le_of_ble_eq_true rfl) k_b0 (sp_X8_isCarrier k_b0 g_b0_1 k_b0_1 i_1 ?_)
  refine r_if_eq (pc := 5) (tgt := 16) dX8_gives_5 (by decide) (fun q => ?_) (fun q => ?_)
  · have q := (b2i_z _).mp q
    have K0 := K0.1 q
    refine r_bipush (pc := 16) (v := (-2)) dX8_gives_16 (by decide) ?_
    exact s_iret rfl dX8_gives_18 K0
  · have q := b2i_nz q
    have K0 := K0.2 q
    refine r_aload_n (pc := 8) dX8_gives_8 rfl ?_
    refine r_iload_n (pc := 9) dX8_gives_9 rfl ?_
    obtain ⟨i_3, K0⟩ := K0
    refine s_VI (pc := 10) mX8_isDay (ci := 8) (a := b0) (As := [.int l2]) dX8_gives_10 lk_X8_61 in_X8_isDay mo_X8_isDay ⟨by decide, rfl⟩ ⟨by decide, by decide⟩ (Nat.le_of_ble_eq_true rfl) k_b0 (sp_X8_isDay k_b0 g_b0_1 k_b0_1 i_3 ?_)
    refine r_if_ne (pc := 13) (tgt := 19) dX8_gives_13 (by decide) (fun q => ?_) (fun q => ?_)
    · have q := b2i_nz q
      have K0 := K0.1 q
      refine r_iconst (pc := 19) (v := 0) dX8_gives_19 (by decide) ?_
      refine r_istore_n (pc := 20) dX8_gives_20 (by decide) ?_
      refine r_iconst (pc := 21) (L := [some (.ref b0), some (.int l1), some (.int l2), some (.int 0), none, none]) (v := 0) dX8_gives_21 (by decide) ?_
      refine r_istore (pc := 22) dX8_gives_22 (by decide) ?_
      exact r_le (L' := [some (.ref b0), some (.int l1), some (.int l2), some (.int 0), some (.int 0), none]) ⟨rfl, ⟨rfl, ⟨rfl, ⟨rfl, ⟨rfl, trivial⟩⟩⟩⟩⟩ K0
    · have q := (b2i_z _).mp q
      have K0 := K0.2 q
      refine r_bipush (pc := 16) (v := (-2)) dX8_gives_16 (by decide) ?_
      exact s_iret rfl dX8_gives_18 K0

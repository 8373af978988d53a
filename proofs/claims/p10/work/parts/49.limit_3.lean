set_option maxHeartbeats 2000000 in
theorem v_X8_limit_0 {K : Sh} {x : Cn} {Q : Int32 → Cn → Prop} {b0 : Nat} {l1 : Int32} {l2 : Int32} {l3 : Int32} {b0_1 : Nat} {n_b0_1 : Nat} (k_b0 : kk K b0 = some (8, 0)) (g_b0_1 : gr x b0 1 = some b0_1) (k_b0_1 : kk K b0_1 = some (20, n_b0_1)) (K0 : vp_in 0 n_b0_1 ∧ ((¬ (0 < gi x b0_1 0 ∧ 0 ≤ l1 ∧ l1 ≤ 23) → (Q (-2) x)) ∧ ((0 < gi x b0_1 0 ∧ 0 ≤ l1 ∧ l1 ≤ 23) → ((¬ (0 ≤ l2 ∧ l2 ≤ 9) → (Q (-2) x)) ∧ ((0 ≤ l2 ∧ l2 ≤ 9) → (((0 ≤ l3 ∧ l3 ≤ l2) → (mSI mX8_isAbove [.ref b0, .int l1, .int l2, .int l3] K x (fun r_6 y_5 => (r_6 = 0 → (gr y_5 b0 1 = some b0_1 ∧ (vp_in (6 + (2 * l1)) n_b0_1 ∧ (vp_in ((6 + (2 * l1)) + 1) n_b0_1 ∧ ((¬ (gi y_5 b0_1 ((6 + (2 * l1)) : Int32).toNatClampNeg) = l2 → (mSV mX8_keeps [.ref b0] K y_5 (fun y_12 => gr y_12 b0 1 = some b0_1 ∧ (Q ((10 * (gi y_5 b0_1 ((6 + (2 * l1)) : Int32).toNatClampNeg)) + (gi y_5 b0_1 (((6 + (2 * l1)) + 1) : Int32).toNatClampNeg)) (ui (ui y_12 b0_1 ((6 + (2 * l1)) : Int32).toNatClampNeg l2) b0_1 (((6 + (2 * l1)) + 1) : Int32).toNatClampNeg l3))))) ∧ ((gi y_5 b0_1 ((6 + (2 * l1)) : Int32).toNatClampNeg) = l2 → (((gi y_5 b0_1 (((6 + (2 * l1)) + 1) : Int32).toNatClampNeg) = l3 → (Q ((10 * (gi y_5 b0_1 ((6 + (2 * l1)) : Int32).toNatClampNeg)) + (gi y_5 b0_1 (((6 + (2 * l1)) + 1) : Int32).toNatClampNeg)) (ui (ui y_5 b0_1 ((6 + (2 * l1)) : Int32).toNatClampNeg l2) b0_1 (((6 + (2 * l1)) + 1) : Int32).toNatClampNeg l3))) ∧ (¬ (gi y_5 b0_1 (((6 + (2 * l1)) + 1) : Int32).toNatClampNeg) = l3 → (mSV mX8_keeps [.ref b0] K y_5 (fun y_15 => gr y_15 b0 1 = some b0_1 ∧ (Q ((10 * (gi y_5 b0_1 ((6 + (2 * l1)) : Int32).toNatClampNeg)) + (gi y_5 b0_1 (((6 + (2 * l1)) + 1) : Int32).toNatClampNeg)) (ui (ui y_15 b0_1 ((6 + (2 * l1)) : Int32).toNatClampNeg l2) b0_1 (((6 + (2 * l1)) + 1) : Int32).toNatClampNeg l3)))))))))))) ∧ (¬ r_6 = 0 → (Q (-6) y_5))))) ∧ (¬ (0 ≤ l3 ∧ l3 ≤ l2) → (Q (-2) x)))))))) : mSI mX8_limit [.ref b0, .int l1, .int l2, .int l3] K x Q := by
  refine s_I (by decide) (by simp [Value.category]) (Nat.le_of_ble_eq_true rfl) ?_
  show mGM mX8_limit 0 [some (.ref b0), some (.int l1), some (.int l2), some (.int l3), none, none] [] (hp K x) (PI K Q)
  refine r_aload_n (pc := 0) dX8_limit_0 rfl ?_
  refine r_iload_n (pc := 1) dX8_limit_1 rfl ?_
  obtain ⟨i_1, K0⟩ := K0
  refine s_VI (pc := 2) mX8_isHour (ci := 8) (a := b0) (As := [.int l1]) dX8_limit_2 lk_X8_64 in_X8_isHour mo_X8_isHour ⟨by decide, rfl⟩ ⟨by decide, by decide⟩ (Nat.le_of_ble_eq_true rfl) k_b0 (sp_X8_isHour k_b0 g_b0_1 k_b0_1 i_1 ?_)
  refine r_if_eq (pc := 5) (tgt := 31) dX8_limit_5 (by decide) (fun q => ?_) (fun q => ?_)
  · have q := (b2i_z _).mp q
    have K0 := K0.1 q
    refine r_bipush (pc := 31) (v := (-2)) dX8_limit_31 (by decide) ?_
    exact s_iret rfl dX8_limit_33 K0
  · have q := b2i_nz q
    have K0 := K0.2 q
    refine r_iload_n (pc := 8) dX8_limit_8 rfl ?_
    refine r_i2l (pc := 9) dX8_limit_9 ?_
    refine r_lconst (pc := 10) (v := 0) dX8_limit_10 (by decide) ?_
    refine r_ldc2 (pc := 11) (v := 9) dX8_limit_11 cn_X8_388 ?_
    refine s_SI (pc := 14) mX8_in (As := [.long ((l2 : Int32).toInt64), .long 0, .long 9]) dX8_limit_14 lk_X8_45 st_X8_in mo_X8_in ⟨by decide, by decide⟩ (Nat.le_of_ble_eq_true rfl) (sq_X8_in (v := l2) (lo := 0) (hi := 9) rfl (by decide) (by decide) ?_)
    refine r_if_eq (pc := 17) (tgt := 31) dX8_limit_17 (by decide) (fun q => ?_) (fun q => ?_)
    · have q := (b2i_z _).mp q
      have K0 := K0.1 q
      refine r_bipush (pc := 31) (v := (-2)) dX8_limit_31 (by decide) ?_
      exact s_iret rfl dX8_limit_33 K0
    · have q := b2i_nz q
      have K0 := K0.2 q
      refine r_iload_n (pc := 20) dX8_limit_20 rfl ?_
      refine r_i2l (pc := 21) dX8_limit_21 ?_
      refine r_lconst (pc := 22) (v := 0) dX8_limit_22 (by decide) ?_
      refine r_iload_n (pc := 23) dX8_limit_23 rfl ?_
      refine r_i2l (pc := 24) dX8_limit_24 ?_
      refine s_SI (pc := 25) mX8_in (As := [.long ((l3 : Int32).toInt64), .long 0, .long ((l2 : Int32).toInt64)]) dX8_limit_25 lk_X8_45 st_X8_in mo_X8_in ⟨by decide, by decide⟩ (Nat.le_of_ble_eq_true rfl) (sq_X8_in (v := l3) (lo := 0) (hi := l2) rfl (by decide) rfl ?_)
      refine r_if_ne (pc := 28) (tgt := 34) dX8_limit_28 (by decide) (fun q => ?_) (fun q => ?_)
      · have q := b2i_nz q
        have K0 := K0.1 q
        refine r_aload_n (pc := 34) dX8_limit_34 rfl ?_
        refine r_iload_n (pc := 35) dX8_limit_35 rfl ?_
        refine r_iload_n (pc := 36) dX8_limit_36 rfl ?_
        refine r_iload_n (pc := 37) dX8_limit_37 rfl ?_
        refine s_VI (pc := 38) mX8_isAbove (ci := 8) (a := b0) (As := [.int l1, .int l2, .int l3]) dX8_limit_38 lk_X8_390 in_X8_isAbove mo_X8_isAbove ⟨by decide, rfl⟩ ⟨by decide, by decide⟩ (Nat.le_of_ble_eq_true rfl) k_b0 (mSI_mono K0 (fun r_6 y_5 K0 => ?_))
        refine r_if_eq (pc := 41) (tgt := 47) dX8_limit_41 (by decide) (fun q => ?_) (fun q => ?_)
        · have K0 := K0.1 q
          refine r_aload_n (pc := 47) dX8_limit_47 rfl ?_
          obtain ⟨g_8, K0⟩ := K0
          refine s_getR (pc := 48) dX8_limit_48 fl_X8_9 rfl k_b0 g_8 ?_
          refine r_bipush (pc := 51) (v := 6) dX8_limit_51 (by decide) ?_
          refine r_iconst (pc := 53) (v := 2) dX8_limit_53 (by decide) ?_
          refine r_iload_n (pc := 54) dX8_limit_54 rfl ?_
          refine r_imul (pc := 55) dX8_limit_55 ?_
          refine r_iadd (pc := 56) dX8_limit_56 ?_
          obtain ⟨i_9, K0⟩ := K0
          refine s_iald (pc := 57) dX8_limit_57 k_b0_1 i_9 ?_
          refine r_istore (pc := 58) dX8_limit_58 (by decide) ?_
          refine r_aload_n (pc := 60) (L := [some (.ref b0), some (.int l1), some (.int l2), some (.int l3), some (.int (gi y_5 b0_1 ((6 + (2 * l1)) : Int32).toNatClampNeg)), none]) dX8_limit_60 rfl ?_
          refine s_getR (pc := 61) dX8_limit_61 fl_X8_9 rfl k_b0 g_8 ?_
          refine r_bipush (pc := 64) (v := 6) dX8_limit_64 (by decide) ?_
          refine r_iconst (pc := 66) (v := 2) dX8_limit_66 (by decide) ?_
          refine r_iload_n (pc := 67) dX8_limit_67 rfl ?_
          refine r_imul (pc := 68) dX8_limit_68 ?_
          refine r_iadd (pc := 69) dX8_limit_69 ?_
          refine r_iconst (pc := 70) (v := 1) dX8_limit_70 (by decide) ?_
          refine r_iadd (pc := 71) dX8_limit_71 ?_
          obtain ⟨i_10, K0⟩ := K0
          refine s_iald (pc := 72) dX8_limit_72 k_b0_1 i_10 ?_
          refine r_istore (pc := 73) dX8_limit_73 (by decide) ?_
          refine r_iload (pc := 75) (L := [some (.ref b0), some (.int l1), some (.int l2), some (.int l3), some (.int (gi y_5 b0_1 ((6 + (2 * l1)) : Int32).toNatClampNeg)), some (.int (gi y_5 b0_1 (((6 + (2 * l1)) + 1) : Int32).toNatClampNeg))]) dX8_limit_75 rfl ?_
          refine r_iload_n (pc := 77) dX8_limit_77 rfl ?_
          refine r_icmp_ne (pc := 78) (tgt := 87) dX8_limit_78 (by decide) (fun q => ?_) (fun q => ?_)
          · have K0 := K0.1 q
            refine r_aload_n (pc := 87) dX8_limit_87 rfl ?_
            refine s_VV (pc := 88) mX8_keeps (ci := 8) (a := b0) (As := []) dX8_limit_88 lk_X8_366 in_X8_keeps mo_X8_keeps ⟨by decide, rfl⟩ ⟨by decide, by decide⟩ (Nat.le_of_ble_eq_true rfl) k_b0 (mSV_mono K0 (fun y_12 K0 => ?_))
            refine r_aload_n (pc := 91) dX8_limit_91 rfl ?_
            obtain ⟨g_13, K0⟩ := K0
            refine s_getR (pc := 92) dX8_limit_92 fl_X8_9 rfl k_b0 g_13 ?_
            refine r_bipush (pc := 95) (v := 6) dX8_limit_95 (by decide) ?_
            refine r_iconst (pc := 97) (v := 2) dX8_limit_97 (by decide) ?_
            refine r_iload_n (pc := 98) dX8_limit_98 rfl ?_
            refine r_imul (pc := 99) dX8_limit_99 ?_
            refine r_iadd (pc := 100) dX8_limit_100 ?_
            refine r_iload_n (pc := 101) dX8_limit_101 rfl ?_
            refine s_iast (pc := 102) dX8_limit_102 k_b0_1 i_9 ?_
            refine r_aload_n (pc := 103) dX8_limit_103 rfl ?_
            refine s_getR (pc := 104) dX8_limit_104 fl_X8_9 rfl k_b0 g_13 ?_
            refine r_bipush (pc := 107) (v := 6) dX8_limit_107 (by decide) ?_
            refine r_iconst (pc := 109) (v := 2) dX8_limit_109 (by decide) ?_
            refine r_iload_n (pc := 110) dX8_limit_110 rfl ?_
            refine r_imul (pc := 111) dX8_limit_111 ?_
            refine r_iadd (pc := 112) dX8_limit_112 ?_
            refine r_iconst (pc := 113) (v := 1) dX8_limit_113 (by decide) ?_
            refine r_iadd (pc := 114) dX8_limit_114 ?_
            refine r_iload_n (pc := 115) dX8_limit_115 rfl ?_
            refine s_iast (pc := 116) dX8_limit_116 k_b0_1 i_10 ?_
            refine r_bipush (pc := 117) (v := 10) dX8_limit_117 (by decide) ?_
            refine r_iload (pc := 119) dX8_limit_119 rfl ?_
            refine r_imul (pc := 121) dX8_limit_121 ?_
            refine r_iload (pc := 122) dX8_limit_122 rfl ?_
            refine r_iadd (pc := 124) dX8_limit_124 ?_
            exact s_iret rfl dX8_limit_125 K0
          · have K0 := K0.2 q
            refine r_iload (pc := 81) dX8_limit_81 rfl ?_
            refine r_iload_n (pc := 83) dX8_limit_83 rfl ?_
            refine r_icmp_eq (pc := 84) (tgt := 91) dX8_limit_84 (by decide) (fun q => ?_) (fun q => ?_)
            · have K0 := K0.1 q
              refine r_aload_n (pc := 91) dX8_limit_91 rfl ?_
              refine s_getR (pc := 92) dX8_limit_92 fl_X8_9 rfl k_b0 g_8 ?_
              refine r_bipush (pc := 95) (v := 6) dX8_limit_95 (by decide) ?_
              refine r_iconst (pc := 97) (v := 2) dX8_limit_97 (by decide) ?_
              refine r_iload_n (pc := 98) dX8_limit_98 rfl ?_
              refine r_imul (pc := 99) dX8_limit_99 ?_
              refine r_iadd (pc := 100) dX8_limit_100 ?_
              refine r_iload_n (pc := 101) dX8_limit_101 rfl ?_
              refine s_iast (pc := 102) dX8_limit_102 k_b0_1 i_9 ?_
              refine r_aload_n (pc := 103) dX8_limit_103 rfl ?_
              refine s_getR (pc := 104) dX8_limit_104 fl_X8_9 rfl k_b0 g_8 ?_
              refine r_bipush (pc := 107) (v := 6) dX8_limit_107 (by decide) ?_
              refine r_iconst (pc := 109) (v := 2) dX8_limit_109 (by decide) ?_
              refine r_iload_n (pc := 110) dX8_limit_110 rfl ?_
              refine r_imul (pc := 111) dX8_limit_111 ?_
              refine r_iadd (pc := 112) dX8_limit_112 ?_
              refine r_iconst (pc := 113) (v := 1) dX8_limit_113 (by decide) ?_
              refine r_iadd (pc := 114) dX8_limit_114 ?_
              refine r_iload_n (pc := 115) dX8_limit_115 rfl ?_
              refine s_iast (pc := 116) dX8_limit_116 k_b0_1 i_10 ?_
              refine r_bipush (pc := 117) (v := 10) dX8_limit_117 (by decide) ?_
              refine r_iload (pc := 119) dX8_limit_119 rfl ?_
              refine r_imul (pc := 121) dX8_limit_121 ?_
              refine r_iload (pc := 122) dX8_limit_122 rfl ?_
              refine r_iadd (pc := 124) dX8_limit_124 ?_
              exact s_iret rfl dX8_limit_125 K0
            · have K0 := K0.2 q
              refine r_aload_n (pc := 87) dX8_limit_87 rfl ?_
              refine s_VV (pc := 88) mX8_keeps (ci := 8) (a := b0) (As := []) dX8_limit_88 lk_X8_366 in_X8_keeps mo_X8_keeps ⟨by decide, rfl⟩ ⟨by decide, by decide⟩ (Nat.le_of_ble_eq_true rfl) k_b0 (mSV_mono K0 (fun y_15 K0 => ?_))
              refine r_aload_n (pc := 91) dX8_limit_91 rfl ?_
              obtain ⟨g_16, K0⟩ := K0
              refine s_getR (pc := 92) dX8_limit_92 fl_X8_9 rfl k_b0 g_16 ?_
              refine r_bipush (pc := 95) (v := 6) dX8_limit_95 (by decide) ?_
              refine r_iconst (pc := 97) (v := 2) dX8_limit_97 (by decide) ?_
              refine r_iload_n (pc := 98) dX8_limit_98 rfl ?_
              refine r_imul (pc := 99) dX8_limit_99 ?_
              refine r_iadd (pc := 100) dX8_limit_100 ?_
              refine r_iload_n (pc := 101) dX8_limit_101 rfl ?_
              refine s_iast (pc := 102) dX8_limit_102 k_b0_1 i_9 ?_
              refine r_aload_n (pc := 103) dX8_limit_103 rfl ?_
              refine s_getR (pc := 104) dX8_limit_104 fl_X8_9 rfl k_b0 g_16 ?_
              refine r_bipush (pc := 107) (v := 6) dX8_limit_107 (by decide) ?_
              refine r_iconst (pc := 109) (v := 2) dX8_limit_109 (by decide) ?_
              refine r_iload_n (pc := 110) dX8_limit_110 rfl ?_
              refine r_imul (pc := 111) dX8_limit_111 ?_
              refine r_iadd (pc := 112) dX8_limit_112 ?_
              refine r_iconst (pc := 113) (v := 1) dX8_limit_113 (by decide) ?_
              refine r_iadd (pc := 114) dX8_limit_114 ?_
              refine r_iload_n (pc := 115) dX8_limit_115 rfl ?_
              refine s_iast (pc := 116) dX8_limit_116 k_b0_1 i_10 ?_
              refine r_bipush (pc := 117) (v := 10) dX8_limit_117 (by decide) ?_
              refine r_iload (pc := 119) dX8_limit_119 rfl ?_
              refine r_imul (pc := 121) dX8_limit_121 ?_
              refine r_iload (pc := 122) dX8_limit_122 rfl ?_
              refine r_iadd (pc := 124) dX8_limit_124 ?_
              exact s_iret rfl dX8_limit_125 K0
        · have K0 := K0.2 q
          refine r_bipush (pc := 44) (v := (-6)) dX8_limit_44 (by decide) ?_
          exact s_iret rfl dX8_limit_46 K0
      · have q := (b2i_z _).mp q
        have K0 := K0.2 q
        refine r_bipush (pc := 31) (v := (-2)) dX8_limit_31 (by decide) ?_
        exact s_iret rfl dX8_limit_33 K0
section
variable {x : Cn} {Q : Int32 → Cn → Prop}
end

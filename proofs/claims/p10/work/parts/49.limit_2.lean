section
variable {x : Cn} {Q : Int32 → Cn → Prop}
def lmT (T : TT) (h : Nat) (n m : Int32) : TT := uT (uT T (6 + 2 * h) n) (7 + 2 * h) m
end
set_option maxHeartbeats 2000000 in
theorem v_X7_limit_0 {K : Sh} {x : Cn} {Q : Int32 → Cn → Prop} {b0 : Nat} {l1 : Int32} {l2 : Int32} {l3 : Int32} {b0_2 : Nat} (k_b0 : kk K b0 = some (7, 0)) (g_b0_2 : gr x b0 2 = some b0_2) (k_b0_2 : kk K b0_2 = some (4, 0)) (K0 : (¬ (0 < gi x b0_2 0 ∧ 0 ≤ l1 ∧ l1 < 24) → (Q (-2) x)) ∧ ((0 < gi x b0_2 0 ∧ 0 ≤ l1 ∧ l1 < 24) → ((¬ (0 ≤ l2 ∧ l2 ≤ 9) → (Q (-2) x)) ∧ ((0 ≤ l2 ∧ l2 ≤ 9) → (((0 ≤ l3 ∧ l3 ≤ l2) → (mSI mX4_holdsMore [.ref b0_2, .int l1, .int l2, .int l3] K x (fun r_5 y_4 => (r_5 = 0 → (gr y_4 b0 2 = some b0_2 ∧ (∃ c_8 : Nat, gr y_4 b0_2 5 = some c_8 ∧ (∃ n_11 : Nat, kk K c_8 = some (20, n_11) ∧ (vp_in l1 n_11 ∧ (∃ c_13 : Nat, gr y_4 b0_2 6 = some c_13 ∧ (∃ n_16 : Nat, kk K c_13 = some (20, n_16) ∧ (vp_in l1 n_16 ∧ ((¬ (gi y_4 c_8 (l1 : Int32).toNatClampNeg) = l2 → (mSV mX7_remember [.ref b0] K y_4 (fun y_19 => gr y_19 b0 2 = some b0_2 ∧ (∃ c_21 : Nat, gr y_19 b0_2 5 = some c_21 ∧ (∃ n_24 : Nat, kk K c_21 = some (20, n_24) ∧ (vp_in l1 n_24 ∧ (∃ c_26 : Nat, gr y_19 b0_2 6 = some c_26 ∧ (∃ n_29 : Nat, kk K c_26 = some (20, n_29) ∧ (vp_in l1 n_29 ∧ (Q ((10 * (gi y_4 c_8 (l1 : Int32).toNatClampNeg)) + (gi y_4 c_13 (l1 : Int32).toNatClampNeg)) (ui (ui y_19 c_21 (l1 : Int32).toNatClampNeg l2) c_26 (l1 : Int32).toNatClampNeg l3))))))))))) ∧ ((gi y_4 c_8 (l1 : Int32).toNatClampNeg) = l2 → (((gi y_4 c_13 (l1 : Int32).toNatClampNeg) = l3 → (Q ((10 * (gi y_4 c_8 (l1 : Int32).toNatClampNeg)) + (gi y_4 c_13 (l1 : Int32).toNatClampNeg)) y_4)) ∧ (¬ (gi y_4 c_13 (l1 : Int32).toNatClampNeg) = l3 → (mSV mX7_remember [.ref b0] K y_4 (fun y_32 => gr y_32 b0 2 = some b0_2 ∧ (∃ c_34 : Nat, gr y_32 b0_2 5 = some c_34 ∧ (∃ n_37 : Nat, kk K c_34 = some (20, n_37) ∧ (vp_in l1 n_37 ∧ (∃ c_39 : Nat, gr y_32 b0_2 6 = some c_39 ∧ (∃ n_42 : Nat, kk K c_39 = some (20, n_42) ∧ (vp_in l1 n_42 ∧ (Q ((10 * (gi y_4 c_8 (l1 : Int32).toNatClampNeg)) + (gi y_4 c_13 (l1 : Int32).toNatClampNeg)) (ui (ui y_32 c_34 (l1 : Int32).toNatClampNeg l2) c_39 (l1 : Int32).toNatClampNeg l3)))))))))))))))))))))) ∧ (¬ r_5 = 0 → (Q (-6) y_4))))) ∧ (¬ (0 ≤ l3 ∧ l3 ≤ l2) → (Q (-2) x))))))) : mSI mX7_limit [.ref b0, .int l1, .int l2, .int l3] K x Q := by
  refine s_I (by decide) (by simp [Value.category]) (Nat.le_of_ble_eq_true rfl) ?_
  show mGM mX7_limit 0 [some (.ref b0), some (.int l1), some (.int l2), some (.int l3), none, none] [] (hp K x) (PI K Q)
  refine r_aload_n (pc := 0) dX7_limit_0 rfl ?_
  refine r_iload_n (pc := 1) dX7_limit_1 rfl ?_
  refine s_VI (pc := 2) mX7_isHour (ci := 7) (a := b0) (As := [.int l1]) dX7_limit_2 lk_X7_195 in_X7_isHour mo_X7_isHour ⟨by decide, rfl⟩ ⟨by decide, by decide⟩ (Nat.le_of_ble_eq_true rfl) k_b0 (sp_X7_isHour k_b0 g_b0_2 k_b0_2 ?_)
  refine r_if_eq (pc := 5) (tgt := 27) dX7_limit_5 (by decide) (fun q => ?_) (fun q => ?_)
  · have q := (b2i_z _).mp q
    have K0 := K0.1 q
    refine r_bipush (pc := 27) (v := (-2)) dX7_limit_27 (by decide) ?_
    exact s_iret rfl dX7_limit_29 K0
  · have q := b2i_nz q
    have K0 := K0.2 q
    refine r_iload_n (pc := 8) dX7_limit_8 rfl ?_
    refine r_iconst (pc := 9) (v := 0) dX7_limit_9 (by decide) ?_
    refine r_bipush (pc := 10) (v := 9) dX7_limit_10 (by decide) ?_
    refine s_SI (pc := 12) mX7_isWithin (As := [.int l2, .int 0, .int 9]) dX7_limit_12 lk_X7_113 st_X7_isWithin mo_X7_isWithin ⟨by decide, by decide⟩ (Nat.le_of_ble_eq_true rfl) (sp_X7_isWithin  ?_)
    refine r_if_eq (pc := 15) (tgt := 27) dX7_limit_15 (by decide) (fun q => ?_) (fun q => ?_)
    · have q := (b2i_z _).mp q
      have K0 := K0.1 q
      refine r_bipush (pc := 27) (v := (-2)) dX7_limit_27 (by decide) ?_
      exact s_iret rfl dX7_limit_29 K0
    · have q := b2i_nz q
      have K0 := K0.2 q
      refine r_iload_n (pc := 18) dX7_limit_18 rfl ?_
      refine r_iconst (pc := 19) (v := 0) dX7_limit_19 (by decide) ?_
      refine r_iload_n (pc := 20) dX7_limit_20 rfl ?_
      refine s_SI (pc := 21) mX7_isWithin (As := [.int l3, .int 0, .int l2]) dX7_limit_21 lk_X7_113 st_X7_isWithin mo_X7_isWithin ⟨by decide, by decide⟩ (Nat.le_of_ble_eq_true rfl) (sp_X7_isWithin  ?_)
      refine r_if_ne (pc := 24) (tgt := 30) dX7_limit_24 (by decide) (fun q => ?_) (fun q => ?_)
      · have q := b2i_nz q
        have K0 := K0.1 q
        refine r_aload_n (pc := 30) dX7_limit_30 rfl ?_
        refine s_getR (pc := 31) dX7_limit_31 fl_X7_20 rfl k_b0 g_b0_2 ?_
        refine r_iload_n (pc := 34) dX7_limit_34 rfl ?_
        refine r_iload_n (pc := 35) dX7_limit_35 rfl ?_
        refine r_iload_n (pc := 36) dX7_limit_36 rfl ?_
        refine s_VI (pc := 37) mX4_holdsMore (ci := 4) (a := b0_2) (As := [.int l1, .int l2, .int l3]) dX7_limit_37 lk_X7_358 in_X4_holdsMore mo_X4_holdsMore ⟨by decide, rfl⟩ ⟨by decide, by decide⟩ (Nat.le_of_ble_eq_true rfl) k_b0_2 (mSI_mono K0 (fun r_5 y_4 K0 => ?_))
        refine r_if_eq (pc := 40) (tgt := 46) dX7_limit_40 (by decide) (fun q => ?_) (fun q => ?_)
        · have K0 := K0.1 q
          refine r_aload_n (pc := 46) dX7_limit_46 rfl ?_
          obtain ⟨g_7, K0⟩ := K0
          refine s_getR (pc := 47) dX7_limit_47 fl_X7_20 rfl k_b0 g_7 ?_
          obtain ⟨c_8, g_9, K0⟩ := K0
          refine s_getR (pc := 50) dX7_limit_50 fl_X7_198 rfl k_b0_2 g_9 ?_
          refine r_iload_n (pc := 53) dX7_limit_53 rfl ?_
          obtain ⟨n_11, e_10, K0⟩ := K0
          obtain ⟨i_12, K0⟩ := K0
          refine s_iald (pc := 54) dX7_limit_54 e_10 i_12 ?_
          refine r_istore (pc := 55) dX7_limit_55 (by decide) ?_
          refine r_aload_n (pc := 57) (L := [some (.ref b0), some (.int l1), some (.int l2), some (.int l3), some (.int (gi y_4 c_8 (l1 : Int32).toNatClampNeg)), none]) dX7_limit_57 rfl ?_
          refine s_getR (pc := 58) dX7_limit_58 fl_X7_20 rfl k_b0 g_7 ?_
          obtain ⟨c_13, g_14, K0⟩ := K0
          refine s_getR (pc := 61) dX7_limit_61 fl_X7_202 rfl k_b0_2 g_14 ?_
          refine r_iload_n (pc := 64) dX7_limit_64 rfl ?_
          obtain ⟨n_16, e_15, K0⟩ := K0
          obtain ⟨i_17, K0⟩ := K0
          refine s_iald (pc := 65) dX7_limit_65 e_15 i_17 ?_
          refine r_istore (pc := 66) dX7_limit_66 (by decide) ?_
          refine r_iload (pc := 68) (L := [some (.ref b0), some (.int l1), some (.int l2), some (.int l3), some (.int (gi y_4 c_8 (l1 : Int32).toNatClampNeg)), some (.int (gi y_4 c_13 (l1 : Int32).toNatClampNeg))]) dX7_limit_68 rfl ?_
          refine r_iload_n (pc := 70) dX7_limit_70 rfl ?_
          refine r_icmp_ne (pc := 71) (tgt := 80) dX7_limit_71 (by decide) (fun q => ?_) (fun q => ?_)
          · have K0 := K0.1 q
            refine r_aload_n (pc := 80) dX7_limit_80 rfl ?_
            refine s_VV (pc := 81) mX7_remember (ci := 7) (a := b0) (As := []) dX7_limit_81 lk_X7_333 in_X7_remember mo_X7_remember ⟨by decide, rfl⟩ ⟨by decide, by decide⟩ (Nat.le_of_ble_eq_true rfl) k_b0 (mSV_mono K0 (fun y_19 K0 => ?_))
            refine r_aload_n (pc := 84) dX7_limit_84 rfl ?_
            obtain ⟨g_20, K0⟩ := K0
            refine s_getR (pc := 85) dX7_limit_85 fl_X7_20 rfl k_b0 g_20 ?_
            obtain ⟨c_21, g_22, K0⟩ := K0
            refine s_getR (pc := 88) dX7_limit_88 fl_X7_198 rfl k_b0_2 g_22 ?_
            refine r_iload_n (pc := 91) dX7_limit_91 rfl ?_
            refine r_iload_n (pc := 92) dX7_limit_92 rfl ?_
            obtain ⟨n_24, e_23, K0⟩ := K0
            obtain ⟨i_25, K0⟩ := K0
            refine s_iast (pc := 93) dX7_limit_93 e_23 i_25 ?_
            refine r_aload_n (pc := 94) dX7_limit_94 rfl ?_
            refine s_getR (pc := 95) dX7_limit_95 fl_X7_20 rfl k_b0 g_20 ?_
            obtain ⟨c_26, g_27, K0⟩ := K0
            refine s_getR (pc := 98) dX7_limit_98 fl_X7_202 rfl k_b0_2 g_27 ?_
            refine r_iload_n (pc := 101) dX7_limit_101 rfl ?_
            refine r_iload_n (pc := 102) dX7_limit_102 rfl ?_
            obtain ⟨n_29, e_28, K0⟩ := K0
            obtain ⟨i_30, K0⟩ := K0
            refine s_iast (pc := 103) dX7_limit_103 e_28 i_30 ?_
            refine r_bipush (pc := 104) (v := 10) dX7_limit_104 (by decide) ?_
            refine r_iload (pc := 106) dX7_limit_106 rfl ?_
            refine r_imul (pc := 108) dX7_limit_108 ?_
            refine r_iload (pc := 109) dX7_limit_109 rfl ?_
            refine r_iadd (pc := 111) dX7_limit_111 ?_
            exact s_iret rfl dX7_limit_112 K0
          · have K0 := K0.2 q
            refine r_iload (pc := 74) dX7_limit_74 rfl ?_
            refine r_iload_n (pc := 76) dX7_limit_76 rfl ?_
            refine r_icmp_eq (pc := 77) (tgt := 104) dX7_limit_77 (by decide) (fun q => ?_) (fun q => ?_)
            · have K0 := K0.1 q
              refine r_bipush (pc := 104) (v := 10) dX7_limit_104 (by decide) ?_
              refine r_iload (pc := 106) dX7_limit_106 rfl ?_
              refine r_imul (pc := 108) dX7_limit_108 ?_
              refine r_iload (pc := 109) dX7_limit_109 rfl ?_
              refine r_iadd (pc := 111) dX7_limit_111 ?_
              exact s_iret rfl dX7_limit_112 K0
            · have K0 := K0.2 q
              refine r_aload_n (pc := 80) dX7_limit_80 rfl ?_
              refine s_VV (pc := 81) mX7_remember (ci := 7) (a := b0) (As := []) dX7_limit_81 lk_X7_333 in_X7_remember mo_X7_remember ⟨by decide, rfl⟩ ⟨by decide, by decide⟩ (Nat.le_of_ble_eq_true rfl) k_b0 (mSV_mono K0 (fun y_32 K0 => ?_))
              refine r_aload_n (pc := 84) dX7_limit_84 rfl ?_
              obtain ⟨g_33, K0⟩ := K0
              refine s_getR (pc := 85) dX7_limit_85 fl_X7_20 rfl k_b0 g_33 ?_
              obtain ⟨c_34, g_35, K0⟩ := K0
              refine s_getR (pc := 88) dX7_limit_88 fl_X7_198 rfl k_b0_2 g_35 ?_
              refine r_iload_n (pc := 91) dX7_limit_91 rfl ?_
              refine r_iload_n (pc := 92) dX7_limit_92 rfl ?_
              obtain ⟨n_37, e_36, K0⟩ := K0
              obtain ⟨i_38, K0⟩ := K0
              refine s_iast (pc := 93) dX7_limit_93 e_36 i_38 ?_
              refine r_aload_n (pc := 94) dX7_limit_94 rfl ?_
              refine s_getR (pc := 95) dX7_limit_95 fl_X7_20 rfl k_b0 g_33 ?_
              obtain ⟨c_39, g_40, K0⟩ := K0
              refine s_getR (pc := 98) dX7_limit_98 fl_X7_202 rfl k_b0_2 g_40 ?_
              refine r_iload_n (pc := 101) dX7_limit_101 rfl ?_
              refine r_iload_n (pc := 102) dX7_limit_102 rfl ?_
              obtain ⟨n_42, e_41, K0⟩ := K0
              obtain ⟨i_43, K0⟩ := K0
              refine s_iast (pc := 103) dX7_limit_103 e_41 i_43 ?_
              refine r_bipush (pc := 104) (v := 10) dX7_limit_104 (by decide) ?_
              refine r_iload (pc := 106) dX7_limit_106 rfl ?_
              refine r_imul (pc := 108) dX7_limit_108 ?_
              refine r_iload (pc := 109) dX7_limit_109 rfl ?_
              refine r_iadd (pc := 111) dX7_limit_111 ?_
              exact s_iret rfl dX7_limit_112 K0
        · have K0 := K0.2 q
          refine r_bipush (pc := 43) (v := (-6)) dX7_limit_43 (by decide) ?_
          exact s_iret rfl dX7_limit_45 K0
      · have q := (b2i_z _).mp q
        have K0 := K0.2 q
        refine r_bipush (pc := 27) (v := (-2)) dX7_limit_27 (by decide) ?_
        exact s_iret rfl dX7_limit_29 K0

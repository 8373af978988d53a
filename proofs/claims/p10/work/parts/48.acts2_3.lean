set_option maxHeartbeats 2000000 in
theorem v_X8_gives_24 {K : Sh} {x : Cn} {Q : Int32 → Cn → Prop} {b0 : Nat} {l1 : Int32} {l2 : Int32} {l3 : Int32} {l4 : Int32} {b0_1 : Nat} {n_b0_1 : Nat} {b0_3 : Nat} {n_b0_3 : Nat} (k_b0 : kk K b0 = some (8, 0)) (g_b0_1 : gr x b0 1 = some b0_1) (k_b0_1 : kk K b0_1 = some (20, n_b0_1)) (g_b0_3 : gr x b0 3 = some b0_3) (k_b0_3 : kk K b0_3 = some (20, n_b0_3)) (K0 : vp_in 2 n_b0_1 ∧ (((gi x b0_1 2) ≤ l4 → (Q l3 x)) ∧ (¬ (gi x b0_1 2) ≤ l4 → ((l24 l4 n_b0_3) ∧ ((¬ (so (gi x b0_3) (l4 : Int32).toNatClampNeg 0) = l1 → (GI mX8_gives 24 [some (.ref b0), some (.int l1), some (.int l2), some (.int l3), some (.int (l4 + 1)), none] [] K x Q)) ∧ ((so (gi x b0_3) (l4 : Int32).toNatClampNeg 0) = l1 → (((so (gi x b0_3) (l4 : Int32).toNatClampNeg 1) = l2 → (vp_in 4 n_b0_1 ∧ (mSI mX8_openFrom [.ref b0, .int l4, .int ((gi x b0_1 4) + 4)] K x (fun r_8 y_7 => (r_8 = 0 → (mSV mX8_goes [.ref b0, .int l4, .int r_8, .int 0, .int 4] K y_7 (fun y_10 => GI mX8_gives 24 [some (.ref b0), some (.int l1), some (.int l2), some (.int (l3 + (nI (cpt r_8)))), some (.int (l4 + 1)), none] [] K y_10 Q))) ∧ (¬ r_8 = 0 → ((¬ l3 = 0 → (mSV mX8_goes [.ref b0, .int l4, .int r_8, .int 0, .int 4] K y_7 (fun y_12 => GI mX8_gives 24 [some (.ref b0), some (.int l1), some (.int l2), some (.int (l3 + (nI (cpt r_8)))), some (.int (l4 + 1)), none] [] K y_12 Q))) ∧ (l3 = 0 → (mSV mX8_keeps [.ref b0] K y_7 (fun y_13 => mSV mX8_goes [.ref b0, .int l4, .int r_8, .int 0, .int 4] K y_13 (fun y_14 => GI mX8_gives 24 [some (.ref b0), some (.int l1), some (.int l2), some (.int (l3 + (nI (cpt r_8)))), some (.int (l4 + 1)), none] [] K y_14 Q)))))))))) ∧ (¬ (so (gi x b0_3) (l4 : Int32).toNatClampNeg 1) = l2 → (GI mX8_gives 24 [some (.ref b0), some (.int l1), some (.int l2), some (.int l3), some (.int (l4 + 1)), none] [] K x Q))))))))) : GI mX8_gives 24 [some (.ref b0), some (.int l1), some (.int l2), some (.int l3), some (.int l4), none] [] K x Q := by
  show mGM mX8_gives 24 [some (.ref b0), some (.int l1), some (.int l2), some (.int l3), some (.int l4), none] [] (hp K x) (PI K Q)
  refine r_iload (pc := 24) dX8_gives_24 rfl ?_
  refine r_aload_n (pc := 26) dX8_gives_26 rfl ?_
  refine s_getR (pc := 27) dX8_gives_27 fl_X8_9 rfl k_b0 g_b0_1 ?_
  refine r_iconst (pc := 30) (v := 2) dX8_gives_30 (by decide) ?_
  obtain ⟨i_1, K0⟩ := K0
  refine s_iald (pc := 31) dX8_gives_31 k_b0_1 i_1 ?_
  refine r_icmp_ge (pc := 32) (tgt := 113) dX8_gives_32 (by decide) (fun q => ?_) (fun q => ?_)
  · have K0 := K0.1 q
    refine r_iload_n (pc := 113) dX8_gives_113 rfl ?_
    exact s_iret rfl dX8_gives_114 K0
  · have K0 := K0.2 q
    refine r_aload_n (pc := 35) dX8_gives_35 rfl ?_
    refine r_iload (pc := 36) dX8_gives_36 rfl ?_
    refine r_iconst (pc := 38) (v := 0) dX8_gives_38 (by decide) ?_
    obtain ⟨p_3, K0⟩ := K0
    refine s_VI (pc := 39) mX8_one (ci := 8) (a := b0) (As := [.int l4, .int 0]) dX8_gives_39 lk_X8_67 in_X8_one mo_X8_one ⟨by decide, rfl⟩ ⟨by decide, by decide⟩ (Nat.le_of_ble_eq_true rfl) k_b0 (sr_X8_one k_b0 g_b0_3 k_b0_3 p_3 ⟨by decide, by decide⟩ ?_)
    refine r_iload_n (pc := 42) dX8_gives_42 rfl ?_
    refine r_icmp_ne (pc := 43) (tgt := 107) dX8_gives_43 (by decide) (fun q => ?_) (fun q => ?_)
    · have K0 := K0.1 q
      refine r_iinc (pc := 107) (v := l4 + 1) dX8_gives_107 rfl rfl (by decide) ?_
      refine r_goto (pc := 110) (L := [some (.ref b0), some (.int l1), some (.int l2), some (.int l3), some (.int (l4 + 1)), none]) (tgt := 24) dX8_gives_110 (by decide) ?_
      exact r_le (L' := [some (.ref b0), some (.int l1), some (.int l2), some (.int l3), some (.int (l4 + 1)), none]) ⟨rfl, ⟨rfl, ⟨rfl, ⟨rfl, ⟨rfl, trivial⟩⟩⟩⟩⟩ K0
    · have K0 := K0.2 q
      refine r_aload_n (pc := 46) dX8_gives_46 rfl ?_
      refine r_iload (pc := 47) dX8_gives_47 rfl ?_
      refine r_iconst (pc := 49) (v := 1) dX8_gives_49 (by decide) ?_
      refine s_VI (pc := 50) mX8_one (ci := 8) (a := b0) (As := [.int l4, .int 1]) dX8_gives_50 lk_X8_67 in_X8_one mo_X8_one ⟨by decide, rfl⟩ ⟨by decide, by decide⟩ (Nat.le_of_ble_eq_true rfl) k_b0 (sr_X8_one k_b0 g_b0_3 k_b0_3 p_3 ⟨by decide, by decide⟩ ?_)
      refine r_iload_n (pc := 53) dX8_gives_53 rfl ?_
      refine r_icmp_eq (pc := 54) (tgt := 60) dX8_gives_54 (by decide) (fun q => ?_) (fun q => ?_)
      · have K0 := K0.1 q
        refine r_aload_n (pc := 60) dX8_gives_60 rfl ?_
        refine r_iload (pc := 61) dX8_gives_61 rfl ?_
        refine r_aload_n (pc := 63) dX8_gives_63 rfl ?_
        refine s_getR (pc := 64) dX8_gives_64 fl_X8_9 rfl k_b0 g_b0_1 ?_
        refine r_iconst (pc := 67) (v := 4) dX8_gives_67 (by decide) ?_
        obtain ⟨i_6, K0⟩ := K0
        refine s_iald (pc := 68) dX8_gives_68 k_b0_1 i_6 ?_
        refine r_iconst (pc := 69) (v := 4) dX8_gives_69 (by decide) ?_
        refine r_iadd (pc := 70) dX8_gives_70 ?_
        refine s_VI (pc := 71) mX8_openFrom (ci := 8) (a := b0) (As := [.int l4, .int ((gi x b0_1 4) + 4)]) dX8_gives_71 lk_X8_373 in_X8_openFrom mo_X8_openFrom ⟨by decide, rfl⟩ ⟨by decide, by decide⟩ (Nat.le_of_ble_eq_true rfl) k_b0 (mSI_mono K0 (fun r_8 y_7 K0 => ?_))
        refine r_istore (pc := 74) dX8_gives_74 (by decide) ?_
        refine r_iload (pc := 76) (L := [some (.ref b0), some (.int l1), some (.int l2), some (.int l3), some (.int l4), some (.int r_8)]) dX8_gives_76 rfl ?_
        refine r_if_eq (pc := 78) (tgt := 89) dX8_gives_78 (by decide) (fun q => ?_) (fun q => ?_)
        · have K0 := K0.1 q
          refine r_iload_n (pc := 89) dX8_gives_89 rfl ?_
          refine r_iload (pc := 90) dX8_gives_90 rfl ?_
          refine s_SI (pc := 92) mX8_bits (As := [.int r_8]) dX8_gives_92 lk_X8_296 st_X8_bits mo_X8_bits ⟨by decide, by decide⟩ (Nat.le_of_ble_eq_true rfl) (sp_X8_bits  ?_)
          refine r_iadd (pc := 95) dX8_gives_95 ?_
          refine r_istore_n (pc := 96) dX8_gives_96 (by decide) ?_
          refine r_aload_n (pc := 97) (L := [some (.ref b0), some (.int l1), some (.int l2), some (.int (l3 + (nI (cpt r_8)))), some (.int l4), some (.int r_8)]) dX8_gives_97 rfl ?_
          refine r_iload (pc := 98) dX8_gives_98 rfl ?_
          refine r_iload (pc := 100) dX8_gives_100 rfl ?_
          refine r_iconst (pc := 102) (v := 0) dX8_gives_102 (by decide) ?_
          refine r_iconst (pc := 103) (v := 4) dX8_gives_103 (by decide) ?_
          refine s_VV (pc := 104) mX8_goes (ci := 8) (a := b0) (As := [.int l4, .int r_8, .int 0, .int 4]) dX8_gives_104 lk_X8_369 in_X8_goes mo_X8_goes ⟨by decide, rfl⟩ ⟨by decide, by decide⟩ (Nat.le_of_ble_eq_true rfl) k_b0 (mSV_mono K0 (fun y_10 K0 => ?_))
          refine r_iinc (pc := 107) (v := l4 + 1) dX8_gives_107 rfl rfl (by decide) ?_
          refine r_goto (pc := 110) (L := [some (.ref b0), some (.int l1), some (.int l2), some (.int (l3 + (nI (cpt r_8)))), some (.int (l4 + 1)), some (.int r_8)]) (tgt := 24) dX8_gives_110 (by decide) ?_
          exact r_le (L' := [some (.ref b0), some (.int l1), some (.int l2), some (.int (l3 + (nI (cpt r_8)))), some (.int (l4 + 1)), none]) ⟨rfl, ⟨rfl, ⟨rfl, ⟨rfl, ⟨rfl, trivial⟩⟩⟩⟩⟩ K0
        · have K0 := K0.2 q
          refine r_iload_n (pc := 81) dX8_gives_81 rfl ?_
          refine r_if_ne (pc := 82) (tgt := 89) dX8_gives_82 (by decide) (fun q => ?_) (fun q => ?_)
          · have K0 := K0.1 q
            refine r_iload_n (pc := 89) dX8_gives_89 rfl ?_
            refine r_iload (pc := 90) dX8_gives_90 rfl ?_
            refine s_SI (pc := 92) mX8_bits (As := [.int r_8]) dX8_gives_92 lk_X8_296 st_X8_bits mo_X8_bits ⟨by decide, by decide⟩ (Nat.le_of_ble_eq_true rfl) (sp_X8_bits  ?_)
            refine r_iadd (pc := 95) dX8_gives_95 ?_
            refine r_istore_n (pc := 96) dX8_gives_96 (by decide) ?_
            refine r_aload_n (pc := 97) (L := [some (.ref b0), some (.int l1), some (.int l2), some (.int (l3 + (nI (cpt r_8)))), some (.int l4), some (.int r_8)]) dX8_gives_97 rfl ?_
            refine r_iload (pc := 98) dX8_gives_98 rfl ?_
            refine r_iload (pc := 100) dX8_gives_100 rfl ?_
            refine r_iconst (pc := 102) (v := 0) dX8_gives_102 (by decide) ?_
            refine r_iconst (pc := 103) (v := 4) dX8_gives_103 (by decide) ?_
            refine s_VV (pc := 104) mX8_goes (ci := 8) (a := b0) (As := [.int l4, .int r_8, .int 0, .int 4]) dX8_gives_104 lk_X8_369 in_X8_goes mo_X8_goes ⟨by decide, rfl⟩ ⟨by decide, by decide⟩ (Nat.le_of_ble_eq_true rfl) k_b0 (mSV_mono K0 (fun y_12 K0 => ?_))
            refine r_iinc (pc := 107) (v := l4 + 1) dX8_gives_107 rfl rfl (by decide) ?_
            refine r_goto (pc := 110) (L := [some (.ref b0), some (.int l1), some (.int l2), some (.int (l3 + (nI (cpt r_8)))), some (.int (l4 + 1)), some (.int r_8)]) (tgt := 24) dX8_gives_110 (by decide) ?_
            exact r_le (L' := [some (.ref b0), some (.int l1), some (.int l2), some (.int (l3 + (nI (cpt r_8)))), some (.int (l4 + 1)), none]) ⟨rfl, ⟨rfl, ⟨rfl, ⟨rfl, ⟨rfl, trivial⟩⟩⟩⟩⟩ K0
          · have K0 := K0.2 q
            refine r_aload_n (pc := 85) dX8_gives_85 rfl ?_
            refine s_VV (pc := 86) mX8_keeps (ci := 8) (a := b0) (As := []) dX8_gives_86 lk_X8_366 in_X8_keeps mo_X8_keeps ⟨by decide, rfl⟩ ⟨by decide, by decide⟩ (Nat.le_of_ble_eq_true rfl) k_b0 (mSV_mono K0 (fun y_13 K0 => ?_))
            refine r_iload_n (pc := 89) dX8_gives_89 rfl ?_
            refine r_iload (pc := 90) dX8_gives_90 rfl ?_
            refine s_SI (pc := 92) mX8_bits (As := [.int r_8]) dX8_gives_92 lk_X8_296 st_X8_bits mo_X8_bits ⟨by decide, by decide⟩ (Nat.le_of_ble_eq_true rfl) (sp_X8_bits  ?_)
            refine r_iadd (pc := 95) dX8_gives_95 ?_
            refine r_istore_n (pc := 96) dX8_gives_96 (by decide) ?_
            refine r_aload_n (pc := 97) (L := [some (.ref b0), some (.int l1), some (.int l2), some (.int (l3 + (nI (cpt r_8)))), some (.int l4), some (.int r_8)]) dX8_gives_97 rfl ?_
            refine r_iload (pc := 98) dX8_gives_98 rfl ?_
            refine r_iload (pc := 100) dX8_gives_100 rfl ?_
            refine r_iconst (pc := 102) (v := 0) dX8_gives_102 (by decide) ?_
            refine r_iconst (pc := 103) (v := 4) dX8_gives_103 (by decide) ?_
            refine s_VV (pc := 104) mX8_goes (ci := 8) (a := b0) (As := [.int l4, .int r_8, .int 0, .int 4]) dX8_gives_104 lk_X8_369 in_X8_goes mo_X8_goes ⟨by decide, rfl⟩ ⟨by decide, by decide⟩ (Nat.le_of_ble_eq_true rfl) k_b0 (mSV_mono K0 (fun y_14 K0 => ?_))
            refine r_iinc (pc := 107) (v := l4 + 1) dX8_gives_107 rfl rfl (by decide) ?_
            refine r_goto (pc := 110) (L := [some (.ref b0), some (.int l1), some (.int l2), some (.int (l3 + (nI (cpt r_8)))), some (.int (l4 + 1)), some (.int r_8)]) (tgt := 24) dX8_gives_110 (by decide) ?_
            exact r_le (L' := [some (.ref b0), some (.int l1), some (.int l2), some (.int (l3 + (nI (cpt r_8)))), some (.int (l4 + 1)), none]) ⟨rfl, ⟨rfl, ⟨rfl, ⟨rfl, ⟨rfl, trivial⟩⟩⟩⟩⟩ K0
      · have K0 := K0.2 q
        refine r_goto (pc := 57) (tgt := 107) dX8_gives_57 (by decide) ?_
        refine r_iinc (pc := 107) (v := l4 + 1) dX8_gives_107 rfl rfl (by decide) ?_
        refine r_goto (pc := 110) (L := [some (.ref b0), some (.int l1), some (.int l2), some (.int l3), some (.int (l4 + 1)), none]) (tgt := 24) dX8_gives_110 (by decide) ?_
        exact r_le (L' := [some (.ref b0), some (.int l1), some (.int l2), some (.int l3), some (.int (l4 + 1)), none]) ⟨rfl, ⟨rfl, ⟨rfl, ⟨rfl, ⟨rfl, trivial⟩⟩⟩⟩⟩ K0
section
end

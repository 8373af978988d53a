/-! series, asks, all lines: the reference -/
theorem adT_cg {T : TT} {S : Nat} {f g : Nat → Int32} (h : ∀ k, k < 12 → f k = g k) : adT T S f = adT T S g := by
  funext i
  unfold adT
  by_cases c : i = 2
  · rw [if_pos c, if_pos c]
  · rw [if_neg c, if_neg c]
    by_cases d : 62 + 12 * S ≤ i ∧ i < 74 + 12 * S
    · rw [if_pos d, if_pos d]; exact h _ (by omega)
    · rw [if_neg d, if_neg d]
theorem RG.s {x : Cn} {b : TT} {n p : Nat} (g : RG x b n p) : (gi x 717 11 = 0 ∧ gi x 717 9 = 3 ∧ gi x 717 10 = 59) ↔ sg b n p 59 := by
  have ek : gi x 717 9 = 3 ↔ tK b n p = 3 := g.2.1.k 3 (by omega)
  unfold sg
  rw [ek]
  have key : tK b n p = 3 → (gi x 717 10 = 59 ↔ b (tS b n p) = 59) := by
    intro z
    have hlt : tS b n p < n := by
      have h1 := tK_0 (b := b) g.2.2.1
      have h2 := tS_b (b := b) g.2.2.1
      omega
    rw [g.2.1.2.2.2.2 z]
    exact (FB_of (g.1.2.2.2.1 _ hlt)).2.2.2.2.1
  constructor
  · intro h; exact ⟨h.2.1, (key h.2.1).mp h.2.2⟩
  · intro h; exact ⟨g.2.2.2, h.1, (key h.1).mpr h.2⟩
set_option maxHeartbeats 2000000 in
theorem v_X8_readSeries_0 {K : Sh} {x : Cn} {Q : Cn → Prop} {b0 : Nat} {b0_3 : Nat} {n_b0_3 : Nat} (k_b0 : kk K b0 = some (8, 0)) (g_b0_3 : gr x b0 3 = some b0_3) (k_b0_3 : kk K b0_3 = some (20, n_b0_3)) (K0 : vp_in 2 n_b0_3 ∧ ((¬ (gi x b0_3 2) = 24 → (GV mX8_readSeries 20 [some (.ref b0), none, none] [] K x Q)) ∧ ((gi x b0_3 2) = 24 → (mSV mX8_errs [.ref b0, .int 5, .int (gi x b0 8)] K x (fun y_3 => GV mX8_readSeries 20 [some (.ref b0), none, none] [] K y_3 Q))))) : mSV mX8_readSeries [.ref b0] K x Q := by
  refine s_V (by decide) (by simp [Value.category]) (Nat.le_of_ble_eq_true rfl) ?_
  show mGM mX8_readSeries 0 [some (.ref b0), none, none] [] (hp K x) (PV K Q)
  refine r_aload_n (pc := 0) dX8_readSeries_0 rfl ?_
  refine s_getR (pc := 1) dX8_readSeries_1 fl_X8_16 rfl k_b0 g_b0_3 ?_
  refine r_iconst (pc := 4) (v := 2) dX8_readSeries_4 (by decide) ?_
  obtain ⟨i_1, K0⟩ := K0
  refine s_iald (pc := 5) dX8_readSeries_5 k_b0_3 i_1 ?_
  refine r_bipush (pc := 6) (v := 24) dX8_readSeries_6 (by decide) ?_
  refine r_icmp_ne (pc := 8) (tgt := 20) dX8_readSeries_8 (by decide) (fun q => ?_) (fun q => ?_)
  · have K0 := K0.1 q
    exact r_le (L' := [some (.ref b0), none, none]) ⟨rfl, trivial⟩ K0
  · have K0 := K0.2 q
    refine r_aload_n (pc := 11) dX8_readSeries_11 rfl ?_
    refine r_iconst (pc := 12) (v := 5) dX8_readSeries_12 (by decide) ?_
    refine r_aload_n (pc := 13) dX8_readSeries_13 rfl ?_
    refine s_getI (pc := 14) dX8_readSeries_14 fl_X8_116 rfl k_b0 ?_
    refine s_VV (pc := 17) mX8_errs (ci := 8) (a := b0) (As := [.int 5, .int (gi x b0 8)]) dX8_readSeries_17 lk_X8_157 in_X8_errs mo_X8_errs ⟨by decide, rfl⟩ ⟨by decide, by decide⟩ (Nat.le_of_ble_eq_true rfl) k_b0 (mSV_mono K0 (fun y_3 K0 => ?_))
    exact r_le (L' := [some (.ref b0), none, none]) ⟨rfl, trivial⟩ K0
set_option maxHeartbeats 2000000 in
theorem v_X8_readSeries_20 {K : Sh} {x : Cn} {Q : Cn → Prop} {b0 : Nat}  (k_b0 : kk K b0 = some (8, 0)) (K0 : mSV mX8_passes [.ref b0, .ref (mSB + 22)] K x (fun y_1 => GV mX8_readSeries 26 [some (.ref b0), none, none] [] K y_1 Q)) : GV mX8_readSeries 20 [some (.ref b0), none, none] [] K x Q := by
  show mGM mX8_readSeries 20 [some (.ref b0), none, none] [] (hp K x) (PV K Q)
  refine r_aload_n (pc := 20) dX8_readSeries_20 rfl ?_
  refine r_ldcS (pc := 21) (j := 22) dX8_readSeries_21 rfl ?_
  refine s_VV (pc := 23) mX8_passes (ci := 8) (a := b0) (As := [.ref (mSB + 22)]) dX8_readSeries_23 lk_X8_211 in_X8_passes mo_X8_passes ⟨by decide, rfl⟩ ⟨by decide, by decide⟩ (Nat.le_of_ble_eq_true rfl) k_b0 (mSV_mono K0 (fun y_1 K0 => ?_))
  exact r_le (L' := [some (.ref b0), none, none]) ⟨rfl, trivial⟩ K0
set_option maxHeartbeats 2000000 in
theorem v_X8_readSeries_26 {K : Sh} {x : Cn} {Q : Cn → Prop} {b0 : Nat}  (k_b0 : kk K b0 = some (8, 0)) (K0 : mSV mX8_readCommon [.ref b0] K x (fun y_1 => GV mX8_readSeries 30 [some (.ref b0), none, none] [] K y_1 Q)) : GV mX8_readSeries 26 [some (.ref b0), none, none] [] K x Q := by
  show mGM mX8_readSeries 26 [some (.ref b0), none, none] [] (hp K x) (PV K Q)
  refine r_aload_n (pc := 26) dX8_readSeries_26 rfl ?_
  refine s_VV (pc := 27) mX8_readCommon (ci := 8) (a := b0) (As := []) dX8_readSeries_27 lk_X8_234 in_X8_readCommon mo_X8_readCommon ⟨by decide, rfl⟩ ⟨by decide, by decide⟩ (Nat.le_of_ble_eq_true rfl) k_b0 (mSV_mono K0 (fun y_1 K0 => ?_))
  exact r_le (L' := [some (.ref b0), none, none]) ⟨rfl, trivial⟩ K0
set_option maxHeartbeats 2000000 in
theorem v_X8_readSeries_30 {K : Sh} {x : Cn} {Q : Cn → Prop} {b0 : Nat}  (k_b0 : kk K b0 = some (8, 0)) (K0 : mSI mX8_eats [.ref b0, .ref (mSB + 25)] K x (fun r_2 y_1 => GV mX8_readSeries 37 [some (.ref b0), some (.int r_2), none] [] K y_1 Q)) : GV mX8_readSeries 30 [some (.ref b0), none, none] [] K x Q := by
  show mGM mX8_readSeries 30 [some (.ref b0), none, none] [] (hp K x) (PV K Q)
  refine r_aload_n (pc := 30) dX8_readSeries_30 rfl ?_
  refine r_ldcS (pc := 31) (j := 25) dX8_readSeries_31 rfl ?_
  refine s_VI (pc := 33) mX8_eats (ci := 8) (a := b0) (As := [.ref (mSB + 25)]) dX8_readSeries_33 lk_X8_154 in_X8_eats mo_X8_eats ⟨by decide, rfl⟩ ⟨by decide, by decide⟩ (Nat.le_of_ble_eq_true rfl) k_b0 (mSI_mono K0 (fun r_2 y_1 K0 => ?_))
  refine r_istore_n (pc := 36) dX8_readSeries_36 (by decide) ?_
  exact r_le (L' := [some (.ref b0), some (.int r_2), none]) ⟨rfl, ⟨rfl, trivial⟩⟩ K0
set_option maxHeartbeats 2000000 in
theorem v_X8_readSeries_37 {K : Sh} {x : Cn} {Q : Cn → Prop} {b0 : Nat} {l1 : Int32}  (k_b0 : kk K b0 = some (8, 0)) (K0 : (¬ (gi x b0 11 = 0) → (GV mX8_readSeries 62 [some (.ref b0), some (.int l1), none] [] K x Q)) ∧ ((gi x b0 11 = 0) → (((gi x b0 11 = 0 ∧ gi x b0 9 = 3 ∧ gi x b0 10 = 59) → (GV mX8_readSeries 62 [some (.ref b0), some (.int l1), none] [] K x Q)) ∧ (¬ (gi x b0 11 = 0 ∧ gi x b0 9 = 3 ∧ gi x b0 10 = 59) → (mSV mX8_errs [.ref b0, .int 1, .int (gi x b0 8)] K x (fun y_3 => GV mX8_readSeries 62 [some (.ref b0), some (.int l1), none] [] K y_3 Q)))))) : GV mX8_readSeries 37 [some (.ref b0), some (.int l1), none] [] K x Q := by
  show mGM mX8_readSeries 37 [some (.ref b0), some (.int l1), none] [] (hp K x) (PV K Q)
  refine r_aload_n (pc := 37) dX8_readSeries_37 rfl ?_
  refine s_VI (pc := 38) mX8_good (ci := 8) (a := b0) (As := []) dX8_readSeries_38 lk_X8_104 in_X8_good mo_X8_good ⟨by decide, rfl⟩ ⟨by decide, by decide⟩ (Nat.le_of_ble_eq_true rfl) k_b0 (sp_X8_good k_b0 ?_)
  refine r_if_eq (pc := 41) (tgt := 62) dX8_readSeries_41 (by decide) (fun q => ?_) (fun q => ?_)
  · have q := (b2i_z _).mp q
    have K0 := K0.1 q
    exact r_le (L' := [some (.ref b0), some (.int l1), none]) ⟨rfl, ⟨rfl, trivial⟩⟩ K0
  · have q := b2i_nz q
    have K0 := K0.2 q
    refine r_aload_n (pc := 44) dX8_readSeries_44 rfl ?_
    refine r_bipush (pc := 45) (v := 59) dX8_readSeries_45 (by decide) ?_
    refine s_VI (pc := 47) mX8_isByte (ci := 8) (a := b0) (As := [.int 59]) dX8_readSeries_47 lk_X8_161 in_X8_isByte mo_X8_isByte ⟨by decide, rfl⟩ ⟨by decide, by decide⟩ (Nat.le_of_ble_eq_true rfl) k_b0 (sp_X8_isByte k_b0 ?_)
    refine r_if_ne (pc := 50) (tgt := 62) dX8_readSeries_50 (by decide) (fun q => ?_) (fun q => ?_)
    · have q := b2i_nz q
      have K0 := K0.1 q
      exact r_le (L' := [some (.ref b0), some (.int l1), none]) ⟨rfl, ⟨rfl, trivial⟩⟩ K0
    · have q := (b2i_z _).mp q
      have K0 := K0.2 q
      refine r_aload_n (pc := 53) dX8_readSeries_53 rfl ?_
      refine r_iconst (pc := 54) (v := 1) dX8_readSeries_54 (by decide) ?_
      refine r_aload_n (pc := 55) dX8_readSeries_55 rfl ?_
      refine s_getI (pc := 56) dX8_readSeries_56 fl_X8_116 rfl k_b0 ?_
      refine s_VV (pc := 59) mX8_errs (ci := 8) (a := b0) (As := [.int 1, .int (gi x b0 8)]) dX8_readSeries_59 lk_X8_157 in_X8_errs mo_X8_errs ⟨by decide, rfl⟩ ⟨by decide, by decide⟩ (Nat.le_of_ble_eq_true rfl) k_b0 (mSV_mono K0 (fun y_3 K0 => ?_))
      exact r_le (L' := [some (.ref b0), some (.int l1), none]) ⟨rfl, ⟨rfl, trivial⟩⟩ K0
set_option maxHeartbeats 2000000 in
theorem v_X8_readSeries_62 {K : Sh} {x : Cn} {Q : Cn → Prop} {b0 : Nat} {l1 : Int32} {b0_15 : Nat} {n_b0_15 : Nat} (k_b0 : kk K b0 = some (8, 0)) (g_b0_15 : gr x b0 15 = some b0_15) (k_b0_15 : kk K b0_15 = some (20, n_b0_15)) (K0 : vp_in 4 n_b0_15 ∧ (vp_in 5 n_b0_15 ∧ (GV mX8_readSeries 78 [some (.ref b0), some (.int l1), some (.int (f_span (gi x b0_15 4) (gi x b0_15 5)))] [] K x Q))) : GV mX8_readSeries 62 [some (.ref b0), some (.int l1), none] [] K x Q := by
  show mGM mX8_readSeries 62 [some (.ref b0), some (.int l1), none] [] (hp K x) (PV K Q)
  refine r_aload_n (pc := 62) dX8_readSeries_62 rfl ?_
  refine s_getR (pc := 63) dX8_readSeries_63 fl_X8_27 rfl k_b0 g_b0_15 ?_
  refine r_iconst (pc := 66) (v := 4) dX8_readSeries_66 (by decide) ?_
  obtain ⟨i_1, K0⟩ := K0
  refine s_iald (pc := 67) dX8_readSeries_67 k_b0_15 i_1 ?_
  refine r_aload_n (pc := 68) dX8_readSeries_68 rfl ?_
  refine s_getR (pc := 69) dX8_readSeries_69 fl_X8_27 rfl k_b0 g_b0_15 ?_
  refine r_iconst (pc := 72) (v := 5) dX8_readSeries_72 (by decide) ?_
  obtain ⟨i_2, K0⟩ := K0
  refine s_iald (pc := 73) dX8_readSeries_73 k_b0_15 i_2 ?_
  refine s_SI (pc := 74) mX8_span (As := [.int (gi x b0_15 4), .int (gi x b0_15 5)]) dX8_readSeries_74 lk_X8_79 st_X8_span mo_X8_span ⟨by decide, by decide⟩ (Nat.le_of_ble_eq_true rfl) (sp_X8_span  ?_)
  refine r_istore_n (pc := 77) dX8_readSeries_77 (by decide) ?_
  exact r_le (L' := [some (.ref b0), some (.int l1), some (.int (f_span (gi x b0_15 4) (gi x b0_15 5)))]) ⟨rfl, ⟨rfl, ⟨rfl, trivial⟩⟩⟩ K0
set_option maxHeartbeats 2000000 in
theorem v_X8_readSeries_78 {K : Sh} {x : Cn} {Q : Cn → Prop} {b0 : Nat} {l1 : Int32} {l2 : Int32} {b0_15 : Nat} {n_b0_15 : Nat} (k_b0 : kk K b0 = some (8, 0)) (g_b0_15 : gr x b0 15 = some b0_15) (k_b0_15 : kk K b0_15 = some (20, n_b0_15)) (K0 : (¬ (gi x b0 11 = 0) → (GV mX8_readSeries 122 [some (.ref b0), some (.int l1), some (.int l2)] [] K x Q)) ∧ ((gi x b0 11 = 0) → (vp_in 1 n_b0_15 ∧ (vp_in 2 n_b0_15 ∧ (vp_in 3 n_b0_15 ∧ (mSI mX8_canBe [.ref b0, .int l2, .int (gi x b0_15 1), .int (gi x b0_15 2), .int (gi x b0_15 3), .int (-1)] K x (fun r_6 y_5 => (¬ r_6 = 0 → (GV mX8_readSeries 122 [some (.ref b0), some (.int l1), some (.int l2)] [] K y_5 Q)) ∧ (r_6 = 0 → (mSV mX8_errs [.ref b0, .int 6, .int (gi y_5 b0 8)] K y_5 (fun y_8 => GV mX8_readSeries 122 [some (.ref b0), some (.int l1), some (.int l2)] [] K y_8 Q)))))))))) : GV mX8_readSeries 78 [some (.ref b0), some (.int l1), some (.int l2)] [] K x Q := by
  show mGM mX8_readSeries 78 [some (.ref b0), some (.int l1), some (.int l2)] [] (hp K x) (PV K Q)
  refine r_aload_n (pc := 78) dX8_readSeries_78 rfl ?_
  refine s_VI (pc := 79) mX8_good (ci := 8) (a := b0) (As := []) dX8_readSeries_79 lk_X8_104 in_X8_good mo_X8_good ⟨by decide, rfl⟩ ⟨by decide, by decide⟩ (Nat.le_of_ble_eq_true rfl) k_b0 (sp_X8_good k_b0 ?_)
  refine r_if_eq (pc := 82) (tgt := 122) dX8_readSeries_82 (by decide) (fun q => ?_) (fun q => ?_)
  · have q := (b2i_z _).mp q
    have K0 := K0.1 q
    exact r_le (L' := [some (.ref b0), some (.int l1), some (.int l2)]) ⟨rfl, ⟨rfl, ⟨rfl, trivial⟩⟩⟩ K0
  · have q := b2i_nz q
    have K0 := K0.2 q
    refine r_aload_n (pc := 85) dX8_readSeries_85 rfl ?_
    refine r_iload_n (pc := 86) dX8_readSeries_86 rfl ?_
    refine r_aload_n (pc := 87) dX8_readSeries_87 rfl ?_
    refine s_getR (pc := 88) dX8_readSeries_88 fl_X8_27 rfl k_b0 g_b0_15 ?_
    refine r_iconst (pc := 91) (v := 1) dX8_readSeries_91 (by decide) ?_
    obtain ⟨i_2, K0⟩ := K0
    refine s_iald (pc := 92) dX8_readSeries_92 k_b0_15 i_2 ?_
    refine r_aload_n (pc := 93) dX8_readSeries_93 rfl ?_
    refine s_getR (pc := 94) dX8_readSeries_94 fl_X8_27 rfl k_b0 g_b0_15 ?_
    refine r_iconst (pc := 97) (v := 2) dX8_readSeries_97 (by decide) ?_
    obtain ⟨i_3, K0⟩ := K0
    refine s_iald (pc := 98) dX8_readSeries_98 k_b0_15 i_3 ?_
    refine r_aload_n (pc := 99) dX8_readSeries_99 rfl ?_
    refine s_getR (pc := 100) dX8_readSeries_100 fl_X8_27 rfl k_b0 g_b0_15 ?_
    refine r_iconst (pc := 103) (v := 3) dX8_readSeries_103 (by decide) ?_
    obtain ⟨i_4, K0⟩ := K0
    refine s_iald (pc := 104) dX8_readSeries_104 k_b0_15 i_4 ?_
    refine r_iconst (pc := 105) (v := (-1)) dX8_readSeries_105 (by decide) ?_
    refine s_VI (pc := 106) mX8_canBe (ci := 8) (a := b0) (As := [.int l2, .int (gi x b0_15 1), .int (gi x b0_15 2), .int (gi x b0_15 3), .int (-1)]) dX8_readSeries_106 lk_X8_90 in_X8_canBe mo_X8_canBe ⟨by decide, rfl⟩ ⟨by decide, by decide⟩ (Nat.le_of_ble_eq_true rfl) k_b0 (mSI_mono K0 (fun r_6 y_5 K0 => ?_))
    refine r_if_ne (pc := 109) (tgt := 122) dX8_readSeries_109 (by decide) (fun q => ?_) (fun q => ?_)
    · have K0 := K0.1 q
      exact r_le (L' := [some (.ref b0), some (.int l1), some (.int l2)]) ⟨rfl, ⟨rfl, ⟨rfl, trivial⟩⟩⟩ K0
    · have K0 := K0.2 q
      refine r_aload_n (pc := 112) dX8_readSeries_112 rfl ?_
      refine r_bipush (pc := 113) (v := 6) dX8_readSeries_113 (by decide) ?_
      refine r_aload_n (pc := 115) dX8_readSeries_115 rfl ?_
      refine s_getI (pc := 116) dX8_readSeries_116 fl_X8_116 rfl k_b0 ?_
      refine s_VV (pc := 119) mX8_errs (ci := 8) (a := b0) (As := [.int 6, .int (gi y_5 b0 8)]) dX8_readSeries_119 lk_X8_157 in_X8_errs mo_X8_errs ⟨by decide, rfl⟩ ⟨by decide, by decide⟩ (Nat.le_of_ble_eq_true rfl) k_b0 (mSV_mono K0 (fun y_8 K0 => ?_))
      exact r_le (L' := [some (.ref b0), some (.int l1), some (.int l2)]) ⟨rfl, ⟨rfl, ⟨rfl, trivial⟩⟩⟩ K0
set_option maxHeartbeats 2000000 in
theorem v_X8_readSeries_122 {K : Sh} {x : Cn} {Q : Cn → Prop} {b0 : Nat} {l1 : Int32} {l2 : Int32} {b0_15 : Nat} {n_b0_15 : Nat} (k_b0 : kk K b0 = some (8, 0)) (g_b0_15 : gr x b0 15 = some b0_15) (k_b0_15 : kk K b0_15 = some (20, n_b0_15)) (K0 : ((gi x b0 11 = 0) → (vp_in 2 n_b0_15 ∧ (vp_in 4 n_b0_15 ∧ (mSV mX8_addsSeries [.ref b0, .int (gi x b0_15 2), .int l2, .int (gi x b0_15 4), .int l1] K x (fun y_4 => GV mX8_readSeries 148 [some (.ref b0), some (.int l1), some (.int l2)] [] K y_4 Q))))) ∧ (¬ (gi x b0 11 = 0) → (Q x))) : GV mX8_readSeries 122 [some (.ref b0), some (.int l1), some (.int l2)] [] K x Q := by
  show mGM mX8_readSeries 122 [some (.ref b0), some (.int l1), some (.int l2)] [] (hp K x) (PV K Q)
  refine r_aload_n (pc := 122) dX8_readSeries_122 rfl ?_
  refine s_VI (pc := 123) mX8_good (ci := 8) (a := b0) (As := []) dX8_readSeries_123 lk_X8_104 in_X8_good mo_X8_good ⟨by decide, rfl⟩ ⟨by decide, by decide⟩ (Nat.le_of_ble_eq_true rfl) k_b0 (sp_X8_good k_b0 ?_)
  refine r_if_ne (pc := 126) (tgt := 130) dX8_readSeries_126 (by decide) (fun q => ?_) (fun q => ?_)
  · have q := b2i_nz q
    have K0 := K0.1 q
    refine r_aload_n (pc := 130) dX8_readSeries_130 rfl ?_
    refine r_aload_n (pc := 131) dX8_readSeries_131 rfl ?_
    refine s_getR (pc := 132) dX8_readSeries_132 fl_X8_27 rfl k_b0 g_b0_15 ?_
    refine r_iconst (pc := 135) (v := 2) dX8_readSeries_135 (by decide) ?_
    obtain ⟨i_2, K0⟩ := K0
    refine s_iald (pc := 136) dX8_readSeries_136 k_b0_15 i_2 ?_
    refine r_iload_n (pc := 137) dX8_readSeries_137 rfl ?_
    refine r_aload_n (pc := 138) dX8_readSeries_138 rfl ?_
    refine s_getR (pc := 139) dX8_readSeries_139 fl_X8_27 rfl k_b0 g_b0_15 ?_
    refine r_iconst (pc := 142) (v := 4) dX8_readSeries_142 (by decide) ?_
    obtain ⟨i_3, K0⟩ := K0
    refine s_iald (pc := 143) dX8_readSeries_143 k_b0_15 i_3 ?_
    refine r_iload_n (pc := 144) dX8_readSeries_144 rfl ?_
    refine s_VV (pc := 145) mX8_addsSeries (ci := 8) (a := b0) (As := [.int (gi x b0_15 2), .int l2, .int (gi x b0_15 4), .int l1]) dX8_readSeries_145 lk_X8_237 in_X8_addsSeries mo_X8_addsSeries ⟨by decide, rfl⟩ ⟨by decide, by decide⟩ (Nat.le_of_ble_eq_true rfl) k_b0 (mSV_mono K0 (fun y_4 K0 => ?_))
    exact r_le (L' := [some (.ref b0), some (.int l1), some (.int l2)]) ⟨rfl, ⟨rfl, ⟨rfl, trivial⟩⟩⟩ K0
  · have q := (b2i_z _).mp q
    have K0 := K0.2 q
    exact s_ret rfl dX8_readSeries_129 K0
set_option maxHeartbeats 2000000 in
theorem v_X8_readSeries_148 {K : Sh} {x : Cn} {Q : Cn → Prop} {b0 : Nat} {l1 : Int32} {l2 : Int32}  (k_b0 : kk K b0 = some (8, 0)) (K0 : Q (ui x b0 14 1)) : GV mX8_readSeries 148 [some (.ref b0), some (.int l1), some (.int l2)] [] K x Q := by
  show mGM mX8_readSeries 148 [some (.ref b0), some (.int l1), some (.int l2)] [] (hp K x) (PV K Q)
  refine r_aload_n (pc := 148) dX8_readSeries_148 rfl ?_
  refine r_iconst (pc := 149) (v := 1) dX8_readSeries_149 (by decide) ?_
  refine s_putZ (pc := 150) dX8_readSeries_150 fl_X8_207 rfl rfl k_b0 (by decide) ?_
  exact s_ret rfl dX8_readSeries_153 K0
section
theorem lp_X8_readSeries_b {x : Cn} {Q : Cn → Prop} (h : Bd x) (M : MRf x 719) (k : ∀ y, EQx x y 721 → Q y) : (∀ y l1 l2, EQx x y 721 → GV mX8_readSeries 122 [some (.ref 717), some (.int l1), some (.int l2)] [] KW y Q) ∧ (∀ y l1, EQx x y 721 → GV mX8_readSeries 62 [some (.ref 717), some (.int l1), none] [] KW y Q) ∧ (∀ y, EQx x y 721 → GV mX8_readSeries 30 [some (.ref 717), none, none] [] KW y Q) := by
  have hb : ∀ y, EQx x y 721 → Bd y := fun y f => f.bd h
  have hM : ∀ y, EQx x y 721 → MRf y 719 := fun y f => M.keep f.1
  have i7 : ∀ k : Nat, k < 7 → vp_in (nI k) 7 := fun k hk => vp_in_nI hk (by decide)
  have a122 : ∀ y l1 l2, EQx x y 721 → GV mX8_readSeries 122 [some (.ref 717), some (.int l1), some (.int l2)] [] KW y Q := fun y l1 l2 f => v_X8_readSeries_122 km (hM y f).2.2.2.2.1 km721 ⟨fun z => absurd z (hb y f), fun _ => k y f⟩
  have a62 : ∀ y l1, EQx x y 721 → GV mX8_readSeries 62 [some (.ref 717), some (.int l1), none] [] KW y Q := fun y l1 f => v_X8_readSeries_62 km (hM y f).2.2.2.2.1 km721 ⟨i7 4 (by omega), i7 5 (by omega), v_X8_readSeries_78 km (hM y f).2.2.2.2.1 km721 ⟨fun _ => a122 _ _ _ f, fun z => absurd z (hb y f)⟩⟩
  exact ⟨a122, a62, fun y f => v_X8_readSeries_30 km (sp_X8_eats_b (by omega) (hM y f).2.2.2.1 (hb y f) (v_X8_readSeries_37 km ⟨fun _ => a62 _ _ f, fun z => absurd z (hb y f)⟩))⟩
theorem sp_X8_readSeries {x : Cn} {Q : Cn → Prop} {b : TT} {n p : Nat} {T : TT} {lim : Int32} {W C S A : Nat} (c : RQ x b n p T lim W C S A) (o10 : iw b n p 10) (k1 : okS b n (tE b n p) T W C S → ∀ y, QFr x y → RQ y b n (nwp b n (nxt b n 7 (tE b n p))) (adT T S (srF b n (tE b n p) T C)) lim W C (S + 1) A → Q y) (k0 : ¬ okS b n (tE b n p) T W C S → ∀ y, QFr x y → Bd y → Q y) : mSV mX8_readSeries [.ref 717] KW x Q := by
  have M := c.m
  obtain ⟨h0, hw, h1, hc, h2, hs, h3, ha, h4⟩ := id c.2.2.2.2
  have i7 : ∀ k : Nat, k < 7 → vp_in (nI k) 7 := fun k hk => vp_in_nI hk (by decide)
  have kb : ¬ okS b n (tE b n p) T W C S → ∀ u, QFr x u → Bd u → ∀ y, EQx u y 721 → Q y := fun o u F h y f => k0 o y (F.tr f.q1) (f.bd h)
  refine v_X8_readSeries_0 km M.2.2.1 km2 ?_
  have e2 : gi x 719 2 = nI S := by rw [c.2.2.2.1]; exact h2
  have eS : nI S = 24 ↔ S = 24 := nI_eq (a := S) (b := 24) (by omega) (by omega)
  rw [e2, eS]
  refine ⟨iv0 2 518 rfl (by omega) (by decide), fun z => ?_, fun z => sp_X8_errs (by decide) (fun y f h => ?_)⟩
  rotate_left
  · refine v_X8_readSeries_20 km (sp_X8_passes_b (by omega) (M.tf f).2.2.2.1 h (v_X8_readSeries_26 km (sp_X8_readCommon_b (C := C) h (M.tf f) (by rw [f.2 719 1 (by omega), c.2.2.2.1]; exact h1) hc (fun u fu => ?_))))
    exact (lp_X8_readSeries_b h (M.tf f) (kb (fun o => by have := o.1; omega) y f.q h)).2.2 u fu
  have hS : S < 24 := by omega
  refine v_X8_readSeries_20 km (sp_X8_passes wj_10 c.1 (fun _ y1 f1 g1 => ?_) (fun o => absurd o10 o))
  have c1 := c.t f1.t g1
  have F1 : QFr x y1 := f1.q
  generalize tE b n p = q at c1 g1 k1 k0 kb
  refine v_X8_readSeries_26 km (sp_X8_readCommon c1 (fun o1 o2 y2 F2 c2 r2 => ?_) (fun o1 u F h => (lp_X8_readSeries_b h (c1.m.keep F.1) (kb (fun o => o1 ⟨o.2.1, o.2.2.1⟩) u (F1.tr F) h)).2.2 u (EQx.rf u 721)))
  have F2 := F1.tr F2
  obtain ⟨⟨cc, hcc, ec⟩, ⟨d, hd, ed⟩, hh, f1', f2'⟩ := cm_ok hw.1 o1 o2
  have go : ∀ (u : Cn) (l1 : Int32), QFr x u → RQ u b n (nwp b n (nxt b n 7 q)) T lim W C S A → (∀ k, k < 6 → gi u 721 k = gi y2 721 k) → l1 = nwv b n (nxt b n 7 q) → GV mX8_readSeries 37 [some (.ref 717), some (.int l1), none] [] KW u Q := by
    intro u l1 F cu ru hl
    have ro : ROc u b n q T C := ⟨(ru 0 (by omega)).trans r2.1, (ru 1 (by omega)).trans r2.2.1, (ru 2 (by omega)).trans r2.2.2.1, (ru 3 (by omega)).trans r2.2.2.2.1, (ru 4 (by omega)).trans r2.2.2.2.2.1, (ru 5 (by omega)).trans r2.2.2.2.2.2⟩
    refine v_X8_readSeries_37 km ⟨fun z => absurd cu.1.2.2.2 z, fun _ => ?_⟩
    rw [cu.1.s]
    refine ⟨fun o3 => ?_, fun o3 => sp_X8_errs (by decide) (fun v f h => (lp_X8_readSeries_b h (cu.m.tf f) (kb (fun o => o3 o.2.2.2.1) v (F.tr f.q) h)).2.1 v _ (EQx.rf v 721))⟩
    refine v_X8_readSeries_62 km cu.m.2.2.2.2.1 km721 ⟨i7 4 (by omega), i7 5 (by omega), ?_⟩
    rw [ro.2.2.2.2.1, ro.2.2.2.2.2]
    show GV mX8_readSeries 78 [some (.ref 717), some (.int l1), some (.int (spw b n q))] [] KW u Q
    refine v_X8_readSeries_78 km cu.m.2.2.2.2.1 km721 ⟨fun z => absurd cu.1.2.2.2 z, fun _ => ⟨i7 1 (by omega), i7 2 (by omega), i7 3 (by omega), ?_⟩⟩
    rw [ro.2.1, ro.2.2.1, ro.2.2.2.1]
    have hT := cu.2.2.2.1
    refine sn_X8_canBe (W := W) (S := S) (N := 0) (wo := 0) cu.m km2 (by rw [hT]; exact h0) hw.2 (by rw [hT]; exact h2) hs (by rw [hT]; exact h4) (by omega) hh (wyo_01 _ _ _) (fun i hi h1 _ => ?_) (fun s hs => ?_) ?_
    · have h1 : tb (f_span (nI (tV b n (nxt b n 4 q))) (nI (tV b n (nxt b n 6 q)))) i = true := h1
      rw [tb_span0 _ (by omega) _ (by omega) i hi] at h1
      have := of_decide_eq_true h1
      omega
    · rw [tb_0]
      constructor
      · intro z; cases z
      · intro z; exact absurd (show (-1 : Int32) < 0 by decide) (by rw [← z]; exact nI_pos (by omega))
    rw [hT]
    have fin : fitC T S 0 (wnp b n (nxt b n 1 q)) (tV b n (nxt b n 2 q)) (wyo b n (nxt b n 3 q)) (spw b n q) 0 → GV mX8_readSeries 122 [some (.ref 717), some (.int l1), some (.int (spw b n q))] [] KW u Q := by
      intro o4
      refine v_X8_readSeries_122 km cu.m.2.2.2.2.1 km721 ⟨fun _ => ⟨i7 2 (by omega), i7 4 (by omega), ?_⟩, fun z => absurd cu.1.2.2.2 z⟩
      refine sp_X8_addsSeries cu.m km2 (by decide) (S := S) (by rw [hT]; exact h2) hS (fun v w1 w2 w3 => v_X8_readSeries_148 km ?_)
      have eT : gi v 719 = adT T S (srF b n q T C) := by
        rw [w3, hT]
        refine adT_cg (fun k hk => ?_)
        unfold adf srF
        rcases lt12 hk with rfl | rfl | rfl | rfl | rfl | rfl | rfl | rfl | rfl | rfl | rfl | rfl
        · exact ro.1
        · exact ro.2.1
        · exact ro.2.2.1
        · exact ro.2.2.2.1
        · show (if l1 = 0 then (0 : Int32) else 1) = nwv b n (nxt b n 7 q)
          rw [hl]
          rcases b2i_01 (tK b n (nxt b n 7 q) = 1 ∧ wnp b n (nxt b n 7 q) = 14) with z | z
          · have z : nwv b n (nxt b n 7 q) = 0 := z
            rw [z]; rfl
          · have z : nwv b n (nxt b n 7 q) = 1 := z
            rw [z]; rfl
        · exact ro.2.2.2.2.1
        · exact ro.2.2.2.2.2
        · rfl
        · rfl
        · rfl
        · rfl
        · rfl
      have Fv : QFr x v := F.tr ⟨w1, fun a k h => w2 a k (by omega)⟩
      have gv : RG v b n (nwp b n (nxt b n 7 q)) := ⟨cu.1.1.q ⟨w1, fun a k h => w2 a k (by omega)⟩, cu.1.2.1.mv (fun k _ _ => w2 717 k (by omega)), cu.1.2.2.1, (w2 717 11 (by omega)).trans cu.1.2.2.2⟩
      refine k1 ⟨hS, o1, o2, o3, o4⟩ _ (Fv.u (by omega)) ⟨gv.u (by omega), ?_, ?_, ?_, ?_⟩
      · rw [gi_ui, if_neg (by omega)]; exact (w2 717 13 (by omega)).trans cu.2.1
      · rw [gi_ui, if_pos ⟨rfl, rfl⟩, b2i_t (by omega)]
      · exact (funext fun i => by rw [gi_ui, if_neg (by omega)]).trans eT
      · exact ⟨(adT_off (by omega) (by omega)).trans h0, hw, (adT_off (by omega) (by omega)).trans h1, hc, if_pos rfl, by omega, (adT_off (by omega) (by omega)).trans h3, ha, (adT_off (by omega) (by omega)).trans h4⟩
    refine ⟨fun z => fin (Classical.byContradiction (fun w => z (bP_f w))), fun z => sp_X8_errs (by decide) (fun v f h => (lp_X8_readSeries_b h (cu.m.tf f) (kb (fun o => absurd z (by rw [bP_t o.2.2.2.2]; decide)) v (F.tr f.q) h)).1 v _ _ (EQx.rf v 721))⟩
  refine v_X8_readSeries_30 km (sp_X8_eats wj_14 c2.1 (fun o y3 f3 g3 => ?_) (fun o => ?_))
  · have er : nwp b n (nxt b n 7 q) = tE b n (nxt b n 7 q) := by unfold nwp; rw [if_pos (show tK b n (nxt b n 7 q) = 1 ∧ wnp b n (nxt b n 7 q) = 14 from o)]
    have ev : (1 : Int32) = nwv b n (nxt b n 7 q) := (b2i_t (show tK b n (nxt b n 7 q) = 1 ∧ wnp b n (nxt b n 7 q) = 14 from o)).symm
    rw [← er] at g3
    exact go y3 1 (F2.tr f3.q) (c2.t f3.t g3) (fun k hk => f3.2 721 k (by omega)) ev
  · have er : nwp b n (nxt b n 7 q) = nxt b n 7 q := by unfold nwp; rw [if_neg (show ¬ (tK b n (nxt b n 7 q) = 1 ∧ wnp b n (nxt b n 7 q) = 14) from o)]
    have ev : (0 : Int32) = nwv b n (nxt b n 7 q) := (b2i_f (show ¬ (tK b n (nxt b n 7 q) = 1 ∧ wnp b n (nxt b n 7 q) = 14) from o)).symm
    rw [← er] at c2
    exact go y2 0 F2 c2 (fun k hk => rfl) ev
def okQ1 (b : TT) (n q : Nat) (T : TT) (W C A : Nat) : Prop := A < 24 ∧ okP b n q T C ∧ okN b n (nxt b n 4 q) W ∧ (isBy b n (nxt b n 7 q) → nb b n (nxt b n 8 q) 0 9)
end
set_option maxHeartbeats 2000000 in
theorem v_X8_readAsk_0 {K : Sh} {x : Cn} {Q : Cn → Prop} {b0 : Nat} {b0_3 : Nat} {n_b0_3 : Nat} (k_b0 : kk K b0 = some (8, 0)) (g_b0_3 : gr x b0 3 = some b0_3) (k_b0_3 : kk K b0_3 = some (20, n_b0_3)) (K0 : vp_in 3 n_b0_3 ∧ ((¬ (gi x b0_3 3) = 24 → (GV mX8_readAsk 20 [some (.ref b0)] [] K x Q)) ∧ ((gi x b0_3 3) = 24 → (mSV mX8_errs [.ref b0, .int 5, .int (gi x b0 8)] K x (fun y_3 => GV mX8_readAsk 20 [some (.ref b0)] [] K y_3 Q))))) : mSV mX8_readAsk [.ref b0] K x Q := by
  refine s_V (by decide) (by simp [Value.category]) (Nat.le_of_ble_eq_true rfl) ?_
  show mGM mX8_readAsk 0 [some (.ref b0)] [] (hp K x) (PV K Q)
  refine r_aload_n (pc := 0) dX8_readAsk_0 rfl ?_
  refine s_getR (pc := 1) dX8_readAsk_1 fl_X8_16 rfl k_b0 g_b0_3 ?_
  refine r_iconst (pc := 4) (v := 3) dX8_readAsk_4 (by decide) ?_
  obtain ⟨i_1, K0⟩ := K0
  refine s_iald (pc := 5) dX8_readAsk_5 k_b0_3 i_1 ?_
  refine r_bipush (pc := 6) (v := 24) dX8_readAsk_6 (by decide) ?_
  refine r_icmp_ne (pc := 8) (tgt := 20) dX8_readAsk_8 (by decide) (fun q => ?_) (fun q => ?_)
  · have K0 := K0.1 q
    exact r_le (L' := [some (.ref b0)]) ⟨rfl, trivial⟩ K0
  · have K0 := K0.2 q
    refine r_aload_n (pc := 11) dX8_readAsk_11 rfl ?_
    refine r_iconst (pc := 12) (v := 5) dX8_readAsk_12 (by decide) ?_
    refine r_aload_n (pc := 13) dX8_readAsk_13 rfl ?_
    refine s_getI (pc := 14) dX8_readAsk_14 fl_X8_116 rfl k_b0 ?_
    refine s_VV (pc := 17) mX8_errs (ci := 8) (a := b0) (As := [.int 5, .int (gi x b0 8)]) dX8_readAsk_17 lk_X8_157 in_X8_errs mo_X8_errs ⟨by decide, rfl⟩ ⟨by decide, by decide⟩ (Nat.le_of_ble_eq_true rfl) k_b0 (mSV_mono K0 (fun y_3 K0 => ?_))
    exact r_le (L' := [some (.ref b0)]) ⟨rfl, trivial⟩ K0
set_option maxHeartbeats 2000000 in
theorem v_X8_readAsk_20 {K : Sh} {x : Cn} {Q : Cn → Prop} {b0 : Nat}  (k_b0 : kk K b0 = some (8, 0)) (K0 : mSV mX8_passes [.ref b0, .ref (mSB + 23)] K x (fun y_1 => GV mX8_readAsk 26 [some (.ref b0)] [] K y_1 Q)) : GV mX8_readAsk 20 [some (.ref b0)] [] K x Q := by
  show mGM mX8_readAsk 20 [some (.ref b0)] [] (hp K x) (PV K Q)
  refine r_aload_n (pc := 20) dX8_readAsk_20 rfl ?_
  refine r_ldcS (pc := 21) (j := 23) dX8_readAsk_21 rfl ?_
  refine s_VV (pc := 23) mX8_passes (ci := 8) (a := b0) (As := [.ref (mSB + 23)]) dX8_readAsk_23 lk_X8_211 in_X8_passes mo_X8_passes ⟨by decide, rfl⟩ ⟨by decide, by decide⟩ (Nat.le_of_ble_eq_true rfl) k_b0 (mSV_mono K0 (fun y_1 K0 => ?_))
  exact r_le (L' := [some (.ref b0)]) ⟨rfl, trivial⟩ K0
set_option maxHeartbeats 2000000 in
theorem v_X8_readAsk_26 {K : Sh} {x : Cn} {Q : Cn → Prop} {b0 : Nat}  (k_b0 : kk K b0 = some (8, 0)) (K0 : mSV mX8_readCommon [.ref b0] K x (fun y_1 => GV mX8_readAsk 30 [some (.ref b0)] [] K y_1 Q)) : GV mX8_readAsk 26 [some (.ref b0)] [] K x Q := by
  show mGM mX8_readAsk 26 [some (.ref b0)] [] (hp K x) (PV K Q)
  refine r_aload_n (pc := 26) dX8_readAsk_26 rfl ?_
  refine s_VV (pc := 27) mX8_readCommon (ci := 8) (a := b0) (As := []) dX8_readAsk_27 lk_X8_234 in_X8_readCommon mo_X8_readCommon ⟨by decide, rfl⟩ ⟨by decide, by decide⟩ (Nat.le_of_ble_eq_true rfl) k_b0 (mSV_mono K0 (fun y_1 K0 => ?_))
  exact r_le (L' := [some (.ref b0)]) ⟨rfl, trivial⟩ K0
set_option maxHeartbeats 2000000 in
theorem v_X8_readAsk_30 {K : Sh} {x : Cn} {Q : Cn → Prop} {b0 : Nat} {b0_15 : Nat} {n_b0_15 : Nat} (k_b0 : kk K b0 = some (8, 0)) (g_b0_15 : gr x b0 15 = some b0_15) (k_b0_15 : kk K b0_15 = some (20, n_b0_15)) (K0 : mSI mX8_eats [.ref b0, .ref (mSB + 26)] K x (fun r_2 y_1 => (r_2 = 0 → (vp_in 6 n_b0_15 ∧ ((¬ (gi (ui y_1 b0_15 6 0) b0 11 = 0) → (GV mX8_readAsk 68 [some (.ref b0)] [] K (ui y_1 b0_15 6 0) Q)) ∧ ((gi (ui y_1 b0_15 6 0) b0 11 = 0) → (mSV mX8_addsAsk [.ref b0] K (ui y_1 b0_15 6 0) (fun y_6 => GV mX8_readAsk 68 [some (.ref b0)] [] K y_6 Q)))))) ∧ (¬ r_2 = 0 → (mSI mX8_number [.ref b0, .int 0, .int 9] K y_1 (fun r_8 y_7 => vp_in 6 n_b0_15 ∧ ((¬ (gi (ui y_7 b0_15 6 r_8) b0 11 = 0) → (GV mX8_readAsk 68 [some (.ref b0)] [] K (ui y_7 b0_15 6 r_8) Q)) ∧ ((gi (ui y_7 b0_15 6 r_8) b0 11 = 0) → (mSV mX8_addsAsk [.ref b0] K (ui y_7 b0_15 6 r_8) (fun y_11 => GV mX8_readAsk 68 [some (.ref b0)] [] K y_11 Q))))))))) : GV mX8_readAsk 30 [some (.ref b0)] [] K x Q := by
  show mGM mX8_readAsk 30 [some (.ref b0)] [] (hp K x) (PV K Q)
  refine r_aload_n (pc := 30) dX8_readAsk_30 rfl ?_
  refine s_getR (pc := 31) dX8_readAsk_31 fl_X8_27 rfl k_b0 g_b0_15 ?_
  refine r_bipush (pc := 34) (v := 6) dX8_readAsk_34 (by decide) ?_
  refine r_aload_n (pc := 36) dX8_readAsk_36 rfl ?_
  refine r_ldcS (pc := 37) (j := 26) dX8_readAsk_37 rfl ?_
  refine s_VI (pc := 39) mX8_eats (ci := 8) (a := b0) (As := [.ref (mSB + 26)]) dX8_readAsk_39 lk_X8_154 in_X8_eats mo_X8_eats ⟨by decide, rfl⟩ ⟨by decide, by decide⟩ (Nat.le_of_ble_eq_true rfl) k_b0 (mSI_mono K0 (fun r_2 y_1 K0 => ?_))
  refine r_if_eq (pc := 42) (tgt := 55) dX8_readAsk_42 (by decide) (fun q => ?_) (fun q => ?_)
  · have K0 := K0.1 q
    refine r_iconst (pc := 55) (v := 0) dX8_readAsk_55 (by decide) ?_
    obtain ⟨i_4, K0⟩ := K0
    refine s_iast (pc := 56) dX8_readAsk_56 k_b0_15 i_4 ?_
    refine r_aload_n (pc := 57) dX8_readAsk_57 rfl ?_
    refine s_VI (pc := 58) mX8_good (ci := 8) (a := b0) (As := []) dX8_readAsk_58 lk_X8_104 in_X8_good mo_X8_good ⟨by decide, rfl⟩ ⟨by decide, by decide⟩ (Nat.le_of_ble_eq_true rfl) k_b0 (sp_X8_good k_b0 ?_)
    refine r_if_eq (pc := 61) (tgt := 68) dX8_readAsk_61 (by decide) (fun q => ?_) (fun q => ?_)
    · have q := (b2i_z _).mp q
      have K0 := K0.1 q
      exact r_le (L' := [some (.ref b0)]) ⟨rfl, trivial⟩ K0
    · have q := b2i_nz q
      have K0 := K0.2 q
      refine r_aload_n (pc := 64) dX8_readAsk_64 rfl ?_
      refine s_VV (pc := 65) mX8_addsAsk (ci := 8) (a := b0) (As := []) dX8_readAsk_65 lk_X8_241 in_X8_addsAsk mo_X8_addsAsk ⟨by decide, rfl⟩ ⟨by decide, by decide⟩ (Nat.le_of_ble_eq_true rfl) k_b0 (mSV_mono K0 (fun y_6 K0 => ?_))
      exact r_le (L' := [some (.ref b0)]) ⟨rfl, trivial⟩ K0
  · have K0 := K0.2 q
    refine r_aload_n (pc := 45) dX8_readAsk_45 rfl ?_
    refine r_iconst (pc := 46) (v := 0) dX8_readAsk_46 (by decide) ?_
    refine r_bipush (pc := 47) (v := 9) dX8_readAsk_47 (by decide) ?_
    refine s_VI (pc := 49) mX8_number (ci := 8) (a := b0) (As := [.int 0, .int 9]) dX8_readAsk_49 lk_X8_218 in_X8_number mo_X8_number ⟨by decide, rfl⟩ ⟨by decide, by decide⟩ (Nat.le_of_ble_eq_true rfl) k_b0 (mSI_mono K0 (fun r_8 y_7 K0 => ?_))
    refine r_goto (pc := 52) (tgt := 56) dX8_readAsk_52 (by decide) ?_
    obtain ⟨i_9, K0⟩ := K0
    refine s_iast (pc := 56) dX8_readAsk_56 k_b0_15 i_9 ?_
    refine r_aload_n (pc := 57) dX8_readAsk_57 rfl ?_
    refine s_VI (pc := 58) mX8_good (ci := 8) (a := b0) (As := []) dX8_readAsk_58 lk_X8_104 in_X8_good mo_X8_good ⟨by decide, rfl⟩ ⟨by decide, by decide⟩ (Nat.le_of_ble_eq_true rfl) k_b0 (sp_X8_good k_b0 ?_)
    refine r_if_eq (pc := 61) (tgt := 68) dX8_readAsk_61 (by decide) (fun q => ?_) (fun q => ?_)
    · have q := (b2i_z _).mp q
      have K0 := K0.1 q
      exact r_le (L' := [some (.ref b0)]) ⟨rfl, trivial⟩ K0
    · have q := b2i_nz q
      have K0 := K0.2 q
      refine r_aload_n (pc := 64) dX8_readAsk_64 rfl ?_
      refine s_VV (pc := 65) mX8_addsAsk (ci := 8) (a := b0) (As := []) dX8_readAsk_65 lk_X8_241 in_X8_addsAsk mo_X8_addsAsk ⟨by decide, rfl⟩ ⟨by decide, by decide⟩ (Nat.le_of_ble_eq_true rfl) k_b0 (mSV_mono K0 (fun y_11 K0 => ?_))
      exact r_le (L' := [some (.ref b0)]) ⟨rfl, trivial⟩ K0
set_option maxHeartbeats 2000000 in
theorem v_X8_readAsk_68 {K : Sh} {x : Cn} {Q : Cn → Prop} {b0 : Nat}   (K0 : Q x) : GV mX8_readAsk 68 [some (.ref b0)] [] K x Q := by
  show mGM mX8_readAsk 68 [some (.ref b0)] [] (hp K x) (PV K Q)
  exact s_ret rfl dX8_readAsk_68 K0
section
theorem sp_X8_readAsk {x : Cn} {Q : Cn → Prop} {b : TT} {n p : Nat} {T : TT} {lim : Int32} {W C S A : Nat} (c : RQ x b n p T lim W C S A) (o11 : iw b n p 11) (k1 : okQ1 b n (tE b n p) T W C A → ∀ y, QFr x y → RQ y b n (byp b n (nxt b n 7 (tE b n p))) (askT T A (akF b n (tE b n p) T C)) lim W C S (A + 1) → Q y) (k0 : ¬ okQ1 b n (tE b n p) T W C A → ∀ y, QFr x y → Bd y → Q y) : mSV mX8_readAsk [.ref 717] KW x Q := by
  have M := c.m
  obtain ⟨h0, hw, h1, hc, h2, hs, h3, ha, h4⟩ := id c.2.2.2.2
  have i7 : ∀ k : Nat, k < 7 → vp_in (nI k) 7 := fun k hk => vp_in_nI hk (by decide)
  have b30 : ¬ okQ1 b n (tE b n p) T W C A → ∀ u, QFr x u → Bd u → MRf u 719 → GV mX8_readAsk 30 [some (.ref 717)] [] KW u Q := fun o u F h Mu => v_X8_readAsk_30 km Mu.2.2.2.2.1 km721 (sp_X8_eats_b (by omega) Mu.2.2.2.1 h ⟨fun _ => ⟨i7 6 (by omega), fun _ => v_X8_readAsk_68 (k0 o _ (F.u (by omega)) (h.u (by omega))), fun z => absurd z (h.u (by omega))⟩, fun z => absurd rfl z⟩)
  refine v_X8_readAsk_0 km M.2.2.1 km2 ?_
  have e3 : gi x 719 3 = nI A := by rw [c.2.2.2.1]; exact h3
  have eA : nI A = 24 ↔ A = 24 := nI_eq (a := A) (b := 24) (by omega) (by omega)
  rw [e3, eA]
  refine ⟨iv0 3 518 rfl (by omega) (by decide), fun z => ?_, fun z => sp_X8_errs (by decide) (fun y f h => ?_)⟩
  rotate_left
  · exact v_X8_readAsk_20 km (sp_X8_passes_b (by omega) (M.tf f).2.2.2.1 h (v_X8_readAsk_26 km (sp_X8_readCommon_b (C := C) h (M.tf f) (by rw [f.2 719 1 (by omega), c.2.2.2.1]; exact h1) hc (fun u fu => b30 (fun o => by have := o.1; omega) u (f.q.tr fu.q1) (fu.bd h) ((M.tf f).keep fu.1)))))
  have hA : A < 24 := by omega
  refine v_X8_readAsk_20 km (sp_X8_passes wj_11 c.1 (fun _ y1 f1 g1 => ?_) (fun o => absurd o11 o))
  have c1 := c.t f1.t g1
  have F1 : QFr x y1 := f1.q
  generalize tE b n p = q at c1 g1 k1 k0 b30
  refine v_X8_readAsk_26 km (sp_X8_readCommon c1 (fun o1 o2 y2 F2 c2 r2 => ?_) (fun o1 u F h => b30 (fun o => o1 ⟨o.2.1, o.2.2.1⟩) u (F1.tr F) h (c1.m.keep F.1)))
  have F2 := F1.tr F2
  have fin : ∀ (u : Cn) (v : Int32), QFr x u → RQ u b n (byp b n (nxt b n 7 q)) T lim W C S A → (∀ k, k < 6 → gi u 721 k = gi y2 721 k) → v = nI (byv b n (nxt b n 7 q)) → (isBy b n (nxt b n 7 q) → nb b n (nxt b n 8 q) 0 9) → (¬ gi (ui u 721 6 v) 717 11 = 0 → GV mX8_readAsk 68 [some (.ref 717)] [] KW (ui u 721 6 v) Q) ∧ (gi (ui u 721 6 v) 717 11 = 0 → mSV mX8_addsAsk [.ref 717] KW (ui u 721 6 v) (fun y => GV mX8_readAsk 68 [some (.ref 717)] [] KW y Q)) := by
    intro u v F cu ru hv o3
    have cu' := cu.u1 (k := 6) (v := v)
    refine ⟨fun z => absurd cu'.1.2.2.2 z, fun _ => sp_X8_addsAsk (f := akF b n q T C) (A := A) cu'.m km2 (by decide) (by rw [cu'.2.2.2.1]; exact h3) hA (fun k hk => ?_) (fun w w1 w2 w3 => v_X8_readAsk_68 ?_)⟩
    · unfold akF
      rcases lt7 hk with rfl | rfl | rfl | rfl | rfl | rfl | rfl
      · rw [gi_ui, if_neg (by omega)]; exact (ru 0 (by omega)).trans r2.1
      · rw [gi_ui, if_neg (by omega)]; exact (ru 1 (by omega)).trans r2.2.1
      · rw [gi_ui, if_neg (by omega)]; exact (ru 2 (by omega)).trans r2.2.2.1
      · rw [gi_ui, if_neg (by omega)]; exact (ru 3 (by omega)).trans r2.2.2.2.1
      · rw [gi_ui, if_neg (by omega)]; exact (ru 4 (by omega)).trans r2.2.2.2.2.1
      · rw [gi_ui, if_neg (by omega)]; exact (ru 5 (by omega)).trans r2.2.2.2.2.2
      · rw [gi_ui, if_pos ⟨rfl, rfl⟩]; exact hv
    · have Fw : QFr x w := (F.u (a := 721) (k := 6) (v := v) (by omega)).tr ⟨w1, fun a k h => w2 a k (by omega)⟩
      have gw : RG w b n (byp b n (nxt b n 7 q)) := ⟨cu'.1.1.q ⟨w1, fun a k h => w2 a k (by omega)⟩, cu'.1.2.1.mv (fun k _ _ => w2 717 k (by omega)), cu'.1.2.2.1, (w2 717 11 (by omega)).trans cu'.1.2.2.2⟩
      refine k1 ⟨hA, o1, o2, o3⟩ w Fw ⟨gw, (w2 717 13 (by omega)).trans cu'.2.1, (w2 717 14 (by omega)).trans cu'.2.2.1, by rw [w3, cu'.2.2.2.1], ?_⟩
      exact ⟨(askT_off (by omega) (by omega)).trans h0, hw, (askT_off (by omega) (by omega)).trans h1, hc, (askT_off (by omega) (by omega)).trans h2, hs, if_pos rfl, by omega, (askT_off (by omega) (by omega)).trans h4⟩
  refine v_X8_readAsk_30 km c2.m.2.2.2.2.1 km721 (sp_X8_eats wj_15 c2.1 (fun o y3 f3 g3 => ⟨fun z => absurd z (by decide), fun _ => ?_⟩) (fun o => ⟨fun _ => ⟨i7 6 (by omega), ?_⟩, fun z => absurd rfl z⟩))
  · have o' : tK b n (nxt b n 7 q) = 1 ∧ wnp b n (nxt b n 7 q) = 15 := o
    have g3 : RG y3 b n (nxt b n 8 q) := g3
    have c3 := c2.t f3.t g3
    have F3 := F2.tr f3.q
    refine sp_X8_number (lo := 0) (hi := 9) (by omega) (by omega) g3 (fun o3 y4 f4 g4 => ⟨i7 6 (by omega), ?_⟩) (fun o3 y4 f4 h => ⟨i7 6 (by omega), fun _ => v_X8_readAsk_68 (k0 (fun w => o3 (w.2.2.2 o)) _ ((F3.tr f4.q).u (by omega)) (h.u (by omega))), fun z => absurd z (h.u (by omega))⟩)
    have er : byp b n (nxt b n 7 q) = nxt b n 9 q := by unfold byp; rw [if_pos o', nxt_n]
    have ev : nI (tV b n (nxt b n 8 q)) = nI (byv b n (nxt b n 7 q)) := by unfold byv; rw [if_pos o', nxt_n]
    have g4 : RG y4 b n (nxt b n 9 q) := g4
    rw [← er] at g4
    exact fin y4 _ (F3.tr f4.q) (c3.t f4.t g4) (fun k hk => (f4.2 721 k (by omega)).trans (f3.2 721 k (by omega))) ev (fun _ => o3)
  · have o' : ¬ (tK b n (nxt b n 7 q) = 1 ∧ wnp b n (nxt b n 7 q) = 15) := o
    have er : byp b n (nxt b n 7 q) = nxt b n 7 q := by unfold byp; rw [if_neg o']
    have ev : (0 : Int32) = nI (byv b n (nxt b n 7 q)) := by unfold byv; rw [if_neg o']; rfl
    rw [← er] at c2
    exact fin y2 0 F2 c2 (fun k hk => rfl) ev (fun w => absurd w o)
def RQs (y : Cn) (b : TT) (n W : Nat) (s : PSt) : Prop := RQ y b n s.1 s.2.1 s.2.2.1 W s.2.2.2.1 s.2.2.2.2.1 s.2.2.2.2.2
end
set_option maxHeartbeats 2000000 in
theorem v_X8_readLine_0 {K : Sh} {x : Cn} {Q : Cn → Prop} {b0 : Nat}  (k_b0 : kk K b0 = some (8, 0)) (K0 : mSI mX8_isWord [.ref b0, .ref (mSB + 12)] K x (fun r_2 y_1 => (r_2 = 0 → (mSI mX8_isWord [.ref b0, .ref (mSB + 14)] K y_1 (fun r_5 y_4 => (r_5 = 0 → (mSI mX8_isWord [.ref b0, .ref (mSB + 22)] K y_4 (fun r_8 y_7 => (r_8 = 0 → (mSI mX8_isWord [.ref b0, .ref (mSB + 23)] K y_7 (fun r_11 y_10 => (r_11 = 0 → (mSV mX8_errs [.ref b0, .int 1, .int (gi y_10 b0 8)] K y_10 (fun y_13 => GV mX8_readLine 73 [some (.ref b0)] [] K y_13 Q))) ∧ (¬ r_11 = 0 → (mSV mX8_readAsk [.ref b0] K y_10 (fun y_14 => GV mX8_readLine 61 [some (.ref b0)] [] K y_14 Q)))))) ∧ (¬ r_8 = 0 → (mSV mX8_readSeries [.ref b0] K y_7 (fun y_15 => GV mX8_readLine 45 [some (.ref b0)] [] K y_15 Q)))))) ∧ (¬ r_5 = 0 → (mSV mX8_readCarrier [.ref b0] K y_4 (fun y_16 => GV mX8_readLine 29 [some (.ref b0)] [] K y_16 Q)))))) ∧ (¬ r_2 = 0 → (mSV mX8_readLimit [.ref b0] K y_1 (fun y_17 => GV mX8_readLine 13 [some (.ref b0)] [] K y_17 Q))))) : mSV mX8_readLine [.ref b0] K x Q := by
  refine s_V (by decide) (by simp [Value.category]) (Nat.le_of_ble_eq_true rfl) ?_
  show mGM mX8_readLine 0 [some (.ref b0)] [] (hp K x) (PV K Q)
  refine r_aload_n (pc := 0) dX8_readLine_0 rfl ?_
  refine r_ldcS (pc := 1) (j := 12) dX8_readLine_1 rfl ?_
  refine s_VI (pc := 3) mX8_isWord (ci := 8) (a := b0) (As := [.ref (mSB + 12)]) dX8_readLine_3 lk_X8_147 in_X8_isWord mo_X8_isWord ⟨by decide, rfl⟩ ⟨by decide, by decide⟩ (Nat.le_of_ble_eq_true rfl) k_b0 (mSI_mono K0 (fun r_2 y_1 K0 => ?_))
  refine r_if_eq (pc := 6) (tgt := 16) dX8_readLine_6 (by decide) (fun q => ?_) (fun q => ?_)
  · have K0 := K0.1 q
    refine r_aload_n (pc := 16) dX8_readLine_16 rfl ?_
    refine r_ldcS (pc := 17) (j := 14) dX8_readLine_17 rfl ?_
    refine s_VI (pc := 19) mX8_isWord (ci := 8) (a := b0) (As := [.ref (mSB + 14)]) dX8_readLine_19 lk_X8_147 in_X8_isWord mo_X8_isWord ⟨by decide, rfl⟩ ⟨by decide, by decide⟩ (Nat.le_of_ble_eq_true rfl) k_b0 (mSI_mono K0 (fun r_5 y_4 K0 => ?_))
    refine r_if_eq (pc := 22) (tgt := 32) dX8_readLine_22 (by decide) (fun q => ?_) (fun q => ?_)
    · have K0 := K0.1 q
      refine r_aload_n (pc := 32) dX8_readLine_32 rfl ?_
      refine r_ldcS (pc := 33) (j := 22) dX8_readLine_33 rfl ?_
      refine s_VI (pc := 35) mX8_isWord (ci := 8) (a := b0) (As := [.ref (mSB + 22)]) dX8_readLine_35 lk_X8_147 in_X8_isWord mo_X8_isWord ⟨by decide, rfl⟩ ⟨by decide, by decide⟩ (Nat.le_of_ble_eq_true rfl) k_b0 (mSI_mono K0 (fun r_8 y_7 K0 => ?_))
      refine r_if_eq (pc := 38) (tgt := 48) dX8_readLine_38 (by decide) (fun q => ?_) (fun q => ?_)
      · have K0 := K0.1 q
        refine r_aload_n (pc := 48) dX8_readLine_48 rfl ?_
        refine r_ldcS (pc := 49) (j := 23) dX8_readLine_49 rfl ?_
        refine s_VI (pc := 51) mX8_isWord (ci := 8) (a := b0) (As := [.ref (mSB + 23)]) dX8_readLine_51 lk_X8_147 in_X8_isWord mo_X8_isWord ⟨by decide, rfl⟩ ⟨by decide, by decide⟩ (Nat.le_of_ble_eq_true rfl) k_b0 (mSI_mono K0 (fun r_11 y_10 K0 => ?_))
        refine r_if_eq (pc := 54) (tgt := 64) dX8_readLine_54 (by decide) (fun q => ?_) (fun q => ?_)
        · have K0 := K0.1 q
          refine r_aload_n (pc := 64) dX8_readLine_64 rfl ?_
          refine r_iconst (pc := 65) (v := 1) dX8_readLine_65 (by decide) ?_
          refine r_aload_n (pc := 66) dX8_readLine_66 rfl ?_
          refine s_getI (pc := 67) dX8_readLine_67 fl_X8_116 rfl k_b0 ?_
          refine s_VV (pc := 70) mX8_errs (ci := 8) (a := b0) (As := [.int 1, .int (gi y_10 b0 8)]) dX8_readLine_70 lk_X8_157 in_X8_errs mo_X8_errs ⟨by decide, rfl⟩ ⟨by decide, by decide⟩ (Nat.le_of_ble_eq_true rfl) k_b0 (mSV_mono K0 (fun y_13 K0 => ?_))
          exact r_le (L' := [some (.ref b0)]) ⟨rfl, trivial⟩ K0
        · have K0 := K0.2 q
          refine r_aload_n (pc := 57) dX8_readLine_57 rfl ?_
          refine s_VV (pc := 58) mX8_readAsk (ci := 8) (a := b0) (As := []) dX8_readLine_58 lk_X8_253 in_X8_readAsk mo_X8_readAsk ⟨by decide, rfl⟩ ⟨by decide, by decide⟩ (Nat.le_of_ble_eq_true rfl) k_b0 (mSV_mono K0 (fun y_14 K0 => ?_))
          exact r_le (L' := [some (.ref b0)]) ⟨rfl, trivial⟩ K0
      · have K0 := K0.2 q
        refine r_aload_n (pc := 41) dX8_readLine_41 rfl ?_
        refine s_VV (pc := 42) mX8_readSeries (ci := 8) (a := b0) (As := []) dX8_readLine_42 lk_X8_250 in_X8_readSeries mo_X8_readSeries ⟨by decide, rfl⟩ ⟨by decide, by decide⟩ (Nat.le_of_ble_eq_true rfl) k_b0 (mSV_mono K0 (fun y_15 K0 => ?_))
        exact r_le (L' := [some (.ref b0)]) ⟨rfl, trivial⟩ K0
    · have K0 := K0.2 q
      refine r_aload_n (pc := 25) dX8_readLine_25 rfl ?_
      refine s_VV (pc := 26) mX8_readCarrier (ci := 8) (a := b0) (As := []) dX8_readLine_26 lk_X8_247 in_X8_readCarrier mo_X8_readCarrier ⟨by decide, rfl⟩ ⟨by decide, by decide⟩ (Nat.le_of_ble_eq_true rfl) k_b0 (mSV_mono K0 (fun y_16 K0 => ?_))
      exact r_le (L' := [some (.ref b0)]) ⟨rfl, trivial⟩ K0
  · have K0 := K0.2 q
    refine r_aload_n (pc := 9) dX8_readLine_9 rfl ?_
    refine s_VV (pc := 10) mX8_readLimit (ci := 8) (a := b0) (As := []) dX8_readLine_10 lk_X8_244 in_X8_readLimit mo_X8_readLimit ⟨by decide, rfl⟩ ⟨by decide, by decide⟩ (Nat.le_of_ble_eq_true rfl) k_b0 (mSV_mono K0 (fun y_17 K0 => ?_))
    exact r_le (L' := [some (.ref b0)]) ⟨rfl, trivial⟩ K0
set_option maxHeartbeats 2000000 in
theorem v_X8_readLine_13 {K : Sh} {x : Cn} {Q : Cn → Prop} {b0 : Nat}   (K0 : GV mX8_readLine 73 [some (.ref b0)] [] K x Q) : GV mX8_readLine 13 [some (.ref b0)] [] K x Q := by
  show mGM mX8_readLine 13 [some (.ref b0)] [] (hp K x) (PV K Q)
  refine r_goto (pc := 13) (tgt := 73) dX8_readLine_13 (by decide) ?_
  exact r_le (L' := [some (.ref b0)]) ⟨rfl, trivial⟩ K0
set_option maxHeartbeats 2000000 in
theorem v_X8_readLine_29 {K : Sh} {x : Cn} {Q : Cn → Prop} {b0 : Nat}   (K0 : GV mX8_readLine 73 [some (.ref b0)] [] K x Q) : GV mX8_readLine 29 [some (.ref b0)] [] K x Q := by
  show mGM mX8_readLine 29 [some (.ref b0)] [] (hp K x) (PV K Q)
  refine r_goto (pc := 29) (tgt := 73) dX8_readLine_29 (by decide) ?_
  exact r_le (L' := [some (.ref b0)]) ⟨rfl, trivial⟩ K0
set_option maxHeartbeats 2000000 in
theorem v_X8_readLine_45 {K : Sh} {x : Cn} {Q : Cn → Prop} {b0 : Nat}   (K0 : GV mX8_readLine 73 [some (.ref b0)] [] K x Q) : GV mX8_readLine 45 [some (.ref b0)] [] K x Q := by
  show mGM mX8_readLine 45 [some (.ref b0)] [] (hp K x) (PV K Q)
  refine r_goto (pc := 45) (tgt := 73) dX8_readLine_45 (by decide) ?_
  exact r_le (L' := [some (.ref b0)]) ⟨rfl, trivial⟩ K0
set_option maxHeartbeats 2000000 in
theorem v_X8_readLine_61 {K : Sh} {x : Cn} {Q : Cn → Prop} {b0 : Nat}   (K0 : GV mX8_readLine 73 [some (.ref b0)] [] K x Q) : GV mX8_readLine 61 [some (.ref b0)] [] K x Q := by
  show mGM mX8_readLine 61 [some (.ref b0)] [] (hp K x) (PV K Q)
  refine r_goto (pc := 61) (tgt := 73) dX8_readLine_61 (by decide) ?_
  exact r_le (L' := [some (.ref b0)]) ⟨rfl, trivial⟩ K0
set_option maxHeartbeats 2000000 in
theorem v_X8_readLine_73 {K : Sh} {x : Cn} {Q : Cn → Prop} {b0 : Nat}  (k_b0 : kk K b0 = some (8, 0)) (K0 : mSV mX8_passesByte [.ref b0, .int 59] K x (fun y_1 => GV mX8_readLine 79 [some (.ref b0)] [] K y_1 Q)) : GV mX8_readLine 73 [some (.ref b0)] [] K x Q := by
  show mGM mX8_readLine 73 [some (.ref b0)] [] (hp K x) (PV K Q)
  refine r_aload_n (pc := 73) dX8_readLine_73 rfl ?_
  refine r_bipush (pc := 74) (v := 59) dX8_readLine_74 (by decide) ?_
  refine s_VV (pc := 76) mX8_passesByte (ci := 8) (a := b0) (As := [.int 59]) dX8_readLine_76 lk_X8_227 in_X8_passesByte mo_X8_passesByte ⟨by decide, rfl⟩ ⟨by decide, by decide⟩ (Nat.le_of_ble_eq_true rfl) k_b0 (mSV_mono K0 (fun y_1 K0 => ?_))
  exact r_le (L' := [some (.ref b0)]) ⟨rfl, trivial⟩ K0
set_option maxHeartbeats 2000000 in
theorem v_X8_readLine_79 {K : Sh} {x : Cn} {Q : Cn → Prop} {b0 : Nat}   (K0 : Q x) : GV mX8_readLine 79 [some (.ref b0)] [] K x Q := by
  show mGM mX8_readLine 79 [some (.ref b0)] [] (hp K x) (PV K Q)
  exact s_ret rfl dX8_readLine_79 K0
section
theorem sp_X8_readLine {x : Cn} {Q : Cn → Prop} {b : TT} {n W : Nat} {s : PSt} (c : RQs x b n W s) (k1 : ok1 b n W s → ∀ y, QFr x y → RQs y b n W (nx1 b n s) → Q y) (k0 : ¬ ok1 b n W s → ∀ y, QFr x y → Bd y → Q y) : mSV mX8_readLine [.ref 717] KW x Q := by
  have c : RQ x b n s.1 s.2.1 s.2.2.1 W s.2.2.2.1 s.2.2.2.2.1 s.2.2.2.2.2 := c
  have ne : ∀ i j, i < 16 → j < 16 → i ≠ j → iw b n s.1 i → ¬ iw b n s.1 j := fun i j hi hj hij h1 h2 => hij ((nI_eq (by omega) (by omega)).mp (h1.2.symm.trans h2.2))
  have b73 : ¬ ok1 b n W s → ∀ u, QFr x u → Bd u → GV mX8_readLine 73 [some (.ref 717)] [] KW u Q := fun o u F h => v_X8_readLine_73 km (sp_X8_passesByte_b h (v_X8_readLine_79 (k0 o u F h)))
  refine v_X8_readLine_0 km ?_
  refine sp_X8_isWord wj_8 c.1 (fun o8 => ⟨fun z => absurd z (by decide), fun _ => ?_⟩) (fun n8 => ⟨fun _ => ?_, fun z => absurd rfl z⟩)
  · rw [nx1_8 o8] at k1
    refine sp_X8_readLimit c o8 (fun o y F cy => v_X8_readLine_13 (v_X8_readLine_73 km (sp_X8_passesByte (Or.inl rfl) cy.1 (fun w z f g => v_X8_readLine_79 (k1 (Or.inl ⟨o8, o.1, o.2.1, o.2.2.1, o.2.2.2.1, o.2.2.2.2.1, o.2.2.2.2.2, w⟩) z (F.tr f.q) (cy.t f.t g))) (fun w z f h => v_X8_readLine_79 (k0 (fun v => ?_) z (F.tr f.q) h))))) (fun o y F h => v_X8_readLine_13 (b73 (fun v => ?_) y F h))
    · rcases v with v | v | v | v
      · exact w v.2.2.2.2.2.2.2
      · exact ne 8 9 (by omega) (by omega) (by omega) o8 v.1
      · exact ne 8 10 (by omega) (by omega) (by omega) o8 v.1
      · exact ne 8 11 (by omega) (by omega) (by omega) o8 v.1
    · rcases v with v | v | v | v
      · exact o ⟨v.2.1, v.2.2.1, v.2.2.2.1, v.2.2.2.2.1, v.2.2.2.2.2.1, v.2.2.2.2.2.2.1⟩
      · exact ne 8 9 (by omega) (by omega) (by omega) o8 v.1
      · exact ne 8 10 (by omega) (by omega) (by omega) o8 v.1
      · exact ne 8 11 (by omega) (by omega) (by omega) o8 v.1
  refine sp_X8_isWord wj_9 c.1 (fun o9 => ⟨fun z => absurd z (by decide), fun _ => ?_⟩) (fun n9 => ⟨fun _ => ?_, fun z => absurd rfl z⟩)
  · rw [nx1_9 o9] at k1
    refine sp_X8_readCarrier c o9 (fun o y F cy => v_X8_readLine_29 (v_X8_readLine_73 km (sp_X8_passesByte (Or.inl rfl) cy.1 (fun w z f g => v_X8_readLine_79 (k1 (Or.inr (Or.inl ⟨o9, o.1, o.2.1, o.2.2, w⟩)) z (F.tr f.q) (cy.t f.t g))) (fun w z f h => v_X8_readLine_79 (k0 (fun v => ?_) z (F.tr f.q) h))))) (fun o y F h => v_X8_readLine_29 (b73 (fun v => ?_) y F h))
    · rcases v with v | v | v | v
      · exact n8 v.1
      · exact w v.2.2.2.2
      · exact ne 9 10 (by omega) (by omega) (by omega) o9 v.1
      · exact ne 9 11 (by omega) (by omega) (by omega) o9 v.1
    · rcases v with v | v | v | v
      · exact n8 v.1
      · exact o ⟨v.2.1, v.2.2.1, v.2.2.2.1⟩
      · exact ne 9 10 (by omega) (by omega) (by omega) o9 v.1
      · exact ne 9 11 (by omega) (by omega) (by omega) o9 v.1
  refine sp_X8_isWord wj_10 c.1 (fun o10 => ⟨fun z => absurd z (by decide), fun _ => ?_⟩) (fun n10 => ⟨fun _ => ?_, fun z => absurd rfl z⟩)
  · rw [nx1_10 o10] at k1
    refine sp_X8_readSeries c o10 (fun o y F cy => v_X8_readLine_45 (v_X8_readLine_73 km (sp_X8_passesByte (Or.inl rfl) cy.1 (fun w z f g => v_X8_readLine_79 (k1 (Or.inr (Or.inr (Or.inl ⟨o10, o⟩))) z (F.tr f.q) (cy.t f.t g))) (fun w z f h => absurd o.2.2.2.1 w)))) (fun o y F h => v_X8_readLine_45 (b73 (fun v => ?_) y F h))
    rcases v with v | v | v | v
    · exact n8 v.1
    · exact n9 v.1
    · exact o v.2
    · exact ne 10 11 (by omega) (by omega) (by omega) o10 v.1
  refine sp_X8_isWord wj_11 c.1 (fun o11 => ⟨fun z => absurd z (by decide), fun _ => ?_⟩) (fun n11 => ⟨fun _ => ?_, fun z => absurd rfl z⟩)
  · rw [nx1_11 o11] at k1
    refine sp_X8_readAsk c o11 (fun o y F cy => v_X8_readLine_61 (v_X8_readLine_73 km (sp_X8_passesByte (Or.inl rfl) cy.1 (fun w z f g => v_X8_readLine_79 (k1 (Or.inr (Or.inr (Or.inr ⟨o11, o.1, o.2.1, o.2.2.1, o.2.2.2, w⟩))) z (F.tr f.q) (cy.t f.t g))) (fun w z f h => v_X8_readLine_79 (k0 (fun v => ?_) z (F.tr f.q) h))))) (fun o y F h => v_X8_readLine_61 (b73 (fun v => ?_) y F h))
    · rcases v with v | v | v | v
      · exact n8 v.1
      · exact n9 v.1
      · exact n10 v.1
      · exact w v.2.2.2.2.2
    · rcases v with v | v | v | v
      · exact n8 v.1
      · exact n9 v.1
      · exact n10 v.1
      · exact o ⟨v.2.1, v.2.2.1, v.2.2.2.1, v.2.2.2.2.1⟩
  · refine sp_X8_errs (by decide) (fun u f h => b73 (fun v => ?_) u f.q h)
    rcases v with v | v | v | v
    · exact n8 v.1
    · exact n9 v.1
    · exact n10 v.1
    · exact n11 v.1
end
set_option maxHeartbeats 2000000 in
theorem v_X8_readAll_0 {K : Sh} {x : Cn} {Q : Int32 → Cn → Prop} {b0 : Nat}   (K0 : GI mX8_readAll 2 [some (.ref b0), some (.int 0)] [] K x Q) : mSI mX8_readAll [.ref b0] K x Q := by
  refine s_I (by decide) (by simp [Value.category]) (Nat.le_of_ble_eq_true rfl) ?_
  show mGM mX8_readAll 0 [some (.ref b0), none] [] (hp K x) (PI K Q)
  refine r_iconst (pc := 0) (v := 0) dX8_readAll_0 (by decide) ?_
  refine r_istore_n (pc := 1) dX8_readAll_1 (by decide) ?_
  exact r_le (L' := [some (.ref b0), some (.int 0)]) ⟨rfl, ⟨rfl, trivial⟩⟩ K0
set_option maxHeartbeats 2000000 in
theorem v_X8_readAll_2 {K : Sh} {x : Cn} {Q : Int32 → Cn → Prop} {b0 : Nat} {l1 : Int32} {b0_3 : Nat} {n_b0_3 : Nat} (k_b0 : kk K b0 = some (8, 0)) (g_b0_3 : gr x b0 3 = some b0_3) (k_b0_3 : kk K b0_3 = some (20, n_b0_3)) (K0 : (518 ≤ l1 → (GI mX8_readAll 24 [some (.ref b0), some (.int 0)] [] K x Q)) ∧ (¬ 518 ≤ l1 → (vp_in l1 n_b0_3 ∧ (GI mX8_readAll 2 [some (.ref b0), some (.int (l1 + 1))] [] K (ui x b0_3 (l1 : Int32).toNatClampNeg 0) Q)))) : GI mX8_readAll 2 [some (.ref b0), some (.int l1)] [] K x Q := by
  show mGM mX8_readAll 2 [some (.ref b0), some (.int l1)] [] (hp K x) (PI K Q)
  refine r_iload_n (pc := 2) dX8_readAll_2 rfl ?_
  refine r_sipush (pc := 3) (v := 518) dX8_readAll_3 (by decide) ?_
  refine r_icmp_ge (pc := 6) (tgt := 22) dX8_readAll_6 (by decide) (fun q => ?_) (fun q => ?_)
  · have K0 := K0.1 q
    refine r_iconst (pc := 22) (v := 0) dX8_readAll_22 (by decide) ?_
    refine r_istore_n (pc := 23) dX8_readAll_23 (by decide) ?_
    exact r_le (L' := [some (.ref b0), some (.int 0)]) ⟨rfl, ⟨rfl, trivial⟩⟩ K0
  · have K0 := K0.2 q
    refine r_aload_n (pc := 9) dX8_readAll_9 rfl ?_
    refine s_getR (pc := 10) dX8_readAll_10 fl_X8_16 rfl k_b0 g_b0_3 ?_
    refine r_iload_n (pc := 13) dX8_readAll_13 rfl ?_
    refine r_iconst (pc := 14) (v := 0) dX8_readAll_14 (by decide) ?_
    obtain ⟨i_2, K0⟩ := K0
    refine s_iast (pc := 15) dX8_readAll_15 k_b0_3 i_2 ?_
    refine r_iinc (pc := 16) (v := l1 + 1) dX8_readAll_16 rfl rfl (by decide) ?_
    refine r_goto (pc := 19) (L := [some (.ref b0), some (.int (l1 + 1))]) (tgt := 2) dX8_readAll_19 (by decide) ?_
    exact r_le (L' := [some (.ref b0), some (.int (l1 + 1))]) ⟨rfl, ⟨rfl, trivial⟩⟩ K0
set_option maxHeartbeats 2000000 in
theorem v_X8_readAll_24 {K : Sh} {x : Cn} {Q : Int32 → Cn → Prop} {b0 : Nat} {l1 : Int32} {b0_3 : Nat} {n_b0_3 : Nat} (k_b0 : kk K b0 = some (8, 0)) (g_b0_3 : gr x b0 3 = some b0_3) (k_b0_3 : kk K b0_3 = some (20, n_b0_3)) (K0 : (48 ≤ l1 → (mSV mX8_advance [.ref b0] K (ui (ui x b0 13 0) b0 14 0) (fun y_2 => GI mX8_readAll 60 [some (.ref b0), some (.int l1)] [] K y_2 Q))) ∧ (¬ 48 ≤ l1 → (vp_in (6 + l1) n_b0_3 ∧ (GI mX8_readAll 24 [some (.ref b0), some (.int (l1 + 1))] [] K (ui x b0_3 ((6 + l1) : Int32).toNatClampNeg 4) Q)))) : GI mX8_readAll 24 [some (.ref b0), some (.int l1)] [] K x Q := by
  show mGM mX8_readAll 24 [some (.ref b0), some (.int l1)] [] (hp K x) (PI K Q)
  refine r_iload_n (pc := 24) dX8_readAll_24 rfl ?_
  refine r_bipush (pc := 25) (v := 48) dX8_readAll_25 (by decide) ?_
  refine r_icmp_ge (pc := 27) (tgt := 46) dX8_readAll_27 (by decide) (fun q => ?_) (fun q => ?_)
  · have K0 := K0.1 q
    refine r_aload_n (pc := 46) dX8_readAll_46 rfl ?_
    refine r_iconst (pc := 47) (v := 0) dX8_readAll_47 (by decide) ?_
    refine s_putI (pc := 48) dX8_readAll_48 fl_X8_215 rfl rfl k_b0 ?_
    refine r_aload_n (pc := 51) dX8_readAll_51 rfl ?_
    refine r_iconst (pc := 52) (v := 0) dX8_readAll_52 (by decide) ?_
    refine s_putZ (pc := 53) dX8_readAll_53 fl_X8_207 rfl rfl k_b0 (by decide) ?_
    refine r_aload_n (pc := 56) dX8_readAll_56 rfl ?_
    refine s_VV (pc := 57) mX8_advance (ci := 8) (a := b0) (As := []) dX8_readAll_57 lk_X8_151 in_X8_advance mo_X8_advance ⟨by decide, rfl⟩ ⟨by decide, by decide⟩ (Nat.le_of_ble_eq_true rfl) k_b0 (mSV_mono K0 (fun y_2 K0 => ?_))
    exact r_le (L' := [some (.ref b0), some (.int l1)]) ⟨rfl, ⟨rfl, trivial⟩⟩ K0
  · have K0 := K0.2 q
    refine r_aload_n (pc := 30) dX8_readAll_30 rfl ?_
    refine s_getR (pc := 31) dX8_readAll_31 fl_X8_16 rfl k_b0 g_b0_3 ?_
    refine r_bipush (pc := 34) (v := 6) dX8_readAll_34 (by decide) ?_
    refine r_iload_n (pc := 36) dX8_readAll_36 rfl ?_
    refine r_iadd (pc := 37) dX8_readAll_37 ?_
    refine r_iconst (pc := 38) (v := 4) dX8_readAll_38 (by decide) ?_
    obtain ⟨i_3, K0⟩ := K0
    refine s_iast (pc := 39) dX8_readAll_39 k_b0_3 i_3 ?_
    refine r_iinc (pc := 40) (v := l1 + 1) dX8_readAll_40 rfl rfl (by decide) ?_
    refine r_goto (pc := 43) (L := [some (.ref b0), some (.int (l1 + 1))]) (tgt := 24) dX8_readAll_43 (by decide) ?_
    exact r_le (L' := [some (.ref b0), some (.int (l1 + 1))]) ⟨rfl, ⟨rfl, trivial⟩⟩ K0
set_option maxHeartbeats 2000000 in
theorem v_X8_readAll_60 {K : Sh} {x : Cn} {Q : Int32 → Cn → Prop} {b0 : Nat} {l1 : Int32}  (k_b0 : kk K b0 = some (8, 0)) (K0 : mSV mX8_passes [.ref b0, .ref (mSB + 11)] K x (fun y_1 => GI mX8_readAll 66 [some (.ref b0), some (.int l1)] [] K y_1 Q)) : GI mX8_readAll 60 [some (.ref b0), some (.int l1)] [] K x Q := by
  show mGM mX8_readAll 60 [some (.ref b0), some (.int l1)] [] (hp K x) (PI K Q)
  refine r_aload_n (pc := 60) dX8_readAll_60 rfl ?_
  refine r_ldcS (pc := 61) (j := 11) dX8_readAll_61 rfl ?_
  refine s_VV (pc := 63) mX8_passes (ci := 8) (a := b0) (As := [.ref (mSB + 11)]) dX8_readAll_63 lk_X8_211 in_X8_passes mo_X8_passes ⟨by decide, rfl⟩ ⟨by decide, by decide⟩ (Nat.le_of_ble_eq_true rfl) k_b0 (mSV_mono K0 (fun y_1 K0 => ?_))
  exact r_le (L' := [some (.ref b0), some (.int l1)]) ⟨rfl, ⟨rfl, trivial⟩⟩ K0
set_option maxHeartbeats 2000000 in
theorem v_X8_readAll_66 {K : Sh} {x : Cn} {Q : Int32 → Cn → Prop} {b0 : Nat} {l1 : Int32} {b0_3 : Nat} {n_b0_3 : Nat} (k_b0 : kk K b0 = some (8, 0)) (g_b0_3 : gr x b0 3 = some b0_3) (k_b0_3 : kk K b0_3 = some (20, n_b0_3)) (K0 : mSI mX8_number [.ref b0, .int 5, .int 30] K x (fun r_2 y_1 => vp_in 0 n_b0_3 ∧ (GI mX8_readAll 79 [some (.ref b0), some (.int l1)] [] K (ui y_1 b0_3 0 r_2) Q))) : GI mX8_readAll 66 [some (.ref b0), some (.int l1)] [] K x Q := by
  show mGM mX8_readAll 66 [some (.ref b0), some (.int l1)] [] (hp K x) (PI K Q)
  refine r_aload_n (pc := 66) dX8_readAll_66 rfl ?_
  refine s_getR (pc := 67) dX8_readAll_67 fl_X8_16 rfl k_b0 g_b0_3 ?_
  refine r_iconst (pc := 70) (v := 0) dX8_readAll_70 (by decide) ?_
  refine r_aload_n (pc := 71) dX8_readAll_71 rfl ?_
  refine r_iconst (pc := 72) (v := 5) dX8_readAll_72 (by decide) ?_
  refine r_bipush (pc := 73) (v := 30) dX8_readAll_73 (by decide) ?_
  refine s_VI (pc := 75) mX8_number (ci := 8) (a := b0) (As := [.int 5, .int 30]) dX8_readAll_75 lk_X8_218 in_X8_number mo_X8_number ⟨by decide, rfl⟩ ⟨by decide, by decide⟩ (Nat.le_of_ble_eq_true rfl) k_b0 (mSI_mono K0 (fun r_2 y_1 K0 => ?_))
  obtain ⟨i_3, K0⟩ := K0
  refine s_iast (pc := 78) dX8_readAll_78 k_b0_3 i_3 ?_
  exact r_le (L' := [some (.ref b0), some (.int l1)]) ⟨rfl, ⟨rfl, trivial⟩⟩ K0
set_option maxHeartbeats 2000000 in
theorem v_X8_readAll_79 {K : Sh} {x : Cn} {Q : Int32 → Cn → Prop} {b0 : Nat} {l1 : Int32}  (k_b0 : kk K b0 = some (8, 0)) (K0 : mSV mX8_passesByte [.ref b0, .int 59] K x (fun y_1 => GI mX8_readAll 85 [some (.ref b0), some (.int l1)] [] K y_1 Q)) : GI mX8_readAll 79 [some (.ref b0), some (.int l1)] [] K x Q := by
  show mGM mX8_readAll 79 [some (.ref b0), some (.int l1)] [] (hp K x) (PI K Q)
  refine r_aload_n (pc := 79) dX8_readAll_79 rfl ?_
  refine r_bipush (pc := 80) (v := 59) dX8_readAll_80 (by decide) ?_
  refine s_VV (pc := 82) mX8_passesByte (ci := 8) (a := b0) (As := [.int 59]) dX8_readAll_82 lk_X8_227 in_X8_passesByte mo_X8_passesByte ⟨by decide, rfl⟩ ⟨by decide, by decide⟩ (Nat.le_of_ble_eq_true rfl) k_b0 (mSV_mono K0 (fun y_1 K0 => ?_))
  exact r_le (L' := [some (.ref b0), some (.int l1)]) ⟨rfl, ⟨rfl, trivial⟩⟩ K0
set_option maxHeartbeats 2000000 in
theorem v_X8_readAll_85 {K : Sh} {x : Cn} {Q : Int32 → Cn → Prop} {b0 : Nat} {l1 : Int32}   (K0 : GI mX8_readAll 87 [some (.ref b0), some (.int 1)] [] K x Q) : GI mX8_readAll 85 [some (.ref b0), some (.int l1)] [] K x Q := by
  show mGM mX8_readAll 85 [some (.ref b0), some (.int l1)] [] (hp K x) (PI K Q)
  refine r_iconst (pc := 85) (v := 1) dX8_readAll_85 (by decide) ?_
  refine r_istore_n (pc := 86) dX8_readAll_86 (by decide) ?_
  exact r_le (L' := [some (.ref b0), some (.int 1)]) ⟨rfl, ⟨rfl, trivial⟩⟩ K0
set_option maxHeartbeats 2000000 in
theorem v_X8_readAll_87 {K : Sh} {x : Cn} {Q : Int32 → Cn → Prop} {b0 : Nat} {l1 : Int32}  (k_b0 : kk K b0 = some (8, 0)) (K0 : (¬ (gi x b0 11 = 0) → (Q l1 x)) ∧ ((gi x b0 11 = 0) → (((gi x b0 9) = 0 → (Q l1 x)) ∧ (¬ (gi x b0 9) = 0 → (mSV mX8_readLine [.ref b0] K x (fun y_3 => GI mX8_readAll 105 [some (.ref b0), some (.int l1)] [] K y_3 Q)))))) : GI mX8_readAll 87 [some (.ref b0), some (.int l1)] [] K x Q := by
  show mGM mX8_readAll 87 [some (.ref b0), some (.int l1)] [] (hp K x) (PI K Q)
  refine r_aload_n (pc := 87) dX8_readAll_87 rfl ?_
  refine s_VI (pc := 88) mX8_good (ci := 8) (a := b0) (As := []) dX8_readAll_88 lk_X8_104 in_X8_good mo_X8_good ⟨by decide, rfl⟩ ⟨by decide, by decide⟩ (Nat.le_of_ble_eq_true rfl) k_b0 (sp_X8_good k_b0 ?_)
  refine r_if_eq (pc := 91) (tgt := 111) dX8_readAll_91 (by decide) (fun q => ?_) (fun q => ?_)
  · have q := (b2i_z _).mp q
    have K0 := K0.1 q
    refine r_iload_n (pc := 111) dX8_readAll_111 rfl ?_
    exact s_iret rfl dX8_readAll_112 K0
  · have q := b2i_nz q
    have K0 := K0.2 q
    refine r_aload_n (pc := 94) dX8_readAll_94 rfl ?_
    refine s_getI (pc := 95) dX8_readAll_95 fl_X8_119 rfl k_b0 ?_
    refine r_if_eq (pc := 98) (tgt := 111) dX8_readAll_98 (by decide) (fun q => ?_) (fun q => ?_)
    · have K0 := K0.1 q
      refine r_iload_n (pc := 111) dX8_readAll_111 rfl ?_
      exact s_iret rfl dX8_readAll_112 K0
    · have K0 := K0.2 q
      refine r_aload_n (pc := 101) dX8_readAll_101 rfl ?_
      refine s_VV (pc := 102) mX8_readLine (ci := 8) (a := b0) (As := []) dX8_readAll_102 lk_X8_256 in_X8_readLine mo_X8_readLine ⟨by decide, rfl⟩ ⟨by decide, by decide⟩ (Nat.le_of_ble_eq_true rfl) k_b0 (mSV_mono K0 (fun y_3 K0 => ?_))
      exact r_le (L' := [some (.ref b0), some (.int l1)]) ⟨rfl, ⟨rfl, trivial⟩⟩ K0
set_option maxHeartbeats 2000000 in
theorem v_X8_readAll_105 {K : Sh} {x : Cn} {Q : Int32 → Cn → Prop} {b0 : Nat} {l1 : Int32}   (K0 : GI mX8_readAll 87 [some (.ref b0), some (.int (l1 + 1))] [] K x Q) : GI mX8_readAll 105 [some (.ref b0), some (.int l1)] [] K x Q := by
  show mGM mX8_readAll 105 [some (.ref b0), some (.int l1)] [] (hp K x) (PI K Q)
  refine r_iinc (pc := 105) (v := l1 + 1) dX8_readAll_105 rfl rfl (by decide) ?_
  refine r_goto (pc := 108) (L := [some (.ref b0), some (.int (l1 + 1))]) (tgt := 87) dX8_readAll_108 (by decide) ?_
  exact r_le (L' := [some (.ref b0), some (.int (l1 + 1))]) ⟨rfl, ⟨rfl, trivial⟩⟩ K0
section
theorem lp_X8_readAll_87 {x : Cn} {Q : Int32 → Cn → Prop} {b : TT} {n W : Nat} : ∀ d s y L0, n < s.1 + d → QFr x y → RQs y b n W s → (∀ t L z, runs b n W d s t L → QFr x z → RQs z b n W t → Q (nI (L0 + L)) z) → (fails b n W d s → ∀ z r, QFr x z → Bd z → Q r z) → GI mX8_readAll 87 [some (.ref 717), some (.int (nI L0))] [] KW y Q := by
  intro d
  induction d with
  | zero =>
    intro s y L0 h1 f c k1 k0
    have : s.1 ≤ n := c.1.2.2.1
    omega
  | succ d ih =>
    intro s y L0 h1 f c k1 k0
    have hp : s.1 ≤ n := c.1.2.2.1
    have ek : gi y 717 9 = 0 ↔ tK b n s.1 = 0 := RTk.k (b := b) c.1.2.1 0 (by omega)
    refine v_X8_readAll_87 km ⟨fun z => absurd c.1.2.2.2 z, fun _ => ?_⟩
    rw [ek]
    refine ⟨fun z => k1 s 0 y (Or.inl ⟨z, rfl, rfl⟩) f c, fun z => ?_⟩
    have hg := nx1_gt (b := b) hp z
    refine sp_X8_readLine c (fun o w fw cw => v_X8_readAll_105 ?_) (fun o w fw h => v_X8_readAll_105 (v_X8_readAll_87 km ⟨fun _ => k0 ⟨z, Or.inl o⟩ w _ (f.tr fw) h, fun q => absurd q h⟩))
    rw [← nI_succ]
    exact ih (nx1 b n s) w (L0 + 1) (by omega) (f.tr fw) cw (fun t L z' r f' c' => by
      have := k1 t (L + 1) z' (Or.inr ⟨z, o, L, rfl, r⟩) f' c'
      rw [show L0 + (L + 1) = L0 + 1 + L by omega] at this
      exact this) (fun r z' v f' h => k0 ⟨z, Or.inr ⟨o, r⟩⟩ z' v f' h)
theorem lp_X8_readAll_2 {x : Cn} {Q : Int32 → Cn → Prop} (M : MRf x 719) (k : ∀ y, EQx x y 719 → gi y 719 = (fun i => if i < 518 then 0 else gi x 719 i) → GI mX8_readAll 24 [some (.ref 717), some (.int 0)] [] KW y Q) : ∀ d i y, i + d = 518 → EQx x y 719 → gi y 719 = (fun m => if m < i then 0 else gi x 719 m) → GI mX8_readAll 2 [some (.ref 717), some (.int (nI i))] [] KW y Q := by
  intro d
  induction d with
  | zero =>
    intro i y hi f hy
    obtain rfl : i = 518 := by omega
    exact v_X8_readAll_2 km (M.keep f.1).2.2.1 km2 ⟨fun _ => k y f hy, fun z => absurd (by decide) z⟩
  | succ d ih =>
    intro i y hi f hy
    refine v_X8_readAll_2 km (M.keep f.1).2.2.1 km2 ⟨fun z => absurd z (nI_ge (a := i) (b := 518) (by omega) (by omega)), fun _ => ⟨vp_in_nI (by omega) (by decide), ?_⟩⟩
    rw [nI_clamp (by omega), ← nI_succ]
    refine ih (i + 1) _ (by omega) f.ui ?_
    rw [gi_719, hy]
    funext m
    unfold uT
    by_cases e : m = i
    · rw [if_pos e, if_pos (by omega)]
    · rw [if_neg e]
      show (if m < i then 0 else gi x 719 m) = _
      by_cases g : m < i
      · rw [if_pos g, if_pos (by omega)]
      · rw [if_neg g, if_neg (by omega)]
theorem lp_X8_readAll_24 {x : Cn} {Q : Int32 → Cn → Prop} {j : TT} (M : MRf x 719) (k : ∀ y, EQx x y 719 → gi y 719 = T00 j → mSV mX8_advance [.ref 717] KW (ui (ui y 717 13 0) 717 14 0) (fun y_2 => GI mX8_readAll 60 [some (.ref 717), some (.int (nI 48))] [] KW y_2 Q)) : ∀ d i y, i + d = 48 → EQx x y 719 → gi y 719 = (fun m => if m < 518 then (if 6 ≤ m ∧ m < 6 + i then 4 else 0) else j m) → GI mX8_readAll 24 [some (.ref 717), some (.int (nI i))] [] KW y Q := by
  intro d
  induction d with
  | zero =>
    intro i y hi f hy
    obtain rfl : i = 48 := by omega
    exact v_X8_readAll_24 km (M.keep f.1).2.2.1 km2 ⟨fun _ => k y f hy, fun z => absurd (by decide) z⟩
  | succ d ih =>
    intro i y hi f hy
    have i6 : (6 : Int32) + nI i = nI (6 + i) := by rw [show (6 : Int32) = nI 6 from rfl, nI_add]
    refine v_X8_readAll_24 km (M.keep f.1).2.2.1 km2 ⟨fun z => absurd z (nI_ge (a := i) (b := 48) (by omega) (by omega)), fun _ => ?_⟩
    rw [i6, nI_clamp (by omega), ← nI_succ]
    refine ⟨vp_in_nI (by omega) (by decide), ih (i + 1) _ (by omega) f.ui ?_⟩
    rw [gi_719, hy]
    funext m
    unfold uT
    by_cases e : m = 6 + i
    · rw [if_pos e, if_pos (by omega), if_pos (by omega)]
    · rw [if_neg e]
      show (if m < 518 then (if 6 ≤ m ∧ m < 6 + i then 4 else 0) else j m) = _
      by_cases g : m < 518
      · rw [if_pos g, if_pos g]
        by_cases h : 6 ≤ m ∧ m < 6 + i
        · rw [if_pos h, if_pos (by omega)]
        · rw [if_neg h, if_neg (by omega)]
      · rw [if_neg g, if_neg g]
theorem sp_X8_readAll {x : Cn} {Q : Int32 → Cn → Prop} {b : TT} {n : Nat} (Z : RZ x b n) (h7 : gi x 717 7 = nI 0) (h11 : gi x 717 11 = 0) (k1 : okW b n 0 → ∀ t L y, runs b n (tV b n (nxt b n 1 0)) (n + 1) (s00 b n (gi x 719)) t L → QFr x y → RQs y b n (tV b n (nxt b n 1 0)) t → Q (nI (1 + L)) y) (k0 : (¬ okW b n 0 ∨ (okW b n 0 ∧ fails b n (tV b n (nxt b n 1 0)) (n + 1) (s00 b n (gi x 719)))) → ∀ y r, QFr x y → Bd y → Q r y) : mSI mX8_readAll [.ref 717] KW x Q := by
  have M := Z.2.2.2.2
  have b87 : (¬ okW b n 0) → ∀ u, QFr x u → Bd u → GI mX8_readAll 85 [some (.ref 717), some (.int (nI 48))] [] KW u Q := fun o u F h => v_X8_readAll_85 (v_X8_readAll_87 km ⟨fun _ => k0 (Or.inl o) u _ F h, fun z => absurd z h⟩)
  have b79 : (¬ okW b n 0) → ∀ u, QFr x u → Bd u → GI mX8_readAll 79 [some (.ref 717), some (.int (nI 48))] [] KW u Q := fun o u F h => v_X8_readAll_79 km (sp_X8_passesByte_b h (b87 o u F h))
  refine v_X8_readAll_0 (lp_X8_readAll_2 M (fun y1 f1 e1 => ?_) 518 0 x (by omega) (EQx.rf x 719) (by funext m; rw [if_neg (by omega)]))
  refine lp_X8_readAll_24 (x := y1) (j := gi x 719) (M.keep f1.1) (fun y2 f2 e2 => ?_) 48 0 y1 (by omega) (EQx.rf y1 719) (by
    rw [e1]
    funext m
    by_cases g : m < 518
    · rw [if_pos g, if_pos g, if_neg (by omega)]
    · rw [if_neg g, if_neg g])
  have F2 : QFr x y2 := ⟨f2.1.trans f1.1, fun a k h => (f2.2 a k (by omega)).trans (f1.2 a k (by omega))⟩
  have F3 : QFr x (ui (ui y2 717 13 0) 717 14 0) := (F2.u (by omega)).u (by omega)
  have Z3 := Z.q F3
  have e3 : gi (ui (ui y2 717 13 0) 717 14 0) 719 = T00 (gi x 719) := (funext fun i => by rw [gi_ui, if_neg (by omega), gi_ui, if_neg (by omega)]).trans e2
  have e7 : gi (ui (ui y2 717 13 0) 717 14 0) 717 7 = nI 0 := by rw [gi_ui, if_neg (by omega), gi_ui, if_neg (by omega), f2.2 717 7 (by omega), f1.2 717 7 (by omega)]; exact h7
  have e11 : gi (ui (ui y2 717 13 0) 717 14 0) 717 11 = 0 := by rw [gi_ui, if_neg (by omega), gi_ui, if_neg (by omega), f2.2 717 11 (by omega), f1.2 717 11 (by omega)]; exact h11
  have e13 : gi (ui (ui y2 717 13 0) 717 14 0) 717 13 = 0 := by rw [gi_ui, if_neg (by omega), gi_ui, if_pos ⟨rfl, rfl⟩]
  have e14 : gi (ui (ui y2 717 13 0) 717 14 0) 717 14 = 0 := by rw [gi_ui, if_pos ⟨rfl, rfl⟩]
  generalize ui (ui y2 717 13 0) 717 14 0 = u at F3 Z3 e3 e7 e11 e13 e14
  refine sp_X8_advance (p := 0) Z3.2.2.2.2.2.2.2.1 Z3.1 Z3.2.2.1 Z3.2.2.2.1 Z3.2.1 e7 (by omega) (fun y4 f4 t4 => ?_)
  have F4 := F3.tr f4.q
  have g4 : RG y4 b n 0 := ⟨Z3.q f4.q, t4, by omega, (f4.2 717 11 (by omega)).trans e11⟩
  refine v_X8_readAll_60 km (sp_X8_passes wj_7 g4 (fun o1 y5 f5 g5 => ?_) (fun o1 y5 f5 h => v_X8_readAll_66 km ((M.keep (F4.tr f5.q).1)).2.2.1 km2 (sp_X8_number_b h ⟨iv0 0 518 rfl (by omega) (by decide), b79 (fun o => o1 o.1) _ ((F4.tr f5.q).u (by omega)) (h.u (by omega))⟩)))
  have F5 := F4.tr f5.q
  have g5 : RG y5 b n (nxt b n 1 0) := g5
  refine v_X8_readAll_66 km (M.keep F5.1).2.2.1 km2 (sp_X8_number (lo := 5) (hi := 30) (by omega) (by omega) g5 (fun o2 y6 f6 g6 => ⟨iv0 0 518 rfl (by omega) (by decide), ?_⟩) (fun o2 y6 f6 h => ⟨iv0 0 518 rfl (by omega) (by decide), b79 (fun o => o2 o.2.1) _ ((F5.tr f6.q).u (by omega)) (h.u (by omega))⟩))
  have g6 : RG y6 b n (nxt b n 2 0) := g6
  have g6' : RG (ui y6 719 0 (nI (tV b n (nxt b n 1 0)))) b n (nxt b n 2 0) := g6.u (by omega)
  have F6 : QFr x (ui y6 719 0 (nI (tV b n (nxt b n 1 0)))) := (F5.tr f6.q).u (by omega)
  have hk : ∀ k, 13 ≤ k → k ≤ 14 → gi (ui y6 719 0 (nI (tV b n (nxt b n 1 0)))) 717 k = gi u 717 k := fun k h1 h2 => by rw [gi_ui, if_neg (by omega), f6.2 717 k (by omega), f5.2 717 k (by omega), f4.2 717 k (by omega)]
  have eT : gi (ui y6 719 0 (nI (tV b n (nxt b n 1 0)))) 719 = uT (T00 (gi x 719)) 0 (nI (tV b n (nxt b n 1 0))) := by
    rw [gi_719, show gi y6 719 = gi u 719 from funext (fun i => by rw [f6.2 719 i (by omega), f5.2 719 i (by omega), f4.2 719 i (by omega)]), e3]
  have c6 : RQ (ui y6 719 0 (nI (tV b n (nxt b n 1 0)))) b n (nxt b n 2 0) (uT (T00 (gi x 719)) 0 (nI (tV b n (nxt b n 1 0)))) 0 (tV b n (nxt b n 1 0)) 0 0 0 := ⟨g6', (hk 13 (by omega) (by omega)).trans e13, ((hk 14 (by omega) (by omega)).trans e14).trans (b2i_f (by omega)).symm, eT, uT_at _ _ _, o2.2, (uT_ne _ _ (by omega)).trans (T00_0 (by omega)), by omega, (uT_ne _ _ (by omega)).trans (T00_0 (by omega)), by omega, (uT_ne _ _ (by omega)).trans (T00_0 (by omega)), by omega, (uT_ne _ _ (by omega)).trans (T00_0 (by omega))⟩
  generalize ui y6 719 0 (nI (tV b n (nxt b n 1 0))) = v at g6' F6 c6
  refine v_X8_readAll_79 km (sp_X8_passesByte (Or.inl rfl) g6' (fun o3 y7 f7 g7 => v_X8_readAll_85 ?_) (fun o3 y7 f7 h => b87 (fun o => o3 o.2.2) y7 (F6.tr f7.q) h))
  have g7 : RG y7 b n (nxt b n 3 0) := g7
  have okw : okW b n 0 := ⟨o1, o2, o3⟩
  exact lp_X8_readAll_87 (b := b) (n := n) (W := tV b n (nxt b n 1 0)) (n + 1) (s00 b n (gi x 719)) y7 1 (by omega) (F6.tr f7.q) (c6.t f7.t g7) (fun t L z r f' c' => k1 okw t L z r f' c') (fun r z v f' h => k0 (Or.inr ⟨okw, r⟩) z v f' h)

end

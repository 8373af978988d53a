section
theorem sp_X8_saysCommon {x : Cn} {Q : Cn → Prop} {l : List Nat} {B cr v d h f t j m b0 f0 : Nat} {way : Int32} (T : TT) (hT : gi x 718 = T) (hb0 : b0 + f0 + 1 < 518 ∧ b0 + 3 < 518) (hf0 : f0 ≤ 5) (t0 : T b0 = nI cr) (t1 : T (b0 + 1) = nI d) (t2 : T (b0 + 2) = nI h) (t3 : T (b0 + 3) = way) (t5 : T (b0 + f0) = nI f) (t6 : T (b0 + f0 + 1) = nI t) (hc : cr < 8) (hv1 : v < 387420489) (hv : T (54 + cr) = nI v) (hd : d < 7) (hh : h < 100) (hf : f < 100) (ht : t < 100) (hj : j < 37) (hm : (mSq j).2.2.2.length ≤ m) (M : MRf x 718) (w : OR x l B) (hB : B + 23 + m ≤ 2400) (k : ∀ y, OFr x y → OR y (l ++ comP (wd j) v d h way f t) (B + 23 + m) → Q y) : mSV mX8_saysCommon [.ref 717, .ref (mSB + j), .int (nI b0), .int (nI f0)] KW x Q := by
  have Mg : ∀ y : Cn, OFr x y → MRf y 718 := fun y fy => M.keep fy.1
  have tg : ∀ y : Cn, OFr x y → ∀ i, gi y 718 i = T i := fun y fy i => by rw [fy.2 718 i (by decide) (by omega), hT]
  have i1 : nI b0 + 1 = nI (b0 + 1) := nI_1 b0
  have i2 : nI b0 + 2 = nI (b0 + 2) := nI_add b0 2
  have i3 : nI b0 + 3 = nI (b0 + 3) := nI_add b0 3
  have i5 : nI b0 + nI f0 = nI (b0 + f0) := nI_add b0 f0
  have i6 : nI (b0 + f0) + 1 = nI (b0 + f0 + 1) := nI_1 _
  refine v_X8_saysCommon_0 km (sp_X8_saysText (m := m) (mSq_at hj) hm M w (by omega) (fun y1 f1 w1 => ⟨718, (Mg y1 f1).1, 518, km1, vp_in_nI (by omega) (by decide), ?_⟩))
  rw [nI_clamp (by omega), tg y1 f1, t0]
  refine sp_X8_saysName hc hv1 (by rw [tg y1 f1]; exact hv) (Mg y1 f1) w1 (by omega) (fun y2 f2 w2 => ?_)
  have F2 := f1.tr f2
  refine sp_X8_says (n := 32) (by decide) (Mg y2 F2) w2 (by omega) (fun y3 f3 w3 => ?_)
  have F3 := F2.tr f3
  rw [i1, i2, i3, i5, i6, nI_clamp (show b0 + 1 < 2 ^ 31 by omega), nI_clamp (show b0 + 2 < 2 ^ 31 by omega), nI_clamp (show b0 + 3 < 2 ^ 31 by omega), nI_clamp (show b0 + f0 < 2 ^ 31 by omega), nI_clamp (show b0 + f0 + 1 < 2 ^ 31 by omega)]
  refine ⟨718, (Mg y3 F3).1, 518, km1, vp_in_nI (by omega) (by decide), ?_⟩
  rw [tg y3 F3, t1]
  refine sp_X8_dayOf hd (sp_X8_saysText (m := 3) (mSq_at (by omega)) (by rw [← wq_len]; show (wd (15 + d)).length ≤ 3; rw [day_wd d hd]; exact Nat.le_refl _) (Mg y3 F3) w3 (by omega) (fun y4 f4 w4 => ?_))
  rw [show wq (mSq (15 + d)) = dayL d from day_wd d hd] at w4
  have F4 := F3.tr f4
  refine sp_X8_says (n := 32) (by decide) (Mg y4 F4) w4 (by omega) (fun y5 f5 w5 => ⟨718, (Mg y5 (F4.tr f5)).1, 518, km1, vp_in_nI (by omega) (by decide), ?_⟩)
  have F5 := F4.tr f5
  rw [tg y5 F5, t2]
  refine sp_X8_saysNumber hh (Mg y5 F5) w5 (by omega) (fun y6 f6 w6 => ⟨718, (Mg y6 (F5.tr f6)).1, 518, km1, vp_in_nI (by omega) (by decide), ?_⟩)
  have F6 := F5.tr f6
  rw [tg y6 F6, t3]
  have rest : ∀ (y7 : Cn) (W7 : List Nat) B7, OFr x y7 → OR y7 (l ++ wd j ++ nmL v ++ [32] ++ dayL d ++ [32] ++ numL h ++ W7) B7 → B7 + 5 ≤ B + 23 + m → W7 = (if way = 0 then wd 29 else wd 32) → ∃ c_31, gr y7 717 1 = some c_31 ∧ (∃ n_34, kk KW c_31 = some (20, n_34) ∧ (vp_in (nI (b0 + f0)) n_34 ∧ mSV mX8_saysNumber [.ref 717, .int (gi y7 c_31 (b0 + f0))] KW y7 (fun y_36 => mSV mX8_says [.ref 717, .int 45] KW y_36 (fun y_37 => ∃ c_38, gr y_37 717 1 = some c_38 ∧ (∃ n_41, kk KW c_38 = some (20, n_41) ∧ (vp_in (nI (b0 + f0 + 1)) n_41 ∧ mSV mX8_saysNumber [.ref 717, .int (gi y_37 c_38 (b0 + f0 + 1))] KW y_37 (fun y_43 => Q y_43))))))) := by
    intro y7 W7 B7 F7 w7 hB7 hW7
    refine ⟨718, (Mg y7 F7).1, 518, km1, vp_in_nI (by omega) (by decide), ?_⟩
    rw [tg y7 F7, t5]
    refine sp_X8_saysNumber hf (Mg y7 F7) w7 (by omega) (fun y8 f8 w8 => sp_X8_says (n := 45) (by decide) (Mg y8 (F7.tr f8)) w8 (by omega) (fun y9 f9 w9 => ⟨718, (Mg y9 (F7.tr (f8.tr f9))).1, 518, km1, vp_in_nI (by omega) (by decide), ?_⟩))
    have F9 := F7.tr (f8.tr f9)
    rw [tg y9 F9, t6]
    refine sp_X8_saysNumber ht (Mg y9 F9) w9 (by omega) (fun y10 f10 w10 => k y10 (F9.tr f10) ?_)
    have e : l ++ wd j ++ nmL v ++ [32] ++ dayL d ++ [32] ++ numL h ++ W7 ++ numL f ++ [45] ++ numL t = l ++ comP (wd j) v d h way f t := by
      rw [hW7]
      simp only [comP, List.append_assoc]
    rw [e] at w10
    exact w10.le (by omega)
  refine ⟨fun z => sp_X8_saysText (j := 32) (m := 5) (mSq_at (by decide)) (by decide) (Mg y6 F6) w6 (by omega) (fun y7 f7 w7 => rest y7 _ _ (F6.tr f7) w7 (by omega) (by rw [if_neg z])), fun z => sp_X8_saysText (j := 29) (m := 4) (mSq_at (by decide)) (by decide) (Mg y6 F6) w6 (by omega) (fun y7 f7 w7 => rest y7 _ _ (F6.tr f7) w7 (by omega) (by rw [if_pos z]))⟩
end
set_option maxHeartbeats 2000000 in
theorem v_X8_tell_0 {K : Sh} {x : Cn} {Q : Int32 → Cn → Prop} {b0 : Nat} {b0_1 : Nat} {n_b0_1 : Nat} (k_b0 : kk K b0 = some (8, 0)) (g_b0_1 : gr x b0 1 = some b0_1) (k_b0_1 : kk K b0_1 = some (20, n_b0_1)) (K0 : vp_in 0 n_b0_1 ∧ (((0 < gi x b0_1 0) → (mSV mX8_saysText [.ref b0, .ref (mSB + 27)] K (ui x b0 22 0) (fun y_3 => gr y_3 b0 1 = some b0_1 ∧ (mSV mX8_saysNumber [.ref b0, .int (gi y_3 b0_1 0)] K y_3 (fun y_5 => mSV mX8_says [.ref b0, .int 59] K y_5 (fun y_6 => GI mX8_tell 40 [some (.ref b0), some (.int 0)] [] K y_6 Q)))))) ∧ (¬ (0 < gi x b0_1 0) → (Q (-2) x)))) : mSI mX8_tell [.ref b0] K x Q := by
  refine s_I (by decide) (by simp [Value.category]) (Nat.le_of_ble_eq_true rfl) ?_
  show mGM mX8_tell 0 [some (.ref b0), none] [] (hp K x) (PI K Q)
  refine r_aload_n (pc := 0) dX8_tell_0 rfl ?_
  obtain ⟨i_1, K0⟩ := K0
  refine s_VI (pc := 1) mX8_isThere (ci := 8) (a := b0) (As := []) dX8_tell_1 lk_X8_49 in_X8_isThere mo_X8_isThere ⟨by decide, rfl⟩ ⟨by decide, by decide⟩ (Nat.le_of_ble_eq_true rfl) k_b0 (sp_X8_isThere k_b0 g_b0_1 k_b0_1 i_1 ?_)
  refine r_if_ne (pc := 4) (tgt := 10) dX8_tell_4 (by decide) (fun q => ?_) (fun q => ?_)
  · have q := b2i_nz q
    have K0 := K0.1 q
    refine r_aload_n (pc := 10) dX8_tell_10 rfl ?_
    refine r_iconst (pc := 11) (v := 0) dX8_tell_11 (by decide) ?_
    refine s_putI (pc := 12) dX8_tell_12 fl_X8_398 rfl rfl k_b0 ?_
    refine r_aload_n (pc := 15) dX8_tell_15 rfl ?_
    refine r_ldcwS (pc := 16) (j := 27) dX8_tell_16 rfl ?_
    refine s_VV (pc := 19) mX8_saysText (ci := 8) (a := b0) (As := [.ref (mSB + 27)]) dX8_tell_19 lk_X8_404 in_X8_saysText mo_X8_saysText ⟨by decide, rfl⟩ ⟨by decide, by decide⟩ (Nat.le_of_ble_eq_true rfl) k_b0 (mSV_mono K0 (fun y_3 K0 => ?_))
    refine r_aload_n (pc := 22) dX8_tell_22 rfl ?_
    refine r_aload_n (pc := 23) dX8_tell_23 rfl ?_
    obtain ⟨g_4, K0⟩ := K0
    refine s_getR (pc := 24) dX8_tell_24 fl_X8_9 rfl k_b0 g_4 ?_
    refine r_iconst (pc := 27) (v := 0) dX8_tell_27 (by decide) ?_
    refine s_iald (pc := 28) dX8_tell_28 k_b0_1 i_1 ?_
    refine s_VV (pc := 29) mX8_saysNumber (ci := 8) (a := b0) (As := [.int (gi y_3 b0_1 0)]) dX8_tell_29 lk_X8_410 in_X8_saysNumber mo_X8_saysNumber ⟨by decide, rfl⟩ ⟨by decide, by decide⟩ (Nat.le_of_ble_eq_true rfl) k_b0 (mSV_mono K0 (fun y_5 K0 => ?_))
    refine r_aload_n (pc := 32) dX8_tell_32 rfl ?_
    refine r_bipush (pc := 33) (v := 59) dX8_tell_33 (by decide) ?_
    refine s_VV (pc := 35) mX8_says (ci := 8) (a := b0) (As := [.int 59]) dX8_tell_35 lk_X8_401 in_X8_says mo_X8_says ⟨by decide, rfl⟩ ⟨by decide, by decide⟩ (Nat.le_of_ble_eq_true rfl) k_b0 (mSV_mono K0 (fun y_6 K0 => ?_))
    refine r_iconst (pc := 38) (v := 0) dX8_tell_38 (by decide) ?_
    refine r_istore_n (pc := 39) dX8_tell_39 (by decide) ?_
    exact r_le (L' := [some (.ref b0), some (.int 0)]) ⟨rfl, ⟨rfl, trivial⟩⟩ K0
  · have q := (b2i_z _).mp q
    have K0 := K0.2 q
    refine r_bipush (pc := 7) (v := (-2)) dX8_tell_7 (by decide) ?_
    exact s_iret rfl dX8_tell_9 K0
set_option maxHeartbeats 2000000 in
theorem v_X8_tell_40 {K : Sh} {x : Cn} {Q : Int32 → Cn → Prop} {b0 : Nat} {l1 : Int32} {b0_1 : Nat} {n_b0_1 : Nat} (k_b0 : kk K b0 = some (8, 0)) (g_b0_1 : gr x b0 1 = some b0_1) (k_b0_1 : kk K b0_1 = some (20, n_b0_1)) (K0 : (24 ≤ l1 → (GI mX8_tell 152 [some (.ref b0), some (.int 0)] [] K x Q)) ∧ (¬ 24 ≤ l1 → (vp_in (6 + (2 * l1)) n_b0_1 ∧ ((¬ (gi x b0_1 ((6 + (2 * l1)) : Int32).toNatClampNeg) = 4 → (mSV mX8_saysText [.ref b0, .ref (mSB + 28)] K x (fun y_4 => mSV mX8_saysNumber [.ref b0, .int l1] K y_4 (fun y_5 => mSV mX8_says [.ref b0, .int 32] K y_5 (fun y_6 => gr y_6 b0 1 = some b0_1 ∧ (mSV mX8_saysNumber [.ref b0, .int (gi y_6 b0_1 ((6 + (2 * l1)) : Int32).toNatClampNeg)] K y_6 (fun y_8 => mSV mX8_saysText [.ref b0, .ref (mSB + 29)] K y_8 (fun y_9 => gr y_9 b0 1 = some b0_1 ∧ (vp_in ((6 + (2 * l1)) + 1) n_b0_1 ∧ (mSV mX8_saysNumber [.ref b0, .int (gi y_9 b0_1 (((6 + (2 * l1)) + 1) : Int32).toNatClampNeg)] K y_9 (fun y_12 => mSV mX8_says [.ref b0, .int 59] K y_12 (fun y_13 => GI mX8_tell 40 [some (.ref b0), some (.int (l1 + 1))] [] K y_13 Q)))))))))))) ∧ ((gi x b0_1 ((6 + (2 * l1)) : Int32).toNatClampNeg) = 4 → (vp_in ((6 + (2 * l1)) + 1) n_b0_1 ∧ ((¬ (gi x b0_1 (((6 + (2 * l1)) + 1) : Int32).toNatClampNeg) = 4 → (mSV mX8_saysText [.ref b0, .ref (mSB + 28)] K x (fun y_16 => mSV mX8_saysNumber [.ref b0, .int l1] K y_16 (fun y_17 => mSV mX8_says [.ref b0, .int 32] K y_17 (fun y_18 => gr y_18 b0 1 = some b0_1 ∧ (mSV mX8_saysNumber [.ref b0, .int (gi y_18 b0_1 ((6 + (2 * l1)) : Int32).toNatClampNeg)] K y_18 (fun y_20 => mSV mX8_saysText [.ref b0, .ref (mSB + 29)] K y_20 (fun y_21 => gr y_21 b0 1 = some b0_1 ∧ (mSV mX8_saysNumber [.ref b0, .int (gi y_21 b0_1 (((6 + (2 * l1)) + 1) : Int32).toNatClampNeg)] K y_21 (fun y_23 => mSV mX8_says [.ref b0, .int 59] K y_23 (fun y_24 => GI mX8_tell 40 [some (.ref b0), some (.int (l1 + 1))] [] K y_24 Q))))))))))) ∧ ((gi x b0_1 (((6 + (2 * l1)) + 1) : Int32).toNatClampNeg) = 4 → (GI mX8_tell 40 [some (.ref b0), some (.int (l1 + 1))] [] K x Q))))))))) : GI mX8_tell 40 [some (.ref b0), some (.int l1)] [] K x Q := by
  show mGM mX8_tell 40 [some (.ref b0), some (.int l1)] [] (hp K x) (PI K Q)
  refine r_iload_n (pc := 40) dX8_tell_40 rfl ?_
  refine r_bipush (pc := 41) (v := 24) dX8_tell_41 (by decide) ?_
  refine r_icmp_ge (pc := 43) (tgt := 150) dX8_tell_43 (by decide) (fun q => ?_) (fun q => ?_)
  · have K0 := K0.1 q
    refine r_iconst (pc := 150) (v := 0) dX8_tell_150 (by decide) ?_
    refine r_istore_n (pc := 151) dX8_tell_151 (by decide) ?_
    exact r_le (L' := [some (.ref b0), some (.int 0)]) ⟨rfl, ⟨rfl, trivial⟩⟩ K0
  · have K0 := K0.2 q
    refine r_aload_n (pc := 46) dX8_tell_46 rfl ?_
    refine s_getR (pc := 47) dX8_tell_47 fl_X8_9 rfl k_b0 g_b0_1 ?_
    refine r_bipush (pc := 50) (v := 6) dX8_tell_50 (by decide) ?_
    refine r_iconst (pc := 52) (v := 2) dX8_tell_52 (by decide) ?_
    refine r_iload_n (pc := 53) dX8_tell_53 rfl ?_
    refine r_imul (pc := 54) dX8_tell_54 ?_
    refine r_iadd (pc := 55) dX8_tell_55 ?_
    obtain ⟨i_2, K0⟩ := K0
    refine s_iald (pc := 56) dX8_tell_56 k_b0_1 i_2 ?_
    refine r_iconst (pc := 57) (v := 4) dX8_tell_57 (by decide) ?_
    refine r_icmp_ne (pc := 58) (tgt := 81) dX8_tell_58 (by decide) (fun q => ?_) (fun q => ?_)
    · have K0 := K0.1 q
      refine r_aload_n (pc := 81) dX8_tell_81 rfl ?_
      refine r_ldcwS (pc := 82) (j := 28) dX8_tell_82 rfl ?_
      refine s_VV (pc := 85) mX8_saysText (ci := 8) (a := b0) (As := [.ref (mSB + 28)]) dX8_tell_85 lk_X8_404 in_X8_saysText mo_X8_saysText ⟨by decide, rfl⟩ ⟨by decide, by decide⟩ (Nat.le_of_ble_eq_true rfl) k_b0 (mSV_mono K0 (fun y_4 K0 => ?_))
      refine r_aload_n (pc := 88) dX8_tell_88 rfl ?_
      refine r_iload_n (pc := 89) dX8_tell_89 rfl ?_
      refine s_VV (pc := 90) mX8_saysNumber (ci := 8) (a := b0) (As := [.int l1]) dX8_tell_90 lk_X8_410 in_X8_saysNumber mo_X8_saysNumber ⟨by decide, rfl⟩ ⟨by decide, by decide⟩ (Nat.le_of_ble_eq_true rfl) k_b0 (mSV_mono K0 (fun y_5 K0 => ?_))
      refine r_aload_n (pc := 93) dX8_tell_93 rfl ?_
      refine r_bipush (pc := 94) (v := 32) dX8_tell_94 (by decide) ?_
      refine s_VV (pc := 96) mX8_says (ci := 8) (a := b0) (As := [.int 32]) dX8_tell_96 lk_X8_401 in_X8_says mo_X8_says ⟨by decide, rfl⟩ ⟨by decide, by decide⟩ (Nat.le_of_ble_eq_true rfl) k_b0 (mSV_mono K0 (fun y_6 K0 => ?_))
      refine r_aload_n (pc := 99) dX8_tell_99 rfl ?_
      refine r_aload_n (pc := 100) dX8_tell_100 rfl ?_
      obtain ⟨g_7, K0⟩ := K0
      refine s_getR (pc := 101) dX8_tell_101 fl_X8_9 rfl k_b0 g_7 ?_
      refine r_bipush (pc := 104) (v := 6) dX8_tell_104 (by decide) ?_
      refine r_iconst (pc := 106) (v := 2) dX8_tell_106 (by decide) ?_
      refine r_iload_n (pc := 107) dX8_tell_107 rfl ?_
      refine r_imul (pc := 108) dX8_tell_108 ?_
      refine r_iadd (pc := 109) dX8_tell_109 ?_
      refine s_iald (pc := 110) dX8_tell_110 k_b0_1 i_2 ?_
      refine s_VV (pc := 111) mX8_saysNumber (ci := 8) (a := b0) (As := [.int (gi y_6 b0_1 ((6 + (2 * l1)) : Int32).toNatClampNeg)]) dX8_tell_111 lk_X8_410 in_X8_saysNumber mo_X8_saysNumber ⟨by decide, rfl⟩ ⟨by decide, by decide⟩ (Nat.le_of_ble_eq_true rfl) k_b0 (mSV_mono K0 (fun y_8 K0 => ?_))
      refine r_aload_n (pc := 114) dX8_tell_114 rfl ?_
      refine r_ldcwS (pc := 115) (j := 29) dX8_tell_115 rfl ?_
      refine s_VV (pc := 118) mX8_saysText (ci := 8) (a := b0) (As := [.ref (mSB + 29)]) dX8_tell_118 lk_X8_404 in_X8_saysText mo_X8_saysText ⟨by decide, rfl⟩ ⟨by decide, by decide⟩ (Nat.le_of_ble_eq_true rfl) k_b0 (mSV_mono K0 (fun y_9 K0 => ?_))
      refine r_aload_n (pc := 121) dX8_tell_121 rfl ?_
      refine r_aload_n (pc := 122) dX8_tell_122 rfl ?_
      obtain ⟨g_10, K0⟩ := K0
      refine s_getR (pc := 123) dX8_tell_123 fl_X8_9 rfl k_b0 g_10 ?_
      refine r_bipush (pc := 126) (v := 6) dX8_tell_126 (by decide) ?_
      refine r_iconst (pc := 128) (v := 2) dX8_tell_128 (by decide) ?_
      refine r_iload_n (pc := 129) dX8_tell_129 rfl ?_
      refine r_imul (pc := 130) dX8_tell_130 ?_
      refine r_iadd (pc := 131) dX8_tell_131 ?_
      refine r_iconst (pc := 132) (v := 1) dX8_tell_132 (by decide) ?_
      refine r_iadd (pc := 133) dX8_tell_133 ?_
      obtain ⟨i_11, K0⟩ := K0
      refine s_iald (pc := 134) dX8_tell_134 k_b0_1 i_11 ?_
      refine s_VV (pc := 135) mX8_saysNumber (ci := 8) (a := b0) (As := [.int (gi y_9 b0_1 (((6 + (2 * l1)) + 1) : Int32).toNatClampNeg)]) dX8_tell_135 lk_X8_410 in_X8_saysNumber mo_X8_saysNumber ⟨by decide, rfl⟩ ⟨by decide, by decide⟩ (Nat.le_of_ble_eq_true rfl) k_b0 (mSV_mono K0 (fun y_12 K0 => ?_))
      refine r_aload_n (pc := 138) dX8_tell_138 rfl ?_
      refine r_bipush (pc := 139) (v := 59) dX8_tell_139 (by decide) ?_
      refine s_VV (pc := 141) mX8_says (ci := 8) (a := b0) (As := [.int 59]) dX8_tell_141 lk_X8_401 in_X8_says mo_X8_says ⟨by decide, rfl⟩ ⟨by decide, by decide⟩ (Nat.le_of_ble_eq_true rfl) k_b0 (mSV_mono K0 (fun y_13 K0 => ?_))
      refine r_iinc (pc := 144) (v := l1 + 1) dX8_tell_144 rfl rfl (by decide) ?_
      refine r_goto (pc := 147) (L := [some (.ref b0), some (.int (l1 + 1))]) (tgt := 40) dX8_tell_147 (by decide) ?_
      exact r_le (L' := [some (.ref b0), some (.int (l1 + 1))]) ⟨rfl, ⟨rfl, trivial⟩⟩ K0
    · have K0 := K0.2 q
      refine r_aload_n (pc := 61) dX8_tell_61 rfl ?_
      refine s_getR (pc := 62) dX8_tell_62 fl_X8_9 rfl k_b0 g_b0_1 ?_
      refine r_bipush (pc := 65) (v := 6) dX8_tell_65 (by decide) ?_
      refine r_iconst (pc := 67) (v := 2) dX8_tell_67 (by decide) ?_
      refine r_iload_n (pc := 68) dX8_tell_68 rfl ?_
      refine r_imul (pc := 69) dX8_tell_69 ?_
      refine r_iadd (pc := 70) dX8_tell_70 ?_
      refine r_iconst (pc := 71) (v := 1) dX8_tell_71 (by decide) ?_
      refine r_iadd (pc := 72) dX8_tell_72 ?_
      obtain ⟨i_14, K0⟩ := K0
      refine s_iald (pc := 73) dX8_tell_73 k_b0_1 i_14 ?_
      refine r_iconst (pc := 74) (v := 4) dX8_tell_74 (by decide) ?_
      refine r_icmp_ne (pc := 75) (tgt := 81) dX8_tell_75 (by decide) (fun q => ?_) (fun q => ?_)
      · have K0 := K0.1 q
        refine r_aload_n (pc := 81) dX8_tell_81 rfl ?_
        refine r_ldcwS (pc := 82) (j := 28) dX8_tell_82 rfl ?_
        refine s_VV (pc := 85) mX8_saysText (ci := 8) (a := b0) (As := [.ref (mSB + 28)]) dX8_tell_85 lk_X8_404 in_X8_saysText mo_X8_saysText ⟨by decide, rfl⟩ ⟨by decide, by decide⟩ (Nat.le_of_ble_eq_true rfl) k_b0 (mSV_mono K0 (fun y_16 K0 => ?_))
        refine r_aload_n (pc := 88) dX8_tell_88 rfl ?_
        refine r_iload_n (pc := 89) dX8_tell_89 rfl ?_
        refine s_VV (pc := 90) mX8_saysNumber (ci := 8) (a := b0) (As := [.int l1]) dX8_tell_90 lk_X8_410 in_X8_saysNumber mo_X8_saysNumber ⟨by decide, rfl⟩ ⟨by decide, by decide⟩ (Nat.le_of_ble_eq_true rfl) k_b0 (mSV_mono K0 (fun y_17 K0 => ?_))
        refine r_aload_n (pc := 93) dX8_tell_93 rfl ?_
        refine r_bipush (pc := 94) (v := 32) dX8_tell_94 (by decide) ?_
        refine s_VV (pc := 96) mX8_says (ci := 8) (a := b0) (As := [.int 32]) dX8_tell_96 lk_X8_401 in_X8_says mo_X8_says ⟨by decide, rfl⟩ ⟨by decide, by decide⟩ (Nat.le_of_ble_eq_true rfl) k_b0 (mSV_mono K0 (fun y_18 K0 => ?_))
        refine r_aload_n (pc := 99) dX8_tell_99 rfl ?_
        refine r_aload_n (pc := 100) dX8_tell_100 rfl ?_
        obtain ⟨g_19, K0⟩ := K0
        refine s_getR (pc := 101) dX8_tell_101 fl_X8_9 rfl k_b0 g_19 ?_
        refine r_bipush (pc := 104) (v := 6) dX8_tell_104 (by decide) ?_
        refine r_iconst (pc := 106) (v := 2) dX8_tell_106 (by decide) ?_
        refine r_iload_n (pc := 107) dX8_tell_107 rfl ?_
        refine r_imul (pc := 108) dX8_tell_108 ?_
        refine r_iadd (pc := 109) dX8_tell_109 ?_
        refine s_iald (pc := 110) dX8_tell_110 k_b0_1 i_2 ?_
        refine s_VV (pc := 111) mX8_saysNumber (ci := 8) (a := b0) (As := [.int (gi y_18 b0_1 ((6 + (2 * l1)) : Int32).toNatClampNeg)]) dX8_tell_111 lk_X8_410 in_X8_saysNumber mo_X8_saysNumber ⟨by decide, rfl⟩ ⟨by decide, by decide⟩ (Nat.le_of_ble_eq_true rfl) k_b0 (mSV_mono K0 (fun y_20 K0 => ?_))
        refine r_aload_n (pc := 114) dX8_tell_114 rfl ?_
        refine r_ldcwS (pc := 115) (j := 29) dX8_tell_115 rfl ?_
        refine s_VV (pc := 118) mX8_saysText (ci := 8) (a := b0) (As := [.ref (mSB + 29)]) dX8_tell_118 lk_X8_404 in_X8_saysText mo_X8_saysText ⟨by decide, rfl⟩ ⟨by decide, by decide⟩ (Nat.le_of_ble_eq_true rfl) k_b0 (mSV_mono K0 (fun y_21 K0 => ?_))
        refine r_aload_n (pc := 121) dX8_tell_121 rfl ?_
        refine r_aload_n (pc := 122) dX8_tell_122 rfl ?_
        obtain ⟨g_22, K0⟩ := K0
        refine s_getR (pc := 123) dX8_tell_123 fl_X8_9 rfl k_b0 g_22 ?_
        refine r_bipush (pc := 126) (v := 6) dX8_tell_126 (by decide) ?_
        refine r_iconst (pc := 128) (v := 2) dX8_tell_128 (by decide) ?_
        refine r_iload_n (pc := 129) dX8_tell_129 rfl ?_
        refine r_imul (pc := 130) dX8_tell_130 ?_
        refine r_iadd (pc := 131) dX8_tell_131 ?_
        refine r_iconst (pc := 132) (v := 1) dX8_tell_132 (by decide) ?_
        refine r_iadd (pc := 133) dX8_tell_133 ?_
        refine s_iald (pc := 134) dX8_tell_134 k_b0_1 i_14 ?_
        refine s_VV (pc := 135) mX8_saysNumber (ci := 8) (a := b0) (As := [.int (gi y_21 b0_1 (((6 + (2 * l1)) + 1) : Int32).toNatClampNeg)]) dX8_tell_135 lk_X8_410 in_X8_saysNumber mo_X8_saysNumber ⟨by decide, rfl⟩ ⟨by decide, by decide⟩ (Nat.le_of_ble_eq_true rfl) k_b0 (mSV_mono K0 (fun y_23 K0 => ?_))
        refine r_aload_n (pc := 138) dX8_tell_138 rfl ?_
        refine r_bipush (pc := 139) (v := 59) dX8_tell_139 (by decide) ?_
        refine s_VV (pc := 141) mX8_says (ci := 8) (a := b0) (As := [.int 59]) dX8_tell_141 lk_X8_401 in_X8_says mo_X8_says ⟨by decide, rfl⟩ ⟨by decide, by decide⟩ (Nat.le_of_ble_eq_true rfl) k_b0 (mSV_mono K0 (fun y_24 K0 => ?_))
        refine r_iinc (pc := 144) (v := l1 + 1) dX8_tell_144 rfl rfl (by decide) ?_
        refine r_goto (pc := 147) (L := [some (.ref b0), some (.int (l1 + 1))]) (tgt := 40) dX8_tell_147 (by decide) ?_
        exact r_le (L' := [some (.ref b0), some (.int (l1 + 1))]) ⟨rfl, ⟨rfl, trivial⟩⟩ K0
      · have K0 := K0.2 q
        refine r_goto (pc := 78) (tgt := 144) dX8_tell_78 (by decide) ?_
        refine r_iinc (pc := 144) (v := l1 + 1) dX8_tell_144 rfl rfl (by decide) ?_
        refine r_goto (pc := 147) (L := [some (.ref b0), some (.int (l1 + 1))]) (tgt := 40) dX8_tell_147 (by decide) ?_
        exact r_le (L' := [some (.ref b0), some (.int (l1 + 1))]) ⟨rfl, ⟨rfl, trivial⟩⟩ K0

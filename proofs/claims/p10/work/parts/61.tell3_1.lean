section
theorem sp_X8_saysName {x : Cn} {Q : Cn → Prop} {l : List Nat} {B cr v : Nat} (hc : cr < 8) (hv1 : v < 387420489) (hv : gi x 718 (54 + cr) = nI v) (M : MRf x 718) (w : OR x l B) (hB : B + 6 ≤ 2400) (k : ∀ y, OFr x y → OR y (l ++ nmL v) (B + 6) → Q y) : mSV mX8_saysName [.ref 717, .int (nI cr)] KW x Q := by
  refine v_X8_saysName_0 ?_
  refine lp_acc (nmS v) (fun i l' => ∀ z, OFr x z → OR z l' (B + i) → GV mX8_saysName 2 [some (.ref 717), some (.int (nI cr)), some (.int (nI i))] [] KW z Q) 6 l ?_ (fun i l' hi n1 => ?_) x (OFr.rf x) w
  · intro z fz wz
    have Mz := M.keep fz.1
    refine v_X8_saysName_2 km Mz.1 km1 ⟨fun _ => k z fz ?_, fun u => absurd (by decide) u⟩
    rw [nm_acc] at wz
    exact wz
  · intro z fz wz
    have Mz := M.keep fz.1
    have hd := dg_lt v i
    have gz : gi z 718 (54 + cr) = nI v := (fz.2 718 _ (by decide) (by omega)).trans hv
    have ix : (54 : Int32) + nI cr = nI (54 + cr) := nI_add 54 cr
    refine v_X8_saysName_2 km Mz.1 km1 ⟨fun u => absurd u (nI_ge (b := 6) hi (by decide)), fun _ => ?_⟩
    rw [ix, nI_clamp (by omega), gz, nI_1]
    refine ⟨vp_in_nI (by omega) (by decide), sp_X8_letterOf (by omega) hi ?_⟩
    rw [show nI (v / 27 ^ (5 - i) % 27) ≤ 0 ↔ dg v i ≤ 0 from nI_leI (a := dg v i) (b := 0) (by omega) (by decide)]
    refine ⟨fun u => n1 l' ?_ z fz (wz.le (by omega)), fun u => ⟨Mz.1, ?_⟩⟩
    · unfold nmS; rw [if_pos (by omega)]
    · rw [gz]
      refine sp_X8_letterOf (by omega) hi ?_
      rw [show (97 + nI (v / 27 ^ (5 - i) % 27)) - 1 = nI (96 + dg v i) from (by rw [show (97 : Int32) + nI (v / 27 ^ (5 - i) % 27) = nI (97 + dg v i) from nI_add 97 _, show nI (97 + dg v i) - 1 = nI (97 + dg v i - 1) from pk_sub (b := 1) (by omega)]; congr 1; omega)]
      refine sp_X8_says (by omega) Mz wz (by omega) (fun z2 f2 w2 => n1 _ ?_ z2 (fz.tr f2) w2)
      unfold nmS; rw [if_neg (by omega)]
end
set_option maxHeartbeats 2000000 in
theorem v_X8_dayOf_0 {K : Sh} {x : Cn} {Q : Nat → Cn → Prop} {l0 : Int32}   (K0 : (l0 = 0 → (Q (mSB + 15) x)) ∧ (l0 = 1 → (Q (mSB + 16) x)) ∧ (l0 = 2 → (Q (mSB + 17) x)) ∧ (l0 = 3 → (Q (mSB + 18) x)) ∧ (l0 = 4 → (Q (mSB + 19) x)) ∧ (l0 = 5 → (Q (mSB + 20) x)) ∧ ((¬ l0 = 0 ∧ ¬ l0 = 1 ∧ ¬ l0 = 2 ∧ ¬ l0 = 3 ∧ ¬ l0 = 4 ∧ ¬ l0 = 5) → (Q (mSB + 21) x))) : mSR mX8_dayOf [.int l0] K x Q := by
  refine s_R (by decide) (by simp [Value.category]) (Nat.le_of_ble_eq_true rfl) ?_
  show mGM mX8_dayOf 0 [some (.int l0)] [] (hp K x) (PR K Q)
  refine r_iload_n (pc := 0) dX8_dayOf_0 rfl ?_
  by_cases q0 : l0 = 0
  · have K0 := K0.1 q0
    refine r_tabIn (pc := 1) (tgt := 40) (off := 39) dX8_dayOf_1 (by rw [q0]; decide) (by rw [q0]; decide) (by rw [q0]; decide) (by decide) ?_
    refine r_ldcS (pc := 40) (j := 15) dX8_dayOf_40 rfl ?_
    exact s_aret rfl dX8_dayOf_42 K0
  have K0 := K0.2
  by_cases q1 : l0 = 1
  · have K0 := K0.1 q1
    refine r_tabIn (pc := 1) (tgt := 43) (off := 42) dX8_dayOf_1 (by rw [q1]; decide) (by rw [q1]; decide) (by rw [q1]; decide) (by decide) ?_
    refine r_ldcS (pc := 43) (j := 16) dX8_dayOf_43 rfl ?_
    exact s_aret rfl dX8_dayOf_45 K0
  have K0 := K0.2
  by_cases q2 : l0 = 2
  · have K0 := K0.1 q2
    refine r_tabIn (pc := 1) (tgt := 46) (off := 45) dX8_dayOf_1 (by rw [q2]; decide) (by rw [q2]; decide) (by rw [q2]; decide) (by decide) ?_
    refine r_ldcS (pc := 46) (j := 17) dX8_dayOf_46 rfl ?_
    exact s_aret rfl dX8_dayOf_48 K0
  have K0 := K0.2
  by_cases q3 : l0 = 3
  · have K0 := K0.1 q3
    refine r_tabIn (pc := 1) (tgt := 49) (off := 48) dX8_dayOf_1 (by rw [q3]; decide) (by rw [q3]; decide) (by rw [q3]; decide) (by decide) ?_
    refine r_ldcS (pc := 49) (j := 18) dX8_dayOf_49 rfl ?_
    exact s_aret rfl dX8_dayOf_51 K0
  have K0 := K0.2
  by_cases q4 : l0 = 4
  · have K0 := K0.1 q4
    refine r_tabIn (pc := 1) (tgt := 52) (off := 51) dX8_dayOf_1 (by rw [q4]; decide) (by rw [q4]; decide) (by rw [q4]; decide) (by decide) ?_
    refine r_ldcS (pc := 52) (j := 19) dX8_dayOf_52 rfl ?_
    exact s_aret rfl dX8_dayOf_54 K0
  have K0 := K0.2
  by_cases q5 : l0 = 5
  · have K0 := K0.1 q5
    refine r_tabIn (pc := 1) (tgt := 55) (off := 54) dX8_dayOf_1 (by rw [q5]; decide) (by rw [q5]; decide) (by rw [q5]; decide) (by decide) ?_
    refine r_ldcS (pc := 55) (j := 20) dX8_dayOf_55 rfl ?_
    exact s_aret rfl dX8_dayOf_57 K0
  have K0 := K0.2
  have K0 := K0 ⟨q0, q1, q2, q3, q4, q5⟩
  refine r_tabOut (pc := 1) (tgt := 58) dX8_dayOf_1 (by have z0 : ¬ Int32.toInt (l0) = 0 := fun z => q0 (Int32.toInt_inj.mp (z.trans (by decide))); have z1 : ¬ Int32.toInt (l0) = 1 := fun z => q1 (Int32.toInt_inj.mp (z.trans (by decide))); have z2 : ¬ Int32.toInt (l0) = 2 := fun z => q2 (Int32.toInt_inj.mp (z.trans (by decide))); have z3 : ¬ Int32.toInt (l0) = 3 := fun z => q3 (Int32.toInt_inj.mp (z.trans (by decide))); have z4 : ¬ Int32.toInt (l0) = 4 := fun z => q4 (Int32.toInt_inj.mp (z.trans (by decide))); have z5 : ¬ Int32.toInt (l0) = 5 := fun z => q5 (Int32.toInt_inj.mp (z.trans (by decide))); omega) (by decide) ?_
  refine r_ldcS (pc := 58) (j := 21) dX8_dayOf_58 rfl ?_
  exact s_aret rfl dX8_dayOf_60 K0
section
theorem sp_X8_dayOf {K : Sh} {x : Cn} {Q : Nat → Cn → Prop} {d : Nat} (hd : d < 7) (k : Q (mSB + (15 + d)) x) : mSR mX8_dayOf [.int (nI d)] K x Q := by
  have e : ∀ m, m < 7 → (nI d = nI m ↔ d = m) := fun m hm => nI_eq (by omega) (by omega)
  have : d = 0 ∨ d = 1 ∨ d = 2 ∨ d = 3 ∨ d = 4 ∨ d = 5 ∨ d = 6 := by omega
  refine v_X8_dayOf_0 ?_
  rcases this with rfl | rfl | rfl | rfl | rfl | rfl | rfl
  · exact ⟨fun _ => k, fun z => absurd z (by decide), fun z => absurd z (by decide), fun z => absurd z (by decide), fun z => absurd z (by decide), fun z => absurd z (by decide), fun z => absurd rfl z.1⟩
  · exact ⟨fun z => absurd z (by decide), fun _ => k, fun z => absurd z (by decide), fun z => absurd z (by decide), fun z => absurd z (by decide), fun z => absurd z (by decide), fun z => absurd rfl z.2.1⟩
  · exact ⟨fun z => absurd z (by decide), fun z => absurd z (by decide), fun _ => k, fun z => absurd z (by decide), fun z => absurd z (by decide), fun z => absurd z (by decide), fun z => absurd rfl z.2.2.1⟩
  · exact ⟨fun z => absurd z (by decide), fun z => absurd z (by decide), fun z => absurd z (by decide), fun _ => k, fun z => absurd z (by decide), fun z => absurd z (by decide), fun z => absurd rfl z.2.2.2.1⟩
  · exact ⟨fun z => absurd z (by decide), fun z => absurd z (by decide), fun z => absurd z (by decide), fun z => absurd z (by decide), fun _ => k, fun z => absurd z (by decide), fun z => absurd rfl z.2.2.2.2.1⟩
  · exact ⟨fun z => absurd z (by decide), fun z => absurd z (by decide), fun z => absurd z (by decide), fun z => absurd z (by decide), fun z => absurd z (by decide), fun _ => k, fun z => absurd rfl z.2.2.2.2.2⟩
  · exact ⟨fun z => absurd z (by decide), fun z => absurd z (by decide), fun z => absurd z (by decide), fun z => absurd z (by decide), fun z => absurd z (by decide), fun z => absurd z (by decide), fun _ => k⟩
end
set_option maxHeartbeats 2000000 in
theorem v_X8_saysCommon_0 {K : Sh} {x : Cn} {Q : Cn → Prop} {b0 : Nat} {b1 : Nat} {l2 : Int32} {l3 : Int32}  (k_b0 : kk K b0 = some (8, 0)) (K0 : mSV mX8_saysText [.ref b0, .ref b1] K x (fun y_1 => ∃ c_2 : Nat, gr y_1 b0 1 = some c_2 ∧ (∃ n_5 : Nat, kk K c_2 = some (20, n_5) ∧ (vp_in l2 n_5 ∧ (mSV mX8_saysName [.ref b0, .int (gi y_1 c_2 (l2 : Int32).toNatClampNeg)] K y_1 (fun y_7 => mSV mX8_says [.ref b0, .int 32] K y_7 (fun y_8 => ∃ c_9 : Nat, gr y_8 b0 1 = some c_9 ∧ (∃ n_12 : Nat, kk K c_9 = some (20, n_12) ∧ (vp_in (l2 + 1) n_12 ∧ (mSR mX8_dayOf [.int (gi y_8 c_9 ((l2 + 1) : Int32).toNatClampNeg)] K y_8 (fun r_15 y_14 => mSV mX8_saysText [.ref b0, .ref r_15] K y_14 (fun y_16 => mSV mX8_says [.ref b0, .int 32] K y_16 (fun y_17 => ∃ c_18 : Nat, gr y_17 b0 1 = some c_18 ∧ (∃ n_21 : Nat, kk K c_18 = some (20, n_21) ∧ (vp_in (l2 + 2) n_21 ∧ (mSV mX8_saysNumber [.ref b0, .int (gi y_17 c_18 ((l2 + 2) : Int32).toNatClampNeg)] K y_17 (fun y_23 => ∃ c_24 : Nat, gr y_23 b0 1 = some c_24 ∧ (∃ n_27 : Nat, kk K c_24 = some (20, n_27) ∧ (vp_in (l2 + 3) n_27 ∧ ((¬ (gi y_23 c_24 ((l2 + 3) : Int32).toNatClampNeg) = 0 → (mSV mX8_saysText [.ref b0, .ref (mSB + 32)] K y_23 (fun y_30 => ∃ c_31 : Nat, gr y_30 b0 1 = some c_31 ∧ (∃ n_34 : Nat, kk K c_31 = some (20, n_34) ∧ (vp_in (l2 + l3) n_34 ∧ (mSV mX8_saysNumber [.ref b0, .int (gi y_30 c_31 ((l2 + l3) : Int32).toNatClampNeg)] K y_30 (fun y_36 => mSV mX8_says [.ref b0, .int 45] K y_36 (fun y_37 => ∃ c_38 : Nat, gr y_37 b0 1 = some c_38 ∧ (∃ n_41 : Nat, kk K c_38 = some (20, n_41) ∧ (vp_in ((l2 + l3) + 1) n_41 ∧ (mSV mX8_saysNumber [.ref b0, .int (gi y_37 c_38 (((l2 + l3) + 1) : Int32).toNatClampNeg)] K y_37 (fun y_43 => Q y_43)))))))))))) ∧ ((gi y_23 c_24 ((l2 + 3) : Int32).toNatClampNeg) = 0 → (mSV mX8_saysText [.ref b0, .ref (mSB + 29)] K y_23 (fun y_44 => ∃ c_45 : Nat, gr y_44 b0 1 = some c_45 ∧ (∃ n_48 : Nat, kk K c_45 = some (20, n_48) ∧ (vp_in (l2 + l3) n_48 ∧ (mSV mX8_saysNumber [.ref b0, .int (gi y_44 c_45 ((l2 + l3) : Int32).toNatClampNeg)] K y_44 (fun y_50 => mSV mX8_says [.ref b0, .int 45] K y_50 (fun y_51 => ∃ c_52 : Nat, gr y_51 b0 1 = some c_52 ∧ (∃ n_55 : Nat, kk K c_52 = some (20, n_55) ∧ (vp_in ((l2 + l3) + 1) n_55 ∧ (mSV mX8_saysNumber [.ref b0, .int (gi y_51 c_52 (((l2 + l3) + 1) : Int32).toNatClampNeg)] K y_51 (fun y_57 => Q y_57)))))))))))))))))))))))))))))))) : mSV mX8_saysCommon [.ref b0, .ref b1, .int l2, .int l3] K x Q := by
  refine s_V (by decide) (by simp [Value.category]) (Nat.le_of_ble_eq_true rfl) ?_
  show mGM mX8_saysCommon 0 [some (.ref b0), some (.ref b1), some (.int l2), some (.int l3)] [] (hp K x) (PV K Q)
  refine r_aload_n (pc := 0) dX8_saysCommon_0 rfl ?_
  refine r_aload_n (pc := 1) dX8_saysCommon_1 rfl ?_
  refine s_VV (pc := 2) mX8_saysText (ci := 8) (a := b0) (As := [.ref b1]) dX8_saysCommon_2 lk_X8_404 in_X8_saysText mo_X8_saysText ⟨by decide, rfl⟩ ⟨by decide, by decide⟩ (Nat.le_of_ble_eq_true rfl) k_b0 (mSV_mono K0 (fun y_1 K0 => ?_))
  refine r_aload_n (pc := 5) dX8_saysCommon_5 rfl ?_
  refine r_aload_n (pc := 6) dX8_saysCommon_6 rfl ?_
  obtain ⟨c_2, g_3, K0⟩ := K0
  refine s_getR (pc := 7) dX8_saysCommon_7 fl_X8_9 rfl k_b0 g_3 ?_
  refine r_iload_n (pc := 10) dX8_saysCommon_10 rfl ?_
  obtain ⟨n_5, e_4, K0⟩ := K0
  obtain ⟨i_6, K0⟩ := K0
  refine s_iald (pc := 11) dX8_saysCommon_11 e_4 i_6 ?_
  refine s_VV (pc := 12) mX8_saysName (ci := 8) (a := b0) (As := [.int (gi y_1 c_2 (l2 : Int32).toNatClampNeg)]) dX8_saysCommon_12 lk_X8_407 in_X8_saysName mo_X8_saysName ⟨by decide, rfl⟩ ⟨by decide, by decide⟩ (Nat.le_of_ble_eq_true rfl) k_b0 (mSV_mono K0 (fun y_7 K0 => ?_))
  refine r_aload_n (pc := 15) dX8_saysCommon_15 rfl ?_
  refine r_bipush (pc := 16) (v := 32) dX8_saysCommon_16 (by decide) ?_
  refine s_VV (pc := 18) mX8_says (ci := 8) (a := b0) (As := [.int 32]) dX8_saysCommon_18 lk_X8_401 in_X8_says mo_X8_says ⟨by decide, rfl⟩ ⟨by decide, by decide⟩ (Nat.le_of_ble_eq_true rfl) k_b0 (mSV_mono K0 (fun y_8 K0 => ?_))
  refine r_aload_n (pc := 21) dX8_saysCommon_21 rfl ?_
  refine r_aload_n (pc := 22) dX8_saysCommon_22 rfl ?_
  obtain ⟨c_9, g_10, K0⟩ := K0
  refine s_getR (pc := 23) dX8_saysCommon_23 fl_X8_9 rfl k_b0 g_10 ?_
  refine r_iload_n (pc := 26) dX8_saysCommon_26 rfl ?_
  refine r_iconst (pc := 27) (v := 1) dX8_saysCommon_27 (by decide) ?_
  refine r_iadd (pc := 28) dX8_saysCommon_28 ?_
  obtain ⟨n_12, e_11, K0⟩ := K0
  obtain ⟨i_13, K0⟩ := K0
  refine s_iald (pc := 29) dX8_saysCommon_29 e_11 i_13 ?_
  refine s_SR (pc := 30) mX8_dayOf (As := [.int (gi y_8 c_9 ((l2 + 1) : Int32).toNatClampNeg)]) dX8_saysCommon_30 lk_X8_178 st_X8_dayOf mo_X8_dayOf ⟨by decide, by decide⟩ (Nat.le_of_ble_eq_true rfl) (mSR_mono K0 (fun r_15 y_14 K0 => ?_))
  refine s_VV (pc := 33) mX8_saysText (ci := 8) (a := b0) (As := [.ref r_15]) dX8_saysCommon_33 lk_X8_404 in_X8_saysText mo_X8_saysText ⟨by decide, rfl⟩ ⟨by decide, by decide⟩ (Nat.le_of_ble_eq_true rfl) k_b0 (mSV_mono K0 (fun y_16 K0 => ?_))
  refine r_aload_n (pc := 36) dX8_saysCommon_36 rfl ?_
  refine r_bipush (pc := 37) (v := 32) dX8_saysCommon_37 (by decide) ?_
  refine s_VV (pc := 39) mX8_says (ci := 8) (a := b0) (As := [.int 32]) dX8_saysCommon_39 lk_X8_401 in_X8_says mo_X8_says ⟨by decide, rfl⟩ ⟨by decide, by decide⟩ (Nat.le_of_ble_eq_true rfl) k_b0 (mSV_mono K0 (fun y_17 K0 => ?_))
  refine r_aload_n (pc := 42) dX8_saysCommon_42 rfl ?_
  refine r_aload_n (pc := 43) dX8_saysCommon_43 rfl ?_
  obtain ⟨c_18, g_19, K0⟩ := K0
  refine s_getR (pc := 44) dX8_saysCommon_44 fl_X8_9 rfl k_b0 g_19 ?_
  refine r_iload_n (pc := 47) dX8_saysCommon_47 rfl ?_
  refine r_iconst (pc := 48) (v := 2) dX8_saysCommon_48 (by decide) ?_
  refine r_iadd (pc := 49) dX8_saysCommon_49 ?_
  obtain ⟨n_21, e_20, K0⟩ := K0
  obtain ⟨i_22, K0⟩ := K0
  refine s_iald (pc := 50) dX8_saysCommon_50 e_20 i_22 ?_
  refine s_VV (pc := 51) mX8_saysNumber (ci := 8) (a := b0) (As := [.int (gi y_17 c_18 ((l2 + 2) : Int32).toNatClampNeg)]) dX8_saysCommon_51 lk_X8_410 in_X8_saysNumber mo_X8_saysNumber ⟨by decide, rfl⟩ ⟨by decide, by decide⟩ (Nat.le_of_ble_eq_true rfl) k_b0 (mSV_mono K0 (fun y_23 K0 => ?_))
  refine r_aload_n (pc := 54) dX8_saysCommon_54 rfl ?_
  refine r_aload_n (pc := 55) dX8_saysCommon_55 rfl ?_
  obtain ⟨c_24, g_25, K0⟩ := K0
  refine s_getR (pc := 56) dX8_saysCommon_56 fl_X8_9 rfl k_b0 g_25 ?_
  refine r_iload_n (pc := 59) dX8_saysCommon_59 rfl ?_
  refine r_iconst (pc := 60) (v := 3) dX8_saysCommon_60 (by decide) ?_
  refine r_iadd (pc := 61) dX8_saysCommon_61 ?_
  obtain ⟨n_27, e_26, K0⟩ := K0
  obtain ⟨i_28, K0⟩ := K0
  refine s_iald (pc := 62) dX8_saysCommon_62 e_26 i_28 ?_
  refine r_if_ne (pc := 63) (tgt := 72) dX8_saysCommon_63 (by decide) (fun q => ?_) (fun q => ?_)
  · have K0 := K0.1 q
    refine r_ldcwS (pc := 72) (j := 32) dX8_saysCommon_72 rfl ?_
    refine s_VV (pc := 75) mX8_saysText (ci := 8) (a := b0) (As := [.ref (mSB + 32)]) dX8_saysCommon_75 lk_X8_404 in_X8_saysText mo_X8_saysText ⟨by decide, rfl⟩ ⟨by decide, by decide⟩ (Nat.le_of_ble_eq_true rfl) k_b0 (mSV_mono K0 (fun y_30 K0 => ?_))
    refine r_aload_n (pc := 78) dX8_saysCommon_78 rfl ?_
    refine r_aload_n (pc := 79) dX8_saysCommon_79 rfl ?_
    obtain ⟨c_31, g_32, K0⟩ := K0
    refine s_getR (pc := 80) dX8_saysCommon_80 fl_X8_9 rfl k_b0 g_32 ?_
    refine r_iload_n (pc := 83) dX8_saysCommon_83 rfl ?_
    refine r_iload_n (pc := 84) dX8_saysCommon_84 rfl ?_
    refine r_iadd (pc := 85) dX8_saysCommon_85 ?_
    obtain ⟨n_34, e_33, K0⟩ := K0
    obtain ⟨i_35, K0⟩ := K0
    refine s_iald (pc := 86) dX8_saysCommon_86 e_33 i_35 ?_
    refine s_VV (pc := 87) mX8_saysNumber (ci := 8) (a := b0) (As := [.int (gi y_30 c_31 ((l2 + l3) : Int32).toNatClampNeg)]) dX8_saysCommon_87 lk_X8_410 in_X8_saysNumber mo_X8_saysNumber ⟨by decide, rfl⟩ ⟨by decide, by decide⟩ (Nat.le_of_ble_eq_true rfl) k_b0 (mSV_mono K0 (fun y_36 K0 => ?_))
    refine r_aload_n (pc := 90) dX8_saysCommon_90 rfl ?_
    refine r_bipush (pc := 91) (v := 45) dX8_saysCommon_91 (by decide) ?_
    refine s_VV (pc := 93) mX8_says (ci := 8) (a := b0) (As := [.int 45]) dX8_saysCommon_93 lk_X8_401 in_X8_says mo_X8_says ⟨by decide, rfl⟩ ⟨by decide, by decide⟩ (Nat.le_of_ble_eq_true rfl) k_b0 (mSV_mono K0 (fun y_37 K0 => ?_))
    refine r_aload_n (pc := 96) dX8_saysCommon_96 rfl ?_
    refine r_aload_n (pc := 97) dX8_saysCommon_97 rfl ?_
    obtain ⟨c_38, g_39, K0⟩ := K0
    refine s_getR (pc := 98) dX8_saysCommon_98 fl_X8_9 rfl k_b0 g_39 ?_
    refine r_iload_n (pc := 101) dX8_saysCommon_101 rfl ?_
    refine r_iload_n (pc := 102) dX8_saysCommon_102 rfl ?_
    refine r_iadd (pc := 103) dX8_saysCommon_103 ?_
    refine r_iconst (pc := 104) (v := 1) dX8_saysCommon_104 (by decide) ?_
    refine r_iadd (pc := 105) dX8_saysCommon_105 ?_
    obtain ⟨n_41, e_40, K0⟩ := K0
    obtain ⟨i_42, K0⟩ := K0
    refine s_iald (pc := 106) dX8_saysCommon_106 e_40 i_42 ?_
    refine s_VV (pc := 107) mX8_saysNumber (ci := 8) (a := b0) (As := [.int (gi y_37 c_38 (((l2 + l3) + 1) : Int32).toNatClampNeg)]) dX8_saysCommon_107 lk_X8_410 in_X8_saysNumber mo_X8_saysNumber ⟨by decide, rfl⟩ ⟨by decide, by decide⟩ (Nat.le_of_ble_eq_true rfl) k_b0 (mSV_mono K0 (fun y_43 K0 => ?_))
    exact s_ret rfl dX8_saysCommon_110 K0
  · have K0 := K0.2 q
    refine r_ldcwS (pc := 66) (j := 29) dX8_saysCommon_66 rfl ?_
    refine r_goto (pc := 69) (tgt := 75) dX8_saysCommon_69 (by decide) ?_
    refine s_VV (pc := 75) mX8_saysText (ci := 8) (a := b0) (As := [.ref (mSB + 29)]) dX8_saysCommon_75 lk_X8_404 in_X8_saysText mo_X8_saysText ⟨by decide, rfl⟩ ⟨by decide, by decide⟩ (Nat.le_of_ble_eq_true rfl) k_b0 (mSV_mono K0 (fun y_44 K0 => ?_))
    refine r_aload_n (pc := 78) dX8_saysCommon_78 rfl ?_
    refine r_aload_n (pc := 79) dX8_saysCommon_79 rfl ?_
    obtain ⟨c_45, g_46, K0⟩ := K0
    refine s_getR (pc := 80) dX8_saysCommon_80 fl_X8_9 rfl k_b0 g_46 ?_
    refine r_iload_n (pc := 83) dX8_saysCommon_83 rfl ?_
    refine r_iload_n (pc := 84) dX8_saysCommon_84 rfl ?_
    refine r_iadd (pc := 85) dX8_saysCommon_85 ?_
    obtain ⟨n_48, e_47, K0⟩ := K0
    obtain ⟨i_49, K0⟩ := K0
    refine s_iald (pc := 86) dX8_saysCommon_86 e_47 i_49 ?_
    refine s_VV (pc := 87) mX8_saysNumber (ci := 8) (a := b0) (As := [.int (gi y_44 c_45 ((l2 + l3) : Int32).toNatClampNeg)]) dX8_saysCommon_87 lk_X8_410 in_X8_saysNumber mo_X8_saysNumber ⟨by decide, rfl⟩ ⟨by decide, by decide⟩ (Nat.le_of_ble_eq_true rfl) k_b0 (mSV_mono K0 (fun y_50 K0 => ?_))
    refine r_aload_n (pc := 90) dX8_saysCommon_90 rfl ?_
    refine r_bipush (pc := 91) (v := 45) dX8_saysCommon_91 (by decide) ?_
    refine s_VV (pc := 93) mX8_says (ci := 8) (a := b0) (As := [.int 45]) dX8_saysCommon_93 lk_X8_401 in_X8_says mo_X8_says ⟨by decide, rfl⟩ ⟨by decide, by decide⟩ (Nat.le_of_ble_eq_true rfl) k_b0 (mSV_mono K0 (fun y_51 K0 => ?_))
    refine r_aload_n (pc := 96) dX8_saysCommon_96 rfl ?_
    refine r_aload_n (pc := 97) dX8_saysCommon_97 rfl ?_
    obtain ⟨c_52, g_53, K0⟩ := K0
    refine s_getR (pc := 98) dX8_saysCommon_98 fl_X8_9 rfl k_b0 g_53 ?_
    refine r_iload_n (pc := 101) dX8_saysCommon_101 rfl ?_
    refine r_iload_n (pc := 102) dX8_saysCommon_102 rfl ?_
    refine r_iadd (pc := 103) dX8_saysCommon_103 ?_
    refine r_iconst (pc := 104) (v := 1) dX8_saysCommon_104 (by decide) ?_
    refine r_iadd (pc := 105) dX8_saysCommon_105 ?_
    obtain ⟨n_55, e_54, K0⟩ := K0
    obtain ⟨i_56, K0⟩ := K0
    refine s_iald (pc := 106) dX8_saysCommon_106 e_54 i_56 ?_
    refine s_VV (pc := 107) mX8_saysNumber (ci := 8) (a := b0) (As := [.int (gi y_51 c_52 (((l2 + l3) + 1) : Int32).toNatClampNeg)]) dX8_saysCommon_107 lk_X8_410 in_X8_saysNumber mo_X8_saysNumber ⟨by decide, rfl⟩ ⟨by decide, by decide⟩ (Nat.le_of_ble_eq_true rfl) k_b0 (mSV_mono K0 (fun y_57 K0 => ?_))
    exact s_ret rfl dX8_saysCommon_110 K0
section
end

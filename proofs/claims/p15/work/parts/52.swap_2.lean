set_option maxHeartbeats 2000000 in
theorem v_X8_changesOver_0 {K : Sh} {x : Cn} {Q : Cn → Prop} {b0 : Nat} {l1 : Int32} {l2 : Int32}   (K0 : GV mX8_changesOver 2 [some (.ref b0), some (.int l1), some (.int l2), some (.int 1), none] [] K x Q) : mSV mX8_changesOver [.ref b0, .int l1, .int l2] K x Q := by
  refine s_V (by decide) (by simp [Value.category]) (Nat.le_of_ble_eq_true rfl) ?_
  show mGM mX8_changesOver 0 [some (.ref b0), some (.int l1), some (.int l2), none, none] [] (hp K x) (PV K Q)
  refine r_iconst (pc := 0) (v := 1) dX8_changesOver_0 (by decide) ?_
  refine r_istore_n (pc := 1) dX8_changesOver_1 (by decide) ?_
  exact r_le (L' := [some (.ref b0), some (.int l1), some (.int l2), some (.int 1), none]) ⟨rfl, ⟨rfl, ⟨rfl, ⟨rfl, trivial⟩⟩⟩⟩ K0
set_option maxHeartbeats 2000000 in
theorem v_X8_changesOver_2 {K : Sh} {x : Cn} {Q : Cn → Prop} {b0 : Nat} {l1 : Int32} {l2 : Int32} {l3 : Int32} {b0_3 : Nat} {n_b0_3 : Nat} (k_b0 : kk K b0 = some (8, 0)) (g_b0_3 : gr x b0 3 = some b0_3) (k_b0_3 : kk K b0_3 = some (20, n_b0_3)) (K0 : (3 < l3 → (Q x)) ∧ (¬ 3 < l3 → ((l24 l1 n_b0_3) ∧ ((l12 l3) ∧ ((l24 l2 n_b0_3) ∧ (mSV mX8_lays [.ref b0, .int l1, .int l3, .int (so (gi x b0_3) (l2 : Int32).toNatClampNeg (l3 : Int32).toNatClampNeg)] K x (fun y_5 => mSV mX8_lays [.ref b0, .int l2, .int l3, .int (so (gi x b0_3) (l1 : Int32).toNatClampNeg (l3 : Int32).toNatClampNeg)] K y_5 (fun y_6 => GV mX8_changesOver 2 [some (.ref b0), some (.int l1), some (.int l2), some (.int (l3 + 1)), none] [] K y_6 Q)))))))) : GV mX8_changesOver 2 [some (.ref b0), some (.int l1), some (.int l2), some (.int l3), none] [] K x Q := by
  show mGM mX8_changesOver 2 [some (.ref b0), some (.int l1), some (.int l2), some (.int l3), none] [] (hp K x) (PV K Q)
  refine r_iload_n (pc := 2) dX8_changesOver_2 rfl ?_
  refine r_iconst (pc := 3) (v := 3) dX8_changesOver_3 (by decide) ?_
  refine r_icmp_gt (pc := 4) (tgt := 41) dX8_changesOver_4 (by decide) (fun q => ?_) (fun q => ?_)
  · have K0 := K0.1 q
    exact s_ret rfl dX8_changesOver_41 K0
  · have K0 := K0.2 q
    refine r_aload_n (pc := 7) dX8_changesOver_7 rfl ?_
    refine r_iload_n (pc := 8) dX8_changesOver_8 rfl ?_
    refine r_iload_n (pc := 9) dX8_changesOver_9 rfl ?_
    obtain ⟨p_2, K0⟩ := K0
    obtain ⟨p_3, K0⟩ := K0
    refine s_VI (pc := 10) mX8_one (ci := 8) (a := b0) (As := [.int l1, .int l3]) dX8_changesOver_10 lk_X8_67 in_X8_one mo_X8_one ⟨by decide, rfl⟩ ⟨by decide, by decide⟩ (Nat.le_of_ble_eq_true rfl) k_b0 (sr_X8_one k_b0 g_b0_3 k_b0_3 p_2 p_3 ?_)
    refine r_istore (pc := 13) dX8_changesOver_13 (by decide) ?_
    refine r_aload_n (pc := 15) (L := [some (.ref b0), some (.int l1), some (.int l2), some (.int l3), some (.int (so (gi x b0_3) (l1 : Int32).toNatClampNeg (l3 : Int32).toNatClampNeg))]) dX8_changesOver_15 rfl ?_
    refine r_iload_n (pc := 16) dX8_changesOver_16 rfl ?_
    refine r_iload_n (pc := 17) dX8_changesOver_17 rfl ?_
    refine r_aload_n (pc := 18) dX8_changesOver_18 rfl ?_
    refine r_iload_n (pc := 19) dX8_changesOver_19 rfl ?_
    refine r_iload_n (pc := 20) dX8_changesOver_20 rfl ?_
    obtain ⟨p_4, K0⟩ := K0
    refine s_VI (pc := 21) mX8_one (ci := 8) (a := b0) (As := [.int l2, .int l3]) dX8_changesOver_21 lk_X8_67 in_X8_one mo_X8_one ⟨by decide, rfl⟩ ⟨by decide, by decide⟩ (Nat.le_of_ble_eq_true rfl) k_b0 (sr_X8_one k_b0 g_b0_3 k_b0_3 p_4 p_3 ?_)
    refine s_VV (pc := 24) mX8_lays (ci := 8) (a := b0) (As := [.int l1, .int l3, .int (so (gi x b0_3) (l2 : Int32).toNatClampNeg (l3 : Int32).toNatClampNeg)]) dX8_changesOver_24 lk_X8_230 in_X8_lays mo_X8_lays ⟨by decide, rfl⟩ ⟨by decide, by decide⟩ (Nat.le_of_ble_eq_true rfl) k_b0 (mSV_mono K0 (fun y_5 K0 => ?_))
    refine r_aload_n (pc := 27) dX8_changesOver_27 rfl ?_
    refine r_iload_n (pc := 28) dX8_changesOver_28 rfl ?_
    refine r_iload_n (pc := 29) dX8_changesOver_29 rfl ?_
    refine r_iload (pc := 30) dX8_changesOver_30 rfl ?_
    refine s_VV (pc := 32) mX8_lays (ci := 8) (a := b0) (As := [.int l2, .int l3, .int (so (gi x b0_3) (l1 : Int32).toNatClampNeg (l3 : Int32).toNatClampNeg)]) dX8_changesOver_32 lk_X8_230 in_X8_lays mo_X8_lays ⟨by decide, rfl⟩ ⟨by decide, by decide⟩ (Nat.le_of_ble_eq_true rfl) k_b0 (mSV_mono K0 (fun y_6 K0 => ?_))
    refine r_iinc (pc := 35) (v := l3 + 1) dX8_changesOver_35 rfl rfl (by decide) ?_
    refine r_goto (pc := 38) (L := [some (.ref b0), some (.int l1), some (.int l2), some (.int (l3 + 1)), some (.int (so (gi x b0_3) (l1 : Int32).toNatClampNeg (l3 : Int32).toNatClampNeg))]) (tgt := 2) dX8_changesOver_38 (by decide) ?_
    exact r_le (L' := [some (.ref b0), some (.int l1), some (.int l2), some (.int (l3 + 1)), none]) ⟨rfl, ⟨rfl, ⟨rfl, ⟨rfl, trivial⟩⟩⟩⟩ K0
section
theorem sp_X8_changesOver {x : Cn} {Q : Cn → Prop} {n s t : Nat} {T : TT} {H : Nat → TT} (r : RS x T n H) (hs : s < 24) (ht : t < 24) (hst : s ≠ t) (q : ∀ y, RFr x y → RS y (swT T s t) n H → Q y) : mSV mX8_changesOver [.ref 717, .int (nI s), .int (nI t)] KW x Q := by
  have key : ∀ c m y, m + c = 4 → 1 ≤ m → RFr x y → RS y (swK T s t m) n H → GV mX8_changesOver 2 [some (.ref 717), some (.int (nI s)), some (.int (nI t)), some (.int (nI m)), none] [] KW y Q := by
    intro c
    induction c with
    | zero =>
      intro m y hm h0 f r1
      have : m = 4 := by omega
      subst this
      exact v_X8_changesOver_2 km r1.1.2.2.1 km1 ⟨fun _ => q y f r1, fun z => absurd (by decide) z⟩
    | succ c ih =>
      intro m y hm h0 f r1
      refine v_X8_changesOver_2 km r1.1.2.2.1 km1 ⟨fun z => absurd z (nI_nlt (a := 3) (b := m) (by omega) (by decide)), fun _ => ⟨l24_nI hs rfl, ⟨nI_pos' (by omega), nI_lt (b := 12) (by omega) (by decide)⟩, l24_nI ht rfl, ?_⟩⟩
      rw [nI_1, nI_clamp (show m < 2 ^ 31 by omega), nI_clamp (show s < 2 ^ 31 by omega), nI_clamp (show t < 2 ^ 31 by omega)]
      refine sp_X8_lays (k := m) r1.1 km1 hs (by omega) ?_
      have r2 := r1.u8 (k := 62 + 12 * s + m) (v := so (gi y 718) t m)
      refine sp_X8_lays (k := m) r2.1 km1 ht (by omega) (ih (m + 1) _ (by omega) (by omega) f.u8.u8 ?_)
      have r3 := r2.u8 (k := 62 + 12 * t + m) (v := so (gi y 718) s m)
      have e : uT (uT (swK T s t m) (62 + 12 * s + m) (so (gi y 718) t m)) (62 + 12 * t + m) (so (gi y 718) s m) = swK T s t (m + 1) := by
        funext i
        rw [r1.2.1, so_swN (by omega) (by omega) (by omega), so_swN (by omega) (by omega) (by omega)]
        unfold uT
        by_cases c1 : i = 62 + 12 * t + m
        · rw [if_pos c1]
          unfold swK so
          rw [if_neg (by omega), if_pos (by omega)]
          congr 1
          omega
        · rw [if_neg c1]
          by_cases c2 : i = 62 + 12 * s + m
          · rw [if_pos c2]
            unfold swK so
            rw [if_pos (by omega)]
            congr 1
            omega
          · rw [if_neg c2]
            unfold swK
            by_cases c3 : 63 + 12 * s ≤ i ∧ i < 62 + 12 * s + m
            · rw [if_pos c3, if_pos (by omega)]
            · rw [if_neg c3, if_neg (show ¬ (63 + 12 * s ≤ i ∧ i < 62 + 12 * s + (m + 1)) by omega)]
              by_cases c4 : 63 + 12 * t ≤ i ∧ i < 62 + 12 * t + m
              · rw [if_pos c4, if_pos (by omega)]
              · rw [if_neg c4, if_neg (by omega)]
      rw [e] at r3
      exact r3
  refine v_X8_changesOver_0 (key 3 1 x (by omega) (by omega) (RFr.rf x) ?_)
  have e : swK T s t 1 = T := by
    funext i
    unfold swK
    rw [if_neg (by omega), if_neg (by omega)]
  rw [e]
  exact r
end
set_option maxHeartbeats 2000000 in
theorem v_X8_canSwap_0 {K : Sh} {x : Cn} {Q : Int32 → Cn → Prop} {b0 : Nat} {l1 : Int32} {l2 : Int32} {b0_3 : Nat} {n_b0_3 : Nat} (k_b0 : kk K b0 = some (8, 0)) (g_b0_3 : gr x b0 3 = some b0_3) (k_b0_3 : kk K b0_3 = some (20, n_b0_3)) (K0 : (l24 l1 n_b0_3) ∧ ((l24 l2 n_b0_3) ∧ ((¬ (so (gi x b0_3) (l1 : Int32).toNatClampNeg 0) = (so (gi x b0_3) (l2 : Int32).toNatClampNeg 0) → (mSV mX8_changesOver [.ref b0, .int l1, .int l2] K x (fun y_4 => gr y_4 b0 3 = some b0_3 ∧ (mSV mX8_lays [.ref b0, .int l2, .int 1, .int 7] K y_4 (fun y_6 => gr y_6 b0 3 = some b0_3 ∧ (mSI mX8_canBeAt [.ref b0, .int l1, .int (so (gi y_6 b0_3) (l1 : Int32).toNatClampNeg 2)] K y_6 (fun r_9 y_8 => mSV mX8_lays [.ref b0, .int l2, .int 1, .int (so (gi y_4 b0_3) (l2 : Int32).toNatClampNeg 1)] K y_8 (fun y_10 => (r_9 = 0 → (mSV mX8_changesOver [.ref b0, .int l1, .int l2] K y_10 (fun y_12 => Q 0 y_12))) ∧ (¬ r_9 = 0 → (gr y_10 b0 3 = some b0_3 ∧ (mSI mX8_canBeAt [.ref b0, .int l2, .int (so (gi y_10 b0_3) (l2 : Int32).toNatClampNeg 2)] K y_10 (fun r_15 y_14 => (r_15 = 0 → (mSV mX8_changesOver [.ref b0, .int l1, .int l2] K y_14 (fun y_17 => Q 0 y_17))) ∧ (¬ r_15 = 0 → (mSV mX8_changesOver [.ref b0, .int l1, .int l2] K y_14 (fun y_18 => Q 1 y_18))))))))))))))) ∧ ((so (gi x b0_3) (l1 : Int32).toNatClampNeg 0) = (so (gi x b0_3) (l2 : Int32).toNatClampNeg 0) → (Q 0 x))))) : mSI mX8_canSwap [.ref b0, .int l1, .int l2] K x Q := by
  refine s_I (by decide) (by simp [Value.category]) (Nat.le_of_ble_eq_true rfl) ?_
  show mGM mX8_canSwap 0 [some (.ref b0), some (.int l1), some (.int l2), none, none] [] (hp K x) (PI K Q)
  refine r_aload_n (pc := 0) dX8_canSwap_0 rfl ?_
  refine r_iload_n (pc := 1) dX8_canSwap_1 rfl ?_
  refine r_iconst (pc := 2) (v := 0) dX8_canSwap_2 (by decide) ?_
  obtain ⟨p_1, K0⟩ := K0
  refine s_VI (pc := 3) mX8_one (ci := 8) (a := b0) (As := [.int l1, .int 0]) dX8_canSwap_3 lk_X8_67 in_X8_one mo_X8_one ⟨by decide, rfl⟩ ⟨by decide, by decide⟩ (Nat.le_of_ble_eq_true rfl) k_b0 (sr_X8_one k_b0 g_b0_3 k_b0_3 p_1 ⟨by decide, by decide⟩ ?_)
  refine r_aload_n (pc := 6) dX8_canSwap_6 rfl ?_
  refine r_iload_n (pc := 7) dX8_canSwap_7 rfl ?_
  refine r_iconst (pc := 8) (v := 0) dX8_canSwap_8 (by decide) ?_
  obtain ⟨p_2, K0⟩ := K0
  refine s_VI (pc := 9) mX8_one (ci := 8) (a := b0) (As := [.int l2, .int 0]) dX8_canSwap_9 lk_X8_67 in_X8_one mo_X8_one ⟨by decide, rfl⟩ ⟨by decide, by decide⟩ (Nat.le_of_ble_eq_true rfl) k_b0 (sr_X8_one k_b0 g_b0_3 k_b0_3 p_2 ⟨by decide, by decide⟩ ?_)
  refine r_icmp_ne (pc := 12) (tgt := 17) dX8_canSwap_12 (by decide) (fun q => ?_) (fun q => ?_)
  · have K0 := K0.1 q
    refine r_aload_n (pc := 17) dX8_canSwap_17 rfl ?_
    refine r_iload_n (pc := 18) dX8_canSwap_18 rfl ?_
    refine r_iload_n (pc := 19) dX8_canSwap_19 rfl ?_
    refine s_VV (pc := 20) mX8_changesOver (ci := 8) (a := b0) (As := [.int l1, .int l2]) dX8_canSwap_20 lk_X8_379 in_X8_changesOver mo_X8_changesOver ⟨by decide, rfl⟩ ⟨by decide, by decide⟩ (Nat.le_of_ble_eq_true rfl) k_b0 (mSV_mono K0 (fun y_4 K0 => ?_))
    refine r_aload_n (pc := 23) dX8_canSwap_23 rfl ?_
    refine r_iload_n (pc := 24) dX8_canSwap_24 rfl ?_
    refine r_iconst (pc := 25) (v := 1) dX8_canSwap_25 (by decide) ?_
    obtain ⟨g_5, K0⟩ := K0
    refine s_VI (pc := 26) mX8_one (ci := 8) (a := b0) (As := [.int l2, .int 1]) dX8_canSwap_26 lk_X8_67 in_X8_one mo_X8_one ⟨by decide, rfl⟩ ⟨by decide, by decide⟩ (Nat.le_of_ble_eq_true rfl) k_b0 (sr_X8_one k_b0 g_5 k_b0_3 p_2 ⟨by decide, by decide⟩ ?_)
    refine r_istore_n (pc := 29) dX8_canSwap_29 (by decide) ?_
    refine r_aload_n (pc := 30) (L := [some (.ref b0), some (.int l1), some (.int l2), some (.int (so (gi y_4 b0_3) (l2 : Int32).toNatClampNeg 1)), none]) dX8_canSwap_30 rfl ?_
    refine r_iload_n (pc := 31) dX8_canSwap_31 rfl ?_
    refine r_iconst (pc := 32) (v := 1) dX8_canSwap_32 (by decide) ?_
    refine r_bipush (pc := 33) (v := 7) dX8_canSwap_33 (by decide) ?_
    refine s_VV (pc := 35) mX8_lays (ci := 8) (a := b0) (As := [.int l2, .int 1, .int 7]) dX8_canSwap_35 lk_X8_230 in_X8_lays mo_X8_lays ⟨by decide, rfl⟩ ⟨by decide, by decide⟩ (Nat.le_of_ble_eq_true rfl) k_b0 (mSV_mono K0 (fun y_6 K0 => ?_))
    refine r_aload_n (pc := 38) dX8_canSwap_38 rfl ?_
    refine r_iload_n (pc := 39) dX8_canSwap_39 rfl ?_
    refine r_aload_n (pc := 40) dX8_canSwap_40 rfl ?_
    refine r_iload_n (pc := 41) dX8_canSwap_41 rfl ?_
    refine r_iconst (pc := 42) (v := 2) dX8_canSwap_42 (by decide) ?_
    obtain ⟨g_7, K0⟩ := K0
    refine s_VI (pc := 43) mX8_one (ci := 8) (a := b0) (As := [.int l1, .int 2]) dX8_canSwap_43 lk_X8_67 in_X8_one mo_X8_one ⟨by decide, rfl⟩ ⟨by decide, by decide⟩ (Nat.le_of_ble_eq_true rfl) k_b0 (sr_X8_one k_b0 g_7 k_b0_3 p_1 ⟨by decide, by decide⟩ ?_)
    refine s_VI (pc := 46) mX8_canBeAt (ci := 8) (a := b0) (As := [.int l1, .int (so (gi y_6 b0_3) (l1 : Int32).toNatClampNeg 2)]) dX8_canSwap_46 lk_X8_360 in_X8_canBeAt mo_X8_canBeAt ⟨by decide, rfl⟩ ⟨by decide, by decide⟩ (Nat.le_of_ble_eq_true rfl) k_b0 (mSI_mono K0 (fun r_9 y_8 K0 => ?_))
    refine r_istore (pc := 49) dX8_canSwap_49 (by decide) ?_
    refine r_aload_n (pc := 51) (L := [some (.ref b0), some (.int l1), some (.int l2), some (.int (so (gi y_4 b0_3) (l2 : Int32).toNatClampNeg 1)), some (.int r_9)]) dX8_canSwap_51 rfl ?_
    refine r_iload_n (pc := 52) dX8_canSwap_52 rfl ?_
    refine r_iconst (pc := 53) (v := 1) dX8_canSwap_53 (by decide) ?_
    refine r_iload_n (pc := 54) dX8_canSwap_54 rfl ?_
    refine s_VV (pc := 55) mX8_lays (ci := 8) (a := b0) (As := [.int l2, .int 1, .int (so (gi y_4 b0_3) (l2 : Int32).toNatClampNeg 1)]) dX8_canSwap_55 lk_X8_230 in_X8_lays mo_X8_lays ⟨by decide, rfl⟩ ⟨by decide, by decide⟩ (Nat.le_of_ble_eq_true rfl) k_b0 (mSV_mono K0 (fun y_10 K0 => ?_))
    refine r_iload (pc := 58) dX8_canSwap_58 rfl ?_
    refine r_if_eq (pc := 60) (tgt := 81) dX8_canSwap_60 (by decide) (fun q => ?_) (fun q => ?_)
    · have K0 := K0.1 q
      refine r_iconst (pc := 81) (v := 0) dX8_canSwap_81 (by decide) ?_
      refine r_istore (pc := 82) dX8_canSwap_82 (by decide) ?_
      refine r_aload_n (pc := 84) (L := [some (.ref b0), some (.int l1), some (.int l2), some (.int (so (gi y_4 b0_3) (l2 : Int32).toNatClampNeg 1)), some (.int 0)]) dX8_canSwap_84 rfl ?_
      refine r_iload_n (pc := 85) dX8_canSwap_85 rfl ?_
      refine r_iload_n (pc := 86) dX8_canSwap_86 rfl ?_
      refine s_VV (pc := 87) mX8_changesOver (ci := 8) (a := b0) (As := [.int l1, .int l2]) dX8_canSwap_87 lk_X8_379 in_X8_changesOver mo_X8_changesOver ⟨by decide, rfl⟩ ⟨by decide, by decide⟩ (Nat.le_of_ble_eq_true rfl) k_b0 (mSV_mono K0 (fun y_12 K0 => ?_))
      refine r_iload (pc := 90) dX8_canSwap_90 rfl ?_
      exact s_zret rfl (by decide) dX8_canSwap_92 K0
    · have K0 := K0.2 q
      refine r_aload_n (pc := 63) dX8_canSwap_63 rfl ?_
      refine r_iload_n (pc := 64) dX8_canSwap_64 rfl ?_
      refine r_aload_n (pc := 65) dX8_canSwap_65 rfl ?_
      refine r_iload_n (pc := 66) dX8_canSwap_66 rfl ?_
      refine r_iconst (pc := 67) (v := 2) dX8_canSwap_67 (by decide) ?_
      obtain ⟨g_13, K0⟩ := K0
      refine s_VI (pc := 68) mX8_one (ci := 8) (a := b0) (As := [.int l2, .int 2]) dX8_canSwap_68 lk_X8_67 in_X8_one mo_X8_one ⟨by decide, rfl⟩ ⟨by decide, by decide⟩ (Nat.le_of_ble_eq_true rfl) k_b0 (sr_X8_one k_b0 g_13 k_b0_3 p_2 ⟨by decide, by decide⟩ ?_)
      refine s_VI (pc := 71) mX8_canBeAt (ci := 8) (a := b0) (As := [.int l2, .int (so (gi y_10 b0_3) (l2 : Int32).toNatClampNeg 2)]) dX8_canSwap_71 lk_X8_360 in_X8_canBeAt mo_X8_canBeAt ⟨by decide, rfl⟩ ⟨by decide, by decide⟩ (Nat.le_of_ble_eq_true rfl) k_b0 (mSI_mono K0 (fun r_15 y_14 K0 => ?_))
      refine r_if_eq (pc := 74) (tgt := 81) dX8_canSwap_74 (by decide) (fun q => ?_) (fun q => ?_)
      · have K0 := K0.1 q
        refine r_iconst (pc := 81) (v := 0) dX8_canSwap_81 (by decide) ?_
        refine r_istore (pc := 82) dX8_canSwap_82 (by decide) ?_
        refine r_aload_n (pc := 84) (L := [some (.ref b0), some (.int l1), some (.int l2), some (.int (so (gi y_4 b0_3) (l2 : Int32).toNatClampNeg 1)), some (.int 0)]) dX8_canSwap_84 rfl ?_
        refine r_iload_n (pc := 85) dX8_canSwap_85 rfl ?_
        refine r_iload_n (pc := 86) dX8_canSwap_86 rfl ?_
        refine s_VV (pc := 87) mX8_changesOver (ci := 8) (a := b0) (As := [.int l1, .int l2]) dX8_canSwap_87 lk_X8_379 in_X8_changesOver mo_X8_changesOver ⟨by decide, rfl⟩ ⟨by decide, by decide⟩ (Nat.le_of_ble_eq_true rfl) k_b0 (mSV_mono K0 (fun y_17 K0 => ?_))
        refine r_iload (pc := 90) dX8_canSwap_90 rfl ?_
        exact s_zret rfl (by decide) dX8_canSwap_92 K0
      · have K0 := K0.2 q
        refine r_iconst (pc := 77) (v := 1) dX8_canSwap_77 (by decide) ?_
        refine r_goto (pc := 78) (tgt := 82) dX8_canSwap_78 (by decide) ?_
        refine r_istore (pc := 82) dX8_canSwap_82 (by decide) ?_
        refine r_aload_n (pc := 84) (L := [some (.ref b0), some (.int l1), some (.int l2), some (.int (so (gi y_4 b0_3) (l2 : Int32).toNatClampNeg 1)), some (.int 1)]) dX8_canSwap_84 rfl ?_
        refine r_iload_n (pc := 85) dX8_canSwap_85 rfl ?_
        refine r_iload_n (pc := 86) dX8_canSwap_86 rfl ?_
        refine s_VV (pc := 87) mX8_changesOver (ci := 8) (a := b0) (As := [.int l1, .int l2]) dX8_canSwap_87 lk_X8_379 in_X8_changesOver mo_X8_changesOver ⟨by decide, rfl⟩ ⟨by decide, by decide⟩ (Nat.le_of_ble_eq_true rfl) k_b0 (mSV_mono K0 (fun y_18 K0 => ?_))
        refine r_iload (pc := 90) dX8_canSwap_90 rfl ?_
        exact s_zret rfl (by decide) dX8_canSwap_92 K0
  · have K0 := K0.2 q
    refine r_iconst (pc := 15) (v := 0) dX8_canSwap_15 (by decide) ?_
    exact s_zret rfl (by decide) dX8_canSwap_16 K0
section
end

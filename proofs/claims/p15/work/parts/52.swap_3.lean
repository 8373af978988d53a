section
theorem sq_X8_canSwap {y : Cn} {Q : Int32 → Cn → Prop} {T : TT} {W C S A N n s t : Nat} {H : Nat → TT} (r : RS y T n H) (F : WF T W C S A N) (hs : s < S) (ht : t < S) (k : ∀ z, RFr y z → RS z T n H → Q (bP (csw T S N s t)) z) : mSI mX8_canSwap [.ref 717, .int (nI s), .int (nI t)] KW y Q := by
  have hS : S ≤ 24 := F.2.2.2.2.2.2.1
  have hW : W ≤ 30 := F.2.2.1
  have hN : N ≤ W := F.2.2.2.2.2.2.2.2.2.2.1
  refine v_X8_canSwap_0 km r.1.2.2.1 km1 ⟨l24_nI (by omega) rfl, l24_nI (by omega) rfl, ?_⟩
  rw [nI_clamp (show s < 2 ^ 31 by omega), nI_clamp (show t < 2 ^ 31 by omega)]
  have hno : ∀ z, RFr y z → RS z T n H → ¬ csw T S N s t → Q 0 z := fun z f r1 c => by
    have := k z f r1
    rw [bP_f c] at this
    exact this
  refine ⟨fun z1 => ?_, fun z1 => hno y (RFr.rf y) r (fun u => u.1 (by rw [r.2.1] at z1; exact z1))⟩
  rw [r.2.1] at z1
  have hst : s ≠ t := fun u => z1 (by rw [u])
  have F' := F.sw hst hs ht
  have ws := F'.2.2.2.2.2.2.2.2.2.2.2.2.1 s hs
  have wt := F'.2.2.2.2.2.2.2.2.2.2.2.2.1 t ht
  have hd := ws.dh
  have hd' := wt.dh
  refine sp_X8_changesOver r (by omega) (by omega) hst (fun v f1 r1 => ⟨r1.1.2.2.1, sp_X8_lays (k := 1) r1.1 km1 (by omega) (by decide) ?_⟩)
  have r2 := r1.u8 (k := 62 + 12 * t + 1) (v := 7)
  have es : ∀ k, k < 12 → so (uT (swT T s t) (62 + 12 * t + 1) 7) s k = so (swT T s t) s k := fun k hk => by rw [so_uT _ _ _ _ _ _ (by decide) hk, if_neg (fun u => hst u.1)]
  refine ⟨r2.1.2.2.1, ?_⟩
  rw [r2.2.1, es 2 (by decide), hd.2.2.2]
  refine sn_X8_canBeAt r2 (W := W) (C := C) (S := S) (N := N) (by rw [uT_ne _ _ (by omega)]; exact F'.1) hW (by rw [uT_ne _ _ (by omega)]; exact F'.2.2.2.2.2.1) hS (by rw [uT_ne _ _ (by omega)]; exact F'.2.2.2.2.2.2.2.2.2.1) hN (by omega) hd.2.2.1 (ws.cg es) ?_
  rw [es 1 (by decide), es 3 (by decide), bas_cg es, hd.2.1, bP_congr (fitC_7 hS (by omega) hd.1 hd.2.2.1)]
  refine sp_X8_lays (k := 1) r2.1 km1 (by omega) (by decide) ?_
  have r3 := r2.u8 (k := 62 + 12 * t + 1) (v := so (gi v 718) t 1)
  have e3 : uT (uT (swT T s t) (62 + 12 * t + 1) 7) (62 + 12 * t + 1) (so (gi v 718) t 1) = swT T s t := by
    rw [r1.2.1]
    funext i
    unfold uT
    by_cases c1 : i = 62 + 12 * t + 1
    · rw [if_pos c1, c1]; rfl
    · rw [if_neg c1, if_neg c1]
  rw [e3] at r3
  have f3 := (f1.u8 (k := 62 + 12 * t + 1) (v := 7)).u8 (k := 62 + 12 * t + 1) (v := so (gi v 718) t 1)
  have back : ∀ (w : Cn) (G : Cn → Prop), RS w (swT T s t) n H → (∀ u, RFr w u → RS u T n H → G u) → mSV mX8_changesOver [.ref 717, .int (nI s), .int (nI t)] KW w G := by
    intro w G rw1 kk1
    refine sp_X8_changesOver rw1 (by omega) (by omega) hst (fun u f r4 => kk1 u f ?_)
    rw [swT_swT hst] at r4
    exact r4
  refine ⟨fun z2 => back _ _ r3 (fun u f r4 => hno u (f3.tr f) r4 (fun g => bP_z.mp z2 (by rw [← hd.2.1]; exact g.2.1))), fun z2 => ⟨r3.1.2.2.1, ?_⟩⟩
  rw [r3.2.1, hd'.2.2.2]
  refine sn_X8_canBeAt r3 (W := W) (C := C) (S := S) (N := N) F'.1 hW F'.2.2.2.2.2.1 hS F'.2.2.2.2.2.2.2.2.2.1 hN (by omega) hd'.2.2.1 wt ?_
  refine ⟨fun z3 => back _ _ r3 (fun u f r4 => hno u (f3.tr f) r4 (fun g => bP_z.mp z3 g.2.2)), fun z3 => back _ _ r3 (fun u f r4 => ?_)⟩
  have yes : csw T S N s t := ⟨z1, by rw [hd.2.1]; exact Classical.byContradiction (fun g => z2 (bP_z.mpr g)), Classical.byContradiction (fun g => z3 (bP_z.mpr g))⟩
  have := k u (f3.tr f) r4
  rw [bP_t yes] at this
  exact this
end
set_option maxHeartbeats 2000000 in
theorem v_X7_swap_0 {K : Sh} {x : Cn} {Q : Int32 → Cn → Prop} {b0 : Nat} {l1 : Int32} {l2 : Int32} {b0_2 : Nat} (k_b0 : kk K b0 = some (7, 0)) (g_b0_2 : gr x b0 2 = some b0_2) (k_b0_2 : kk K b0_2 = some (4, 0)) (K0 : (¬ (0 ≤ l1 ∧ l1 < gi x b0_2 3) → (Q (-2) x)) ∧ ((0 ≤ l1 ∧ l1 < gi x b0_2 3) → (((0 ≤ l2 ∧ l2 < gi x b0_2 3) → (mSI mX7_whySwapFails [.ref b0, .int l1, .int l2] K x (fun r_4 y_3 => (r_4 = 0 → (mSV mX7_remember [.ref b0] K y_3 (fun y_6 => gr y_6 b0 2 = some b0_2 ∧ (∃ c_8 : Nat, gr y_6 b0_2 7 = some c_8 ∧ (∃ n_11 : Nat, kk K c_8 = some (23, n_11) ∧ (vp_in l1 n_11 ∧ (∃ c_13 : Nat, gr y_6 c_8 ((l1 : Int32).toNatClampNeg) = some c_13 ∧ (vp_in l2 n_11 ∧ (∃ c_16 : Nat, gr y_6 c_8 ((l2 : Int32).toNatClampNeg) = some c_16 ∧ (kk K c_13 = some (5, 0) ∧ (mSV mX5_changeOver [.ref c_13, .ref c_16] K y_6 (fun y_19 => Q 1 y_19)))))))))))) ∧ (¬ r_4 = 0 → (Q r_4 y_3))))) ∧ (¬ (0 ≤ l2 ∧ l2 < gi x b0_2 3) → (Q (-2) x))))) : mSI mX7_swap [.ref b0, .int l1, .int l2] K x Q := by
  refine s_I (by decide) (by simp [Value.category]) (Nat.le_of_ble_eq_true rfl) ?_
  show mGM mX7_swap 0 [some (.ref b0), some (.int l1), some (.int l2), none] [] (hp K x) (PI K Q)
  refine r_aload_n (pc := 0) dX7_swap_0 rfl ?_
  refine r_iload_n (pc := 1) dX7_swap_1 rfl ?_
  refine s_VI (pc := 2) mX7_isSeries (ci := 7) (a := b0) (As := [.int l1]) dX7_swap_2 lk_X7_132 in_X7_isSeries mo_X7_isSeries ⟨by decide, rfl⟩ ⟨by decide, by decide⟩ (Nat.le_of_ble_eq_true rfl) k_b0 (sp_X7_isSeries k_b0 g_b0_2 k_b0_2 ?_)
  refine r_if_eq (pc := 5) (tgt := 16) dX7_swap_5 (by decide) (fun q => ?_) (fun q => ?_)
  · have q := (b2i_z _).mp q
    have K0 := K0.1 q
    refine r_bipush (pc := 16) (v := (-2)) dX7_swap_16 (by decide) ?_
    exact s_iret rfl dX7_swap_18 K0
  · have q := b2i_nz q
    have K0 := K0.2 q
    refine r_aload_n (pc := 8) dX7_swap_8 rfl ?_
    refine r_iload_n (pc := 9) dX7_swap_9 rfl ?_
    refine s_VI (pc := 10) mX7_isSeries (ci := 7) (a := b0) (As := [.int l2]) dX7_swap_10 lk_X7_132 in_X7_isSeries mo_X7_isSeries ⟨by decide, rfl⟩ ⟨by decide, by decide⟩ (Nat.le_of_ble_eq_true rfl) k_b0 (sp_X7_isSeries k_b0 g_b0_2 k_b0_2 ?_)
    refine r_if_ne (pc := 13) (tgt := 19) dX7_swap_13 (by decide) (fun q => ?_) (fun q => ?_)
    · have q := b2i_nz q
      have K0 := K0.1 q
      refine r_aload_n (pc := 19) dX7_swap_19 rfl ?_
      refine r_iload_n (pc := 20) dX7_swap_20 rfl ?_
      refine r_iload_n (pc := 21) dX7_swap_21 rfl ?_
      refine s_VI (pc := 22) mX7_whySwapFails (ci := 7) (a := b0) (As := [.int l1, .int l2]) dX7_swap_22 lk_X7_330 in_X7_whySwapFails mo_X7_whySwapFails ⟨by decide, rfl⟩ ⟨by decide, by decide⟩ (Nat.le_of_ble_eq_true rfl) k_b0 (mSI_mono K0 (fun r_4 y_3 K0 => ?_))
      refine r_istore_n (pc := 25) dX7_swap_25 (by decide) ?_
      refine r_iload_n (pc := 26) (L := [some (.ref b0), some (.int l1), some (.int l2), some (.int r_4)]) dX7_swap_26 rfl ?_
      refine r_if_eq (pc := 27) (tgt := 32) dX7_swap_27 (by decide) (fun q => ?_) (fun q => ?_)
      · have K0 := K0.1 q
        refine r_aload_n (pc := 32) dX7_swap_32 rfl ?_
        refine s_VV (pc := 33) mX7_remember (ci := 7) (a := b0) (As := []) dX7_swap_33 lk_X7_333 in_X7_remember mo_X7_remember ⟨by decide, rfl⟩ ⟨by decide, by decide⟩ (Nat.le_of_ble_eq_true rfl) k_b0 (mSV_mono K0 (fun y_6 K0 => ?_))
        refine r_aload_n (pc := 36) dX7_swap_36 rfl ?_
        obtain ⟨g_7, K0⟩ := K0
        refine s_getR (pc := 37) dX7_swap_37 fl_X7_20 rfl k_b0 g_7 ?_
        obtain ⟨c_8, g_9, K0⟩ := K0
        refine s_getR (pc := 40) dX7_swap_40 fl_X7_135 rfl k_b0_2 g_9 ?_
        refine r_iload_n (pc := 43) dX7_swap_43 rfl ?_
        obtain ⟨n_11, e_10, K0⟩ := K0
        obtain ⟨i_12, K0⟩ := K0
        obtain ⟨c_13, g_14, K0⟩ := K0
        refine s_aald (pc := 44) dX7_swap_44 (by decide) rfl e_10 i_12 g_14 ?_
        refine r_aload_n (pc := 45) dX7_swap_45 rfl ?_
        refine s_getR (pc := 46) dX7_swap_46 fl_X7_20 rfl k_b0 g_7 ?_
        refine s_getR (pc := 49) dX7_swap_49 fl_X7_135 rfl k_b0_2 g_9 ?_
        refine r_iload_n (pc := 52) dX7_swap_52 rfl ?_
        obtain ⟨i_15, K0⟩ := K0
        obtain ⟨c_16, g_17, K0⟩ := K0
        refine s_aald (pc := 53) dX7_swap_53 (by decide) rfl e_10 i_15 g_17 ?_
        obtain ⟨e_18, K0⟩ := K0
        refine s_VV (pc := 54) mX5_changeOver (ci := 5) (a := c_13) (As := [.ref c_16]) dX7_swap_54 lk_X7_354 in_X5_changeOver mo_X5_changeOver ⟨by decide, rfl⟩ ⟨by decide, by decide⟩ (Nat.le_of_ble_eq_true rfl) e_18 (mSV_mono K0 (fun y_19 K0 => ?_))
        refine r_iconst (pc := 57) (v := 1) dX7_swap_57 (by decide) ?_
        exact s_iret rfl dX7_swap_58 K0
      · have K0 := K0.2 q
        refine r_iload_n (pc := 30) dX7_swap_30 rfl ?_
        exact s_iret rfl dX7_swap_31 K0
    · have q := (b2i_z _).mp q
      have K0 := K0.2 q
      refine r_bipush (pc := 16) (v := (-2)) dX7_swap_16 (by decide) ?_
      exact s_iret rfl dX7_swap_18 K0
set_option maxHeartbeats 2000000 in
theorem v_X8_swap_0 {K : Sh} {x : Cn} {Q : Int32 → Cn → Prop} {b0 : Nat} {l1 : Int32} {l2 : Int32} {b0_1 : Nat} {n_b0_1 : Nat} {b0_3 : Nat} {n_b0_3 : Nat} (k_b0 : kk K b0 = some (8, 0)) (g_b0_1 : gr x b0 1 = some b0_1) (k_b0_1 : kk K b0_1 = some (20, n_b0_1)) (g_b0_3 : gr x b0 3 = some b0_3) (k_b0_3 : kk K b0_3 = some (20, n_b0_3)) (K0 : vp_in 2 n_b0_1 ∧ ((¬ (0 ≤ l1 ∧ l1 ≤ gi x b0_1 2 - 1) → (Q (-2) x)) ∧ ((0 ≤ l1 ∧ l1 ≤ gi x b0_1 2 - 1) → (((0 ≤ l2 ∧ l2 ≤ gi x b0_1 2 - 1) → ((l24 l1 n_b0_3) ∧ (((so (gi x b0_3) (l1 : Int32).toNatClampNeg 4 = 1) → (Q (-5) x)) ∧ (¬ (so (gi x b0_3) (l1 : Int32).toNatClampNeg 4 = 1) → ((l24 l2 n_b0_3) ∧ ((¬ (so (gi x b0_3) (l2 : Int32).toNatClampNeg 4 = 1) → (mSI mX8_canSwap [.ref b0, .int l1, .int l2] K x (fun r_9 y_8 => (¬ r_9 = 0 → (mSV mX8_keeps [.ref b0] K y_8 (fun y_11 => mSV mX8_changesOver [.ref b0, .int l1, .int l2] K y_11 (fun y_12 => Q 1 y_12)))) ∧ (r_9 = 0 → (Q (-6) y_8))))) ∧ ((so (gi x b0_3) (l2 : Int32).toNatClampNeg 4 = 1) → (Q (-5) x)))))))) ∧ (¬ (0 ≤ l2 ∧ l2 ≤ gi x b0_1 2 - 1) → (Q (-2) x)))))) : mSI mX8_swap [.ref b0, .int l1, .int l2] K x Q := by
  refine s_I (by decide) (by simp [Value.category]) (Nat.le_of_ble_eq_true rfl) ?_
  show mGM mX8_swap 0 [some (.ref b0), some (.int l1), some (.int l2)] [] (hp K x) (PI K Q)
  refine r_aload_n (pc := 0) dX8_swap_0 rfl ?_
  refine r_iload_n (pc := 1) dX8_swap_1 rfl ?_
  obtain ⟨i_1, K0⟩ := K0
  refine s_VI (pc := 2) mX8_isSeries (ci := 8) (a := b0) (As := [.int l1]) dX8_swap_2 lk_X8_273 in_X8_isSeries mo_X8_isSeries ⟨by decide, rfl⟩ ⟨by decide, by decide⟩ (Nat.le_of_ble_eq_true rfl) k_b0 (sp_X8_isSeries k_b0 g_b0_1 k_b0_1 i_1 ?_)
  refine r_if_eq (pc := 5) (tgt := 16) dX8_swap_5 (by decide) (fun q => ?_) (fun q => ?_)
  · have q := (b2i_z _).mp q
    have K0 := K0.1 q
    refine r_bipush (pc := 16) (v := (-2)) dX8_swap_16 (by decide) ?_
    exact s_iret rfl dX8_swap_18 K0
  · have q := b2i_nz q
    have K0 := K0.2 q
    refine r_aload_n (pc := 8) dX8_swap_8 rfl ?_
    refine r_iload_n (pc := 9) dX8_swap_9 rfl ?_
    refine s_VI (pc := 10) mX8_isSeries (ci := 8) (a := b0) (As := [.int l2]) dX8_swap_10 lk_X8_273 in_X8_isSeries mo_X8_isSeries ⟨by decide, rfl⟩ ⟨by decide, by decide⟩ (Nat.le_of_ble_eq_true rfl) k_b0 (sp_X8_isSeries k_b0 g_b0_1 k_b0_1 i_1 ?_)
    refine r_if_ne (pc := 13) (tgt := 19) dX8_swap_13 (by decide) (fun q => ?_) (fun q => ?_)
    · have q := b2i_nz q
      have K0 := K0.1 q
      refine r_aload_n (pc := 19) dX8_swap_19 rfl ?_
      refine r_iload_n (pc := 20) dX8_swap_20 rfl ?_
      obtain ⟨p_4, K0⟩ := K0
      refine s_VI (pc := 21) mX8_isNew (ci := 8) (a := b0) (As := [.int l1]) dX8_swap_21 lk_X8_382 in_X8_isNew mo_X8_isNew ⟨by decide, rfl⟩ ⟨by decide, by decide⟩ (Nat.le_of_ble_eq_true rfl) k_b0 (sr_X8_isNew k_b0 g_b0_3 k_b0_3 p_4 ?_)
      refine r_if_ne (pc := 24) (tgt := 35) dX8_swap_24 (by decide) (fun q => ?_) (fun q => ?_)
      · have q := b2i_nz q
        have K0 := K0.1 q
        refine r_bipush (pc := 35) (v := (-5)) dX8_swap_35 (by decide) ?_
        exact s_iret rfl dX8_swap_37 K0
      · have q := (b2i_z _).mp q
        have K0 := K0.2 q
        refine r_aload_n (pc := 27) dX8_swap_27 rfl ?_
        refine r_iload_n (pc := 28) dX8_swap_28 rfl ?_
        obtain ⟨p_6, K0⟩ := K0
        refine s_VI (pc := 29) mX8_isNew (ci := 8) (a := b0) (As := [.int l2]) dX8_swap_29 lk_X8_382 in_X8_isNew mo_X8_isNew ⟨by decide, rfl⟩ ⟨by decide, by decide⟩ (Nat.le_of_ble_eq_true rfl) k_b0 (sr_X8_isNew k_b0 g_b0_3 k_b0_3 p_6 ?_)
        refine r_if_eq (pc := 32) (tgt := 38) dX8_swap_32 (by decide) (fun q => ?_) (fun q => ?_)
        · have q := (b2i_z _).mp q
          have K0 := K0.1 q
          refine r_aload_n (pc := 38) dX8_swap_38 rfl ?_
          refine r_iload_n (pc := 39) dX8_swap_39 rfl ?_
          refine r_iload_n (pc := 40) dX8_swap_40 rfl ?_
          refine s_VI (pc := 41) mX8_canSwap (ci := 8) (a := b0) (As := [.int l1, .int l2]) dX8_swap_41 lk_X8_385 in_X8_canSwap mo_X8_canSwap ⟨by decide, rfl⟩ ⟨by decide, by decide⟩ (Nat.le_of_ble_eq_true rfl) k_b0 (mSI_mono K0 (fun r_9 y_8 K0 => ?_))
          refine r_if_ne (pc := 44) (tgt := 50) dX8_swap_44 (by decide) (fun q => ?_) (fun q => ?_)
          · have K0 := K0.1 q
            refine r_aload_n (pc := 50) dX8_swap_50 rfl ?_
            refine s_VV (pc := 51) mX8_keeps (ci := 8) (a := b0) (As := []) dX8_swap_51 lk_X8_366 in_X8_keeps mo_X8_keeps ⟨by decide, rfl⟩ ⟨by decide, by decide⟩ (Nat.le_of_ble_eq_true rfl) k_b0 (mSV_mono K0 (fun y_11 K0 => ?_))
            refine r_aload_n (pc := 54) dX8_swap_54 rfl ?_
            refine r_iload_n (pc := 55) dX8_swap_55 rfl ?_
            refine r_iload_n (pc := 56) dX8_swap_56 rfl ?_
            refine s_VV (pc := 57) mX8_changesOver (ci := 8) (a := b0) (As := [.int l1, .int l2]) dX8_swap_57 lk_X8_379 in_X8_changesOver mo_X8_changesOver ⟨by decide, rfl⟩ ⟨by decide, by decide⟩ (Nat.le_of_ble_eq_true rfl) k_b0 (mSV_mono K0 (fun y_12 K0 => ?_))
            refine r_iconst (pc := 60) (v := 1) dX8_swap_60 (by decide) ?_
            exact s_iret rfl dX8_swap_61 K0
          · have K0 := K0.2 q
            refine r_bipush (pc := 47) (v := (-6)) dX8_swap_47 (by decide) ?_
            exact s_iret rfl dX8_swap_49 K0
        · have q := b2i_nz q
          have K0 := K0.2 q
          refine r_bipush (pc := 35) (v := (-5)) dX8_swap_35 (by decide) ?_
          exact s_iret rfl dX8_swap_37 K0
    · have q := (b2i_z _).mp q
      have K0 := K0.2 q
      refine r_bipush (pc := 16) (v := (-2)) dX8_swap_16 (by decide) ?_
      exact s_iret rfl dX8_swap_18 K0
section
theorem sq_X8_swap {y : Cn} {Q : Int32 → Cn → Prop} {T : TT} {W C S A N n : Nat} {H : Nat → TT} {a b : Int32} (r : RS y T n H) (F : WF T W C S A N) (k1 : ¬ ((0 ≤ a ∧ a < nI S) ∧ (0 ≤ b ∧ b < nI S)) → Q (-2) y) (k2 : ∀ s t, a = nI s → b = nI t → s < S → t < S → ¬ (so T s 4 = 0 ∧ so T t 4 = 0) → Q (-5) y) (k3 : ∀ s t, a = nI s → b = nI t → s < S → t < S → so T s 4 = 0 ∧ so T t 4 = 0 → ¬ csw T S N s t → ∀ z, RFr y z → RS z T n H → Q (-6) z) (k4 : ∀ s t, a = nI s → b = nI t → s < S → t < S → so T s 4 = 0 ∧ so T t 4 = 0 → csw T S N s t → ∀ z, RFr y z → RS z (swT T s t) (pn n) (push H n T) → Q 1 z) : mSI mX8_swap [.ref 717, .int a, .int b] KW y Q := by
  have hS : S ≤ 24 := F.2.2.2.2.2.2.1
  refine v_X8_swap_0 km r.1.1 km1 r.1.2.2.1 km1 ⟨v0 (k := 2) (by decide) rfl rfl, ?_⟩
  rw [r.2.1, F.2.2.2.2.2.1, inN' (by omega), inN' (by omega)]
  refine ⟨fun z => k1 (fun u => z u.1), fun z1 => ⟨fun z2 => ?_, fun z => k1 (fun u => z u.2)⟩⟩
  obtain ⟨s, hs, rfl⟩ := inN (by omega) z1
  obtain ⟨t, ht, rfl⟩ := inN (by omega) z2
  have o1 := (F.2.2.2.2.2.2.2.2.2.2.2.2.1 s hs).2.2.2.2.1
  have o2 := (F.2.2.2.2.2.2.2.2.2.2.2.2.1 t ht).2.2.2.2.1
  rw [nI_clamp (show s < 2 ^ 31 by omega), nI_clamp (show t < 2 ^ 31 by omega)]
  refine ⟨l24_nI (by omega) rfl, fun z3 => k2 s t rfl rfl hs ht (fun u => absurd (u.1.symm.trans z3) (by decide)), fun z3 => ⟨l24_nI (by omega) rfl, fun z4 => ?_, fun z4 => k2 s t rfl rfl hs ht (fun u => absurd (u.2.symm.trans z4) (by decide))⟩⟩
  have c0 : so T s 4 = 0 ∧ so T t 4 = 0 := ⟨o1.resolve_right z3, o2.resolve_right z4⟩
  refine sq_X8_canSwap r F hs ht (fun v f1 r1 => ⟨fun z5 => ?_, fun z5 => k3 s t rfl rfl hs ht c0 (bP_z.mp z5) v f1 r1⟩)
  have yes : csw T S N s t := Classical.byContradiction (fun g => z5 (bP_z.mpr g))
  have hst : s ≠ t := fun u => yes.1 (by rw [u])
  exact r1.keeps (fun w f2 r2 => sp_X8_changesOver r2 (by omega) (by omega) hst (fun u f3 r3 => k4 s t rfl rfl hs ht c0 yes u (f1.tr (f2.tr f3)) r3))
end

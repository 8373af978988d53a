set_option maxHeartbeats 2000000 in
theorem v_X8_back_0 {K : Sh} {x : Cn} {Q : Int32 → Cn → Prop} {b0 : Nat} {l1 : Int32} {l2 : Int32} {b0_1 : Nat} {n_b0_1 : Nat} (k_b0 : kk K b0 = some (8, 0)) (g_b0_1 : gr x b0 1 = some b0_1) (k_b0_1 : kk K b0_1 = some (20, n_b0_1)) (K0 : vp_in 2 n_b0_1 ∧ ((¬ (0 ≤ l1 ∧ l1 ≤ gi x b0_1 2 - 1) → (Q (-2) x)) ∧ ((0 ≤ l1 ∧ l1 ≤ gi x b0_1 2 - 1) → (vp_in 0 n_b0_1 ∧ (((0 ≤ l2 ∧ l2 ≤ gi x b0_1 0 - 1) → (vp_in 4 n_b0_1 ∧ ((((gi x b0_1 4) + 4) ≤ l2 → (mSI mX8_openFrom [.ref b0, .int l1, .int l2] K x (fun r_8 y_7 => (¬ r_8 = 0 → (mSV mX8_keeps [.ref b0] K y_7 (fun y_10 => mSV mX8_goes [.ref b0, .int l1, .int r_8, .int 0, .int 4] K y_10 (fun y_11 => Q (nI (cpt r_8)) y_11)))) ∧ (r_8 = 0 → (Q 0 y_7))))) ∧ (¬ ((gi x b0_1 4) + 4) ≤ l2 → (Q (-6) x))))) ∧ (¬ (0 ≤ l2 ∧ l2 ≤ gi x b0_1 0 - 1) → (Q (-2) x))))))) : mSI mX8_back [.ref b0, .int l1, .int l2] K x Q := by
  refine s_I (by decide) (by simp [Value.category]) (Nat.le_of_ble_eq_true rfl) ?_
  show mGM mX8_back 0 [some (.ref b0), some (.int l1), some (.int l2), none] [] (hp K x) (PI K Q)
  refine r_aload_n (pc := 0) dX8_back_0 rfl ?_
  refine r_iload_n (pc := 1) dX8_back_1 rfl ?_
  obtain ⟨i_1, K0⟩ := K0
  refine s_VI (pc := 2) mX8_isSeries (ci := 8) (a := b0) (As := [.int l1]) dX8_back_2 lk_X8_273 in_X8_isSeries mo_X8_isSeries ⟨by decide, rfl⟩ ⟨by decide, by decide⟩ (Nat.le_of_ble_eq_true rfl) k_b0 (sp_X8_isSeries k_b0 g_b0_1 k_b0_1 i_1 ?_)
  refine r_if_eq (pc := 5) (tgt := 16) dX8_back_5 (by decide) (fun q => ?_) (fun q => ?_)
  · have q := (b2i_z _).mp q
    have K0 := K0.1 q
    refine r_bipush (pc := 16) (v := (-2)) dX8_back_16 (by decide) ?_
    exact s_iret rfl dX8_back_18 K0
  · have q := b2i_nz q
    have K0 := K0.2 q
    refine r_aload_n (pc := 8) dX8_back_8 rfl ?_
    refine r_iload_n (pc := 9) dX8_back_9 rfl ?_
    obtain ⟨i_3, K0⟩ := K0
    refine s_VI (pc := 10) mX8_isWeek (ci := 8) (a := b0) (As := [.int l2]) dX8_back_10 lk_X8_57 in_X8_isWeek mo_X8_isWeek ⟨by decide, rfl⟩ ⟨by decide, by decide⟩ (Nat.le_of_ble_eq_true rfl) k_b0 (sp_X8_isWeek k_b0 g_b0_1 k_b0_1 i_3 ?_)
    refine r_if_ne (pc := 13) (tgt := 19) dX8_back_13 (by decide) (fun q => ?_) (fun q => ?_)
    · have q := b2i_nz q
      have K0 := K0.1 q
      refine r_iload_n (pc := 19) dX8_back_19 rfl ?_
      refine r_aload_n (pc := 20) dX8_back_20 rfl ?_
      refine s_getR (pc := 21) dX8_back_21 fl_X8_9 rfl k_b0 g_b0_1 ?_
      refine r_iconst (pc := 24) (v := 4) dX8_back_24 (by decide) ?_
      obtain ⟨i_5, K0⟩ := K0
      refine s_iald (pc := 25) dX8_back_25 k_b0_1 i_5 ?_
      refine r_iconst (pc := 26) (v := 4) dX8_back_26 (by decide) ?_
      refine r_iadd (pc := 27) dX8_back_27 ?_
      refine r_icmp_ge (pc := 28) (tgt := 34) dX8_back_28 (by decide) (fun q => ?_) (fun q => ?_)
      · have K0 := K0.1 q
        refine r_aload_n (pc := 34) dX8_back_34 rfl ?_
        refine r_iload_n (pc := 35) dX8_back_35 rfl ?_
        refine r_iload_n (pc := 36) dX8_back_36 rfl ?_
        refine s_VI (pc := 37) mX8_openFrom (ci := 8) (a := b0) (As := [.int l1, .int l2]) dX8_back_37 lk_X8_373 in_X8_openFrom mo_X8_openFrom ⟨by decide, rfl⟩ ⟨by decide, by decide⟩ (Nat.le_of_ble_eq_true rfl) k_b0 (mSI_mono K0 (fun r_8 y_7 K0 => ?_))
        refine r_istore_n (pc := 40) dX8_back_40 (by decide) ?_
        refine r_iload_n (pc := 41) (L := [some (.ref b0), some (.int l1), some (.int l2), some (.int r_8)]) dX8_back_41 rfl ?_
        refine r_if_ne (pc := 42) (tgt := 47) dX8_back_42 (by decide) (fun q => ?_) (fun q => ?_)
        · have K0 := K0.1 q
          refine r_aload_n (pc := 47) dX8_back_47 rfl ?_
          refine s_VV (pc := 48) mX8_keeps (ci := 8) (a := b0) (As := []) dX8_back_48 lk_X8_366 in_X8_keeps mo_X8_keeps ⟨by decide, rfl⟩ ⟨by decide, by decide⟩ (Nat.le_of_ble_eq_true rfl) k_b0 (mSV_mono K0 (fun y_10 K0 => ?_))
          refine r_aload_n (pc := 51) dX8_back_51 rfl ?_
          refine r_iload_n (pc := 52) dX8_back_52 rfl ?_
          refine r_iload_n (pc := 53) dX8_back_53 rfl ?_
          refine r_iconst (pc := 54) (v := 0) dX8_back_54 (by decide) ?_
          refine r_iconst (pc := 55) (v := 4) dX8_back_55 (by decide) ?_
          refine s_VV (pc := 56) mX8_goes (ci := 8) (a := b0) (As := [.int l1, .int r_8, .int 0, .int 4]) dX8_back_56 lk_X8_369 in_X8_goes mo_X8_goes ⟨by decide, rfl⟩ ⟨by decide, by decide⟩ (Nat.le_of_ble_eq_true rfl) k_b0 (mSV_mono K0 (fun y_11 K0 => ?_))
          refine r_iload_n (pc := 59) dX8_back_59 rfl ?_
          refine s_SI (pc := 60) mX8_bits (As := [.int r_8]) dX8_back_60 lk_X8_296 st_X8_bits mo_X8_bits ⟨by decide, by decide⟩ (Nat.le_of_ble_eq_true rfl) (sp_X8_bits  ?_)
          exact s_iret rfl dX8_back_63 K0
        · have K0 := K0.2 q
          refine r_iconst (pc := 45) (v := 0) dX8_back_45 (by decide) ?_
          exact s_iret rfl dX8_back_46 K0
      · have K0 := K0.2 q
        refine r_bipush (pc := 31) (v := (-6)) dX8_back_31 (by decide) ?_
        exact s_iret rfl dX8_back_33 K0
    · have q := (b2i_z _).mp q
      have K0 := K0.2 q
      refine r_bipush (pc := 16) (v := (-2)) dX8_back_16 (by decide) ?_
      exact s_iret rfl dX8_back_18 K0
section
variable {y : Cn} {Q : Int32 → Cn → Prop} {T : TT} {W C S A N n : Nat} {H : Nat → TT}
theorem sq_X8_back {a b : Int32} (r : RS y T n H) (F : WF T W C S A N) (k1 : ¬ ((0 ≤ a ∧ a < nI S) ∧ (0 ≤ b ∧ b < nI W)) → Q (-2) y) (k2 : (0 ≤ a ∧ a < nI S) → (0 ≤ b ∧ b < nI W) → ¬ nI N + 4 ≤ b → Q (-6) y) (k3 : (0 ≤ a ∧ a < nI S) → (0 ≤ b ∧ b < nI W) → nI N + 4 ≤ b → opf T W a.toNatClampNeg b.toNatClampNeg = 0 → Q 0 y) (k4 : (0 ≤ a ∧ a < nI S) → (0 ≤ b ∧ b < nI W) → nI N + 4 ≤ b → ¬ opf T W a.toNatClampNeg b.toNatClampNeg = 0 → ∀ z, RFr y z → RS z (goT T a.toNatClampNeg (opf T W a.toNatClampNeg b.toNatClampNeg) 0 4) (pn n) (push H n T) → Q (nI (cpt (opf T W a.toNatClampNeg b.toNatClampNeg))) z) : mSI mX8_back [.ref 717, .int a, .int b] KW y Q := by
  have hS : S ≤ 24 := F.2.2.2.2.2.2.1
  have hW : W ≤ 30 := F.2.2.1
  have M := r.1
  refine v_X8_back_0 km M.1 km1 ⟨v0 (k := 2) (by decide) rfl rfl, ?_⟩
  rw [r.2.1, F.2.2.2.2.2.1, F.1, inN' (by omega), inN' (by omega), F.2.2.2.2.2.2.2.2.2.1]
  refine ⟨fun z => k1 (fun u => z u.1), fun z1 => ⟨v0 (k := 0) (by decide) rfl rfl, fun z2 => ⟨v0 (k := 4) (by decide) rfl rfl, fun u => ?_, fun u => k2 z1 z2 u⟩, fun z => k1 (fun u => z u.2)⟩⟩
  have k3 := k3 z1 z2 u
  have k4 := k4 z1 z2 u
  obtain ⟨s, hs, rfl⟩ := inN (by omega) z1
  obtain ⟨w, hw, rfl⟩ := inN (by omega) z2
  rw [nI_clamp (by omega), nI_clamp (by omega)] at k3
  rw [nI_clamp (by omega), nI_clamp (by omega)] at k4
  refine sp_X8_openFrom r F (by omega) (by omega) ⟨fun v => ?_, fun v => k3 v⟩
  exact r.keeps (fun z f1 r1 => sp_X8_goes (k := 0) (o := 4) r1 (by omega) (by decide) (by decide) (by decide) (fun z2 f2 r2 => k4 v z2 (f1.tr f2) r2))
end
set_option maxHeartbeats 2000000 in
theorem v_X7_retime_0 {K : Sh} {x : Cn} {Q : Int32 → Cn → Prop} {b0 : Nat} {l1 : Int32} {l2 : Int32} {b0_2 : Nat} (k_b0 : kk K b0 = some (7, 0)) (g_b0_2 : gr x b0 2 = some b0_2) (k_b0_2 : kk K b0_2 = some (4, 0)) (K0 : (¬ (0 ≤ l1 ∧ l1 < gi x b0_2 3) → (Q (-2) x)) ∧ ((0 ≤ l1 ∧ l1 < gi x b0_2 3) → (((0 < gi x b0_2 0 ∧ 0 ≤ l2 ∧ l2 < 24) → (mSI mX7_canRetime [.ref b0, .int l1, .int l2] K x (fun r_4 y_3 => (¬ r_4 = 0 → (mSV mX7_remember [.ref b0] K y_3 (fun y_6 => gr y_6 b0 2 = some b0_2 ∧ (∃ c_8 : Nat, gr y_6 b0_2 7 = some c_8 ∧ (∃ n_11 : Nat, kk K c_8 = some (23, n_11) ∧ (vp_in l1 n_11 ∧ (∃ c_13 : Nat, gr y_6 c_8 ((l1 : Int32).toNatClampNeg) = some c_13 ∧ (kk K c_13 = some (5, 0) ∧ (Q (gi y_6 c_13 2) (ui y_6 c_13 2 l2)))))))))) ∧ (r_4 = 0 → (Q (-6) y_3))))) ∧ (¬ (0 < gi x b0_2 0 ∧ 0 ≤ l2 ∧ l2 < 24) → (Q (-2) x))))) : mSI mX7_retime [.ref b0, .int l1, .int l2] K x Q := by
  refine s_I (by decide) (by simp [Value.category]) (Nat.le_of_ble_eq_true rfl) ?_
  show mGM mX7_retime 0 [some (.ref b0), some (.int l1), some (.int l2), none] [] (hp K x) (PI K Q)
  refine r_aload_n (pc := 0) dX7_retime_0 rfl ?_
  refine r_iload_n (pc := 1) dX7_retime_1 rfl ?_
  refine s_VI (pc := 2) mX7_isSeries (ci := 7) (a := b0) (As := [.int l1]) dX7_retime_2 lk_X7_132 in_X7_isSeries mo_X7_isSeries ⟨by decide, rfl⟩ ⟨by decide, by decide⟩ (Nat.le_of_ble_eq_true rfl) k_b0 (sp_X7_isSeries k_b0 g_b0_2 k_b0_2 ?_)
  refine r_if_eq (pc := 5) (tgt := 16) dX7_retime_5 (by decide) (fun q => ?_) (fun q => ?_)
  · have q := (b2i_z _).mp q
    have K0 := K0.1 q
    refine r_bipush (pc := 16) (v := (-2)) dX7_retime_16 (by decide) ?_
    exact s_iret rfl dX7_retime_18 K0
  · have q := b2i_nz q
    have K0 := K0.2 q
    refine r_aload_n (pc := 8) dX7_retime_8 rfl ?_
    refine r_iload_n (pc := 9) dX7_retime_9 rfl ?_
    refine s_VI (pc := 10) mX7_isHour (ci := 7) (a := b0) (As := [.int l2]) dX7_retime_10 lk_X7_195 in_X7_isHour mo_X7_isHour ⟨by decide, rfl⟩ ⟨by decide, by decide⟩ (Nat.le_of_ble_eq_true rfl) k_b0 (sp_X7_isHour k_b0 g_b0_2 k_b0_2 ?_)
    refine r_if_ne (pc := 13) (tgt := 19) dX7_retime_13 (by decide) (fun q => ?_) (fun q => ?_)
    · have q := b2i_nz q
      have K0 := K0.1 q
      refine r_aload_n (pc := 19) dX7_retime_19 rfl ?_
      refine r_iload_n (pc := 20) dX7_retime_20 rfl ?_
      refine r_iload_n (pc := 21) dX7_retime_21 rfl ?_
      refine s_VI (pc := 22) mX7_canRetime (ci := 7) (a := b0) (As := [.int l1, .int l2]) dX7_retime_22 lk_X7_327 in_X7_canRetime mo_X7_canRetime ⟨by decide, rfl⟩ ⟨by decide, by decide⟩ (Nat.le_of_ble_eq_true rfl) k_b0 (mSI_mono K0 (fun r_4 y_3 K0 => ?_))
      refine r_if_ne (pc := 25) (tgt := 31) dX7_retime_25 (by decide) (fun q => ?_) (fun q => ?_)
      · have K0 := K0.1 q
        refine r_aload_n (pc := 31) dX7_retime_31 rfl ?_
        refine s_VV (pc := 32) mX7_remember (ci := 7) (a := b0) (As := []) dX7_retime_32 lk_X7_333 in_X7_remember mo_X7_remember ⟨by decide, rfl⟩ ⟨by decide, by decide⟩ (Nat.le_of_ble_eq_true rfl) k_b0 (mSV_mono K0 (fun y_6 K0 => ?_))
        refine r_aload_n (pc := 35) dX7_retime_35 rfl ?_
        obtain ⟨g_7, K0⟩ := K0
        refine s_getR (pc := 36) dX7_retime_36 fl_X7_20 rfl k_b0 g_7 ?_
        obtain ⟨c_8, g_9, K0⟩ := K0
        refine s_getR (pc := 39) dX7_retime_39 fl_X7_135 rfl k_b0_2 g_9 ?_
        refine r_iload_n (pc := 42) dX7_retime_42 rfl ?_
        obtain ⟨n_11, e_10, K0⟩ := K0
        obtain ⟨i_12, K0⟩ := K0
        obtain ⟨c_13, g_14, K0⟩ := K0
        refine s_aald (pc := 43) dX7_retime_43 (by decide) rfl e_10 i_12 g_14 ?_
        obtain ⟨e_15, K0⟩ := K0
        refine s_getI (pc := 44) dX7_retime_44 fl_X7_147 rfl e_15 ?_
        refine r_istore_n (pc := 47) dX7_retime_47 (by decide) ?_
        refine r_aload_n (pc := 48) (L := [some (.ref b0), some (.int l1), some (.int l2), some (.int (gi y_6 c_13 2))]) dX7_retime_48 rfl ?_
        refine s_getR (pc := 49) dX7_retime_49 fl_X7_20 rfl k_b0 g_7 ?_
        refine s_getR (pc := 52) dX7_retime_52 fl_X7_135 rfl k_b0_2 g_9 ?_
        refine r_iload_n (pc := 55) dX7_retime_55 rfl ?_
        refine s_aald (pc := 56) dX7_retime_56 (by decide) rfl e_10 i_12 g_14 ?_
        refine r_iload_n (pc := 57) dX7_retime_57 rfl ?_
        refine s_putI (pc := 58) dX7_retime_58 fl_X7_147 rfl rfl e_15 ?_
        refine r_iload_n (pc := 61) dX7_retime_61 rfl ?_
        exact s_iret rfl dX7_retime_62 K0
      · have K0 := K0.2 q
        refine r_bipush (pc := 28) (v := (-6)) dX7_retime_28 (by decide) ?_
        exact s_iret rfl dX7_retime_30 K0
    · have q := (b2i_z _).mp q
      have K0 := K0.2 q
      refine r_bipush (pc := 16) (v := (-2)) dX7_retime_16 (by decide) ?_
      exact s_iret rfl dX7_retime_18 K0
set_option maxHeartbeats 2000000 in
theorem v_X8_retime_0 {K : Sh} {x : Cn} {Q : Int32 → Cn → Prop} {b0 : Nat} {l1 : Int32} {l2 : Int32} {b0_1 : Nat} {n_b0_1 : Nat} (k_b0 : kk K b0 = some (8, 0)) (g_b0_1 : gr x b0 1 = some b0_1) (k_b0_1 : kk K b0_1 = some (20, n_b0_1)) (K0 : vp_in 2 n_b0_1 ∧ ((¬ (0 ≤ l1 ∧ l1 ≤ gi x b0_1 2 - 1) → (Q (-2) x)) ∧ ((0 ≤ l1 ∧ l1 ≤ gi x b0_1 2 - 1) → (vp_in 0 n_b0_1 ∧ (((0 < gi x b0_1 0 ∧ 0 ≤ l2 ∧ l2 ≤ 23) → (mSI mX8_canRetime [.ref b0, .int l1, .int l2] K x (fun r_6 y_5 => (¬ r_6 = 0 → (mSV mX8_keeps [.ref b0] K y_5 (fun y_8 => ∃ c_9 : Nat, gr y_8 b0 3 = some c_9 ∧ (∃ n_12 : Nat, kk K c_9 = some (20, n_12) ∧ ((l24 l1 n_12) ∧ (mSV mX8_lays [.ref b0, .int l1, .int 2, .int l2] K y_8 (fun y_14 => Q (so (gi y_8 c_9) (l1 : Int32).toNatClampNeg 2) y_14))))))) ∧ (r_6 = 0 → (Q (-6) y_5))))) ∧ (¬ (0 < gi x b0_1 0 ∧ 0 ≤ l2 ∧ l2 ≤ 23) → (Q (-2) x))))))) : mSI mX8_retime [.ref b0, .int l1, .int l2] K x Q := by
  refine s_I (by decide) (by simp [Value.category]) (Nat.le_of_ble_eq_true rfl) ?_
  show mGM mX8_retime 0 [some (.ref b0), some (.int l1), some (.int l2), none] [] (hp K x) (PI K Q)
  refine r_aload_n (pc := 0) dX8_retime_0 rfl ?_
  refine r_iload_n (pc := 1) dX8_retime_1 rfl ?_
  obtain ⟨i_1, K0⟩ := K0
  refine s_VI (pc := 2) mX8_isSeries (ci := 8) (a := b0) (As := [.int l1]) dX8_retime_2 lk_X8_273 in_X8_isSeries mo_X8_isSeries ⟨by decide, rfl⟩ ⟨by decide, by decide⟩ (Nat.le_of_ble_eq_true rfl) k_b0 (sp_X8_isSeries k_b0 g_b0_1 k_b0_1 i_1 ?_)
  refine r_if_eq (pc := 5) (tgt := 16) dX8_retime_5 (by decide) (fun q => ?_) (fun q => ?_)
  · have q := (b2i_z _).mp q
    have K0 := K0.1 q
    refine r_bipush (pc := 16) (v := (-2)) dX8_retime_16 (by decide) ?_
    exact s_iret rfl dX8_retime_18 K0
  · have q := b2i_nz q
    have K0 := K0.2 q
    refine r_aload_n (pc := 8) dX8_retime_8 rfl ?_
    refine r_iload_n (pc := 9) dX8_retime_9 rfl ?_
    obtain ⟨i_3, K0⟩ := K0
    refine s_VI (pc := 10) mX8_isHour (ci := 8) (a := b0) (As := [.int l2]) dX8_retime_10 lk_X8_64 in_X8_isHour mo_X8_isHour ⟨by decide, rfl⟩ ⟨by decide, by decide⟩ (Nat.le_of_ble_eq_true rfl) k_b0 (sp_X8_isHour k_b0 g_b0_1 k_b0_1 i_3 ?_)
    refine r_if_ne (pc := 13) (tgt := 19) dX8_retime_13 (by decide) (fun q => ?_) (fun q => ?_)
    · have q := b2i_nz q
      have K0 := K0.1 q
      refine r_aload_n (pc := 19) dX8_retime_19 rfl ?_
      refine r_iload_n (pc := 20) dX8_retime_20 rfl ?_
      refine r_iload_n (pc := 21) dX8_retime_21 rfl ?_
      refine s_VI (pc := 22) mX8_canRetime (ci := 8) (a := b0) (As := [.int l1, .int l2]) dX8_retime_22 lk_X8_357 in_X8_canRetime mo_X8_canRetime ⟨by decide, rfl⟩ ⟨by decide, by decide⟩ (Nat.le_of_ble_eq_true rfl) k_b0 (mSI_mono K0 (fun r_6 y_5 K0 => ?_))
      refine r_if_ne (pc := 25) (tgt := 31) dX8_retime_25 (by decide) (fun q => ?_) (fun q => ?_)
      · have K0 := K0.1 q
        refine r_aload_n (pc := 31) dX8_retime_31 rfl ?_
        refine s_VV (pc := 32) mX8_keeps (ci := 8) (a := b0) (As := []) dX8_retime_32 lk_X8_366 in_X8_keeps mo_X8_keeps ⟨by decide, rfl⟩ ⟨by decide, by decide⟩ (Nat.le_of_ble_eq_true rfl) k_b0 (mSV_mono K0 (fun y_8 K0 => ?_))
        refine r_aload_n (pc := 35) dX8_retime_35 rfl ?_
        refine r_iload_n (pc := 36) dX8_retime_36 rfl ?_
        refine r_iconst (pc := 37) (v := 2) dX8_retime_37 (by decide) ?_
        obtain ⟨c_9, g_10, K0⟩ := K0
        obtain ⟨n_12, e_11, K0⟩ := K0
        obtain ⟨p_13, K0⟩ := K0
        refine s_VI (pc := 38) mX8_one (ci := 8) (a := b0) (As := [.int l1, .int 2]) dX8_retime_38 lk_X8_67 in_X8_one mo_X8_one ⟨by decide, rfl⟩ ⟨by decide, by decide⟩ (Nat.le_of_ble_eq_true rfl) k_b0 (sr_X8_one k_b0 g_10 e_11 p_13 ⟨by decide, by decide⟩ ?_)
        refine r_istore_n (pc := 41) dX8_retime_41 (by decide) ?_
        refine r_aload_n (pc := 42) (L := [some (.ref b0), some (.int l1), some (.int l2), some (.int (so (gi y_8 c_9) (l1 : Int32).toNatClampNeg 2))]) dX8_retime_42 rfl ?_
        refine r_iload_n (pc := 43) dX8_retime_43 rfl ?_
        refine r_iconst (pc := 44) (v := 2) dX8_retime_44 (by decide) ?_
        refine r_iload_n (pc := 45) dX8_retime_45 rfl ?_
        refine s_VV (pc := 46) mX8_lays (ci := 8) (a := b0) (As := [.int l1, .int 2, .int l2]) dX8_retime_46 lk_X8_230 in_X8_lays mo_X8_lays ⟨by decide, rfl⟩ ⟨by decide, by decide⟩ (Nat.le_of_ble_eq_true rfl) k_b0 (mSV_mono K0 (fun y_14 K0 => ?_))
        refine r_iload_n (pc := 49) dX8_retime_49 rfl ?_
        exact s_iret rfl dX8_retime_50 K0
      · have K0 := K0.2 q
        refine r_bipush (pc := 28) (v := (-6)) dX8_retime_28 (by decide) ?_
        exact s_iret rfl dX8_retime_30 K0
    · have q := (b2i_z _).mp q
      have K0 := K0.2 q
      refine r_bipush (pc := 16) (v := (-2)) dX8_retime_16 (by decide) ?_
      exact s_iret rfl dX8_retime_18 K0
section
variable {y : Cn} {Q : Int32 → Cn → Prop} {T : TT} {W C S A N n : Nat} {H : Nat → TT}
theorem sq_X8_retime {a b : Int32} (r : RS y T n H) (F : WF T W C S A N) (k1 : ¬ ((0 ≤ a ∧ a < nI S) ∧ (0 < nI W ∧ 0 ≤ b ∧ b < 24)) → Q (-2) y) (k2 : (0 ≤ a ∧ a < nI S) → (0 < nI W ∧ 0 ≤ b ∧ b < 24) → bP (crt T S W N a.toNatClampNeg b.toNatClampNeg) = 0 → Q (-6) y) (k3 : (0 ≤ a ∧ a < nI S) → (0 < nI W ∧ 0 ≤ b ∧ b < 24) → ¬ bP (crt T S W N a.toNatClampNeg b.toNatClampNeg) = 0 → ∀ z, RFr y z → RS z (uT T (62 + 12 * a.toNatClampNeg + 2) b) (pn n) (push H n T) → Q (so T a.toNatClampNeg 2) z) : mSI mX8_retime [.ref 717, .int a, .int b] KW y Q := by
  have hS : S ≤ 24 := F.2.2.2.2.2.2.1
  have hW : W ≤ 30 := F.2.2.1
  have M := r.1
  refine v_X8_retime_0 km M.1 km1 ⟨v0 (k := 2) (by decide) rfl rfl, ?_⟩
  rw [r.2.1, F.2.2.2.2.2.1, F.1, inN' (by omega), d24]
  refine ⟨fun z => k1 (fun u => z u.1), fun z1 => ⟨v0 (k := 0) (by decide) rfl rfl, fun z2 => ?_, fun z => k1 (fun u => z u.2)⟩⟩
  have k2 := k2 z1 z2
  have k3 := k3 z1 z2
  obtain ⟨s, hs, rfl⟩ := inN (by omega) z1
  obtain ⟨h, hh, rfl⟩ := inN (n := 24) (by decide) z2.2
  rw [nI_clamp (by omega), nI_clamp (by omega)] at k2
  rw [nI_clamp (by omega), nI_clamp (by omega)] at k3
  refine sp_X8_canRetime M (by rw [r.2.1]; exact F) hs hh ?_
  rw [r.2.1]
  refine ⟨fun u => ?_, fun u => k2 u⟩
  refine r.keeps (fun z f1 r1 => ⟨718, r1.1.2.2.1, 518, km1, l24_nI (by omega) rfl, ?_⟩)
  rw [r1.2.1, nI_clamp (by omega)]
  exact sp_X8_lays (k := 2) r1.1 km1 (by omega) (by decide) (k3 u _ f1.u8 r1.u8)
end
set_option maxHeartbeats 2000000 in
theorem v_X7_hand_0 {K : Sh} {x : Cn} {Q : Int32 → Cn → Prop} {b0 : Nat} {l1 : Int32} {l2 : Int32} {b0_2 : Nat} {b0_3 : Nat} {b0_2_7 : Nat} {n_b0_2_7 : Nat} (k_b0 : kk K b0 = some (7, 0)) (g_b0_2 : gr x b0 2 = some b0_2) (k_b0_2 : kk K b0_2 = some (4, 0)) (g_b0_3 : gr x b0 3 = some b0_3) (k_b0_3 : kk K b0_3 = some (1, 0)) (g_b0_2_7 : gr x b0_2 7 = some b0_2_7) (k_b0_2_7 : kk K b0_2_7 = some (23, n_b0_2_7)) (K0 : (¬ (0 ≤ l1 ∧ l1 < gi x b0_2 3) → (Q (-2) x)) ∧ ((0 ≤ l1 ∧ l1 < gi x b0_2 3) → (((0 ≤ l2 ∧ l2 < gi x b0_3 0) → (vp_in l1 n_b0_2_7 ∧ (∃ c_4 : Nat, gr x b0_2_7 ((l1 : Int32).toNatClampNeg) = some c_4 ∧ (kk K c_4 = some (5, 0) ∧ (((gi x c_4 4) = 0 → ((¬ (gi x c_4 0) = l2 → (mSV mX7_remember [.ref b0] K x (fun y_9 => Q (gi y_9 c_4 0) (ui y_9 c_4 0 l2)))) ∧ ((gi x c_4 0) = l2 → (Q (-6) x)))) ∧ (¬ (gi x c_4 4) = 0 → (Q (-5) x))))))) ∧ (¬ (0 ≤ l2 ∧ l2 < gi x b0_3 0) → (Q (-2) x))))) : mSI mX7_hand [.ref b0, .int l1, .int l2] K x Q := by
  refine s_I (by decide) (by simp [Value.category]) (Nat.le_of_ble_eq_true rfl) ?_
  show mGM mX7_hand 0 [some (.ref b0), some (.int l1), some (.int l2), none, none] [] (hp K x) (PI K Q)
  refine r_aload_n (pc := 0) dX7_hand_0 rfl ?_
  refine r_iload_n (pc := 1) dX7_hand_1 rfl ?_
  refine s_VI (pc := 2) mX7_isSeries (ci := 7) (a := b0) (As := [.int l1]) dX7_hand_2 lk_X7_132 in_X7_isSeries mo_X7_isSeries ⟨by decide, rfl⟩ ⟨by decide, by decide⟩ (Nat.le_of_ble_eq_true rfl) k_b0 (sp_X7_isSeries k_b0 g_b0_2 k_b0_2 ?_)
  refine r_if_eq (pc := 5) (tgt := 16) dX7_hand_5 (by decide) (fun q => ?_) (fun q => ?_)
  · have q := (b2i_z _).mp q
    have K0 := K0.1 q
    refine r_bipush (pc := 16) (v := (-2)) dX7_hand_16 (by decide) ?_
    exact s_iret rfl dX7_hand_18 K0
  · have q := b2i_nz q
    have K0 := K0.2 q
    refine r_aload_n (pc := 8) dX7_hand_8 rfl ?_
    refine r_iload_n (pc := 9) dX7_hand_9 rfl ?_
    refine s_VI (pc := 10) mX7_isCarrier (ci := 7) (a := b0) (As := [.int l2]) dX7_hand_10 lk_X7_109 in_X7_isCarrier mo_X7_isCarrier ⟨by decide, rfl⟩ ⟨by decide, by decide⟩ (Nat.le_of_ble_eq_true rfl) k_b0 (sp_X7_isCarrier k_b0 g_b0_3 k_b0_3 ?_)
    refine r_if_ne (pc := 13) (tgt := 19) dX7_hand_13 (by decide) (fun q => ?_) (fun q => ?_)
    · have q := b2i_nz q
      have K0 := K0.1 q
      refine r_aload_n (pc := 19) dX7_hand_19 rfl ?_
      refine s_getR (pc := 20) dX7_hand_20 fl_X7_20 rfl k_b0 g_b0_2 ?_
      refine s_getR (pc := 23) dX7_hand_23 fl_X7_135 rfl k_b0_2 g_b0_2_7 ?_
      refine r_iload_n (pc := 26) dX7_hand_26 rfl ?_
      obtain ⟨i_3, K0⟩ := K0
      obtain ⟨c_4, g_5, K0⟩ := K0
      refine s_aald (pc := 27) dX7_hand_27 (by decide) rfl k_b0_2_7 i_3 g_5 ?_
      refine r_astore_n (pc := 28) dX7_hand_28 (by decide) ?_
      refine r_aload_n (pc := 29) (L := [some (.ref b0), some (.int l1), some (.int l2), some (.ref c_4), none]) dX7_hand_29 rfl ?_
      obtain ⟨e_6, K0⟩ := K0
      refine s_getI (pc := 30) dX7_hand_30 fl_X7_153 rfl e_6 ?_
      refine r_if_eq (pc := 33) (tgt := 39) dX7_hand_33 (by decide) (fun q => ?_) (fun q => ?_)
      · have K0 := K0.1 q
        refine r_aload_n (pc := 39) dX7_hand_39 rfl ?_
        refine s_getI (pc := 40) dX7_hand_40 fl_X7_139 rfl e_6 ?_
        refine r_iload_n (pc := 43) dX7_hand_43 rfl ?_
        refine r_icmp_ne (pc := 44) (tgt := 50) dX7_hand_44 (by decide) (fun q => ?_) (fun q => ?_)
        · have K0 := K0.1 q
          refine r_aload_n (pc := 50) dX7_hand_50 rfl ?_
          refine s_VV (pc := 51) mX7_remember (ci := 7) (a := b0) (As := []) dX7_hand_51 lk_X7_333 in_X7_remember mo_X7_remember ⟨by decide, rfl⟩ ⟨by decide, by decide⟩ (Nat.le_of_ble_eq_true rfl) k_b0 (mSV_mono K0 (fun y_9 K0 => ?_))
          refine r_aload_n (pc := 54) dX7_hand_54 rfl ?_
          refine s_getI (pc := 55) dX7_hand_55 fl_X7_139 rfl e_6 ?_
          refine r_istore (pc := 58) dX7_hand_58 (by decide) ?_
          refine r_aload_n (pc := 60) (L := [some (.ref b0), some (.int l1), some (.int l2), some (.ref c_4), some (.int (gi y_9 c_4 0))]) dX7_hand_60 rfl ?_
          refine r_iload_n (pc := 61) dX7_hand_61 rfl ?_
          refine s_putI (pc := 62) dX7_hand_62 fl_X7_139 rfl rfl e_6 ?_
          refine r_iload (pc := 65) dX7_hand_65 rfl ?_
          exact s_iret rfl dX7_hand_67 K0
        · have K0 := K0.2 q
          refine r_bipush (pc := 47) (v := (-6)) dX7_hand_47 (by decide) ?_
          exact s_iret rfl dX7_hand_49 K0
      · have K0 := K0.2 q
        refine r_bipush (pc := 36) (v := (-5)) dX7_hand_36 (by decide) ?_
        exact s_iret rfl dX7_hand_38 K0
    · have q := (b2i_z _).mp q
      have K0 := K0.2 q
      refine r_bipush (pc := 16) (v := (-2)) dX7_hand_16 (by decide) ?_
      exact s_iret rfl dX7_hand_18 K0

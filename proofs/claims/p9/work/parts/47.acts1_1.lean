set_option maxHeartbeats 2000000 in
theorem v_X8_excuse_0 {K : Sh} {x : Cn} {Q : Int32 → Cn → Prop} {b0 : Nat} {l1 : Int32} {l2 : Int32} {b0_1 : Nat} {n_b0_1 : Nat} (k_b0 : kk K b0 = some (8, 0)) (g_b0_1 : gr x b0 1 = some b0_1) (k_b0_1 : kk K b0_1 = some (20, n_b0_1)) (K0 : vp_in 2 n_b0_1 ∧ ((¬ (0 ≤ l1 ∧ l1 ≤ gi x b0_1 2 - 1) → (Q (-2) x)) ∧ ((0 ≤ l1 ∧ l1 ≤ gi x b0_1 2 - 1) → (vp_in 0 n_b0_1 ∧ (((0 ≤ l2 ∧ l2 ≤ gi x b0_1 0 - 1) → (mSI mX8_stateOf [.ref b0, .int l1, .int l2] K x (fun r_6 y_5 => (r_6 = 0 → (mSV mX8_keeps [.ref b0] K y_5 (fun y_8 => mSV mX8_goes [.ref b0, .int l1, .int (1 <<< (l2 &&& 31)), .int r_6, .int 3] K y_8 (fun y_9 => ∃ c_10 : Nat, gr y_9 b0 3 = some c_10 ∧ (∃ n_13 : Nat, kk K c_10 = some (20, n_13) ∧ ((l24 l1 n_13) ∧ (Q (nI (cpt (so (gi y_9 c_10) (l1 : Int32).toNatClampNeg 8 ||| so (gi y_9 c_10) (l1 : Int32).toNatClampNeg 10))) y_9))))))) ∧ (¬ r_6 = 0 → ((r_6 = 2 → (mSV mX8_keeps [.ref b0] K y_5 (fun y_16 => mSV mX8_goes [.ref b0, .int l1, .int (1 <<< (l2 &&& 31)), .int r_6, .int 3] K y_16 (fun y_17 => ∃ c_18 : Nat, gr y_17 b0 3 = some c_18 ∧ (∃ n_21 : Nat, kk K c_18 = some (20, n_21) ∧ ((l24 l1 n_21) ∧ (Q (nI (cpt (so (gi y_17 c_18) (l1 : Int32).toNatClampNeg 8 ||| so (gi y_17 c_18) (l1 : Int32).toNatClampNeg 10))) y_17))))))) ∧ (¬ r_6 = 2 → (Q (-6) y_5))))))) ∧ (¬ (0 ≤ l2 ∧ l2 ≤ gi x b0_1 0 - 1) → (Q (-2) x))))))) : mSI mX8_excuse [.ref b0, .int l1, .int l2] K x Q := by
  refine s_I (by decide) (by simp [Value.category]) (Nat.le_of_ble_eq_true rfl) ?_
  show mGM mX8_excuse 0 [some (.ref b0), some (.int l1), some (.int l2), none] [] (hp K x) (PI K Q)
  refine r_aload_n (pc := 0) dX8_excuse_0 rfl ?_
  refine r_iload_n (pc := 1) dX8_excuse_1 rfl ?_
  obtain ⟨i_1, K0⟩ := K0
  refine s_VI (pc := 2) mX8_isSeries (ci := 8) (a := b0) (As := [.int l1]) dX8_excuse_2 lk_X8_273 in_X8_isSeries mo_X8_isSeries ⟨by decide, rfl⟩ ⟨by decide, by decide⟩ (Nat.le_of_ble_eq_true rfl) k_b0 (sp_X8_isSeries k_b0 g_b0_1 k_b0_1 i_1 ?_)
  refine r_if_eq (pc := 5) (tgt := 16) dX8_excuse_5 (by decide) (fun q => ?_) (fun q => ?_)
  · have q := (b2i_z _).mp q
    have K0 := K0.1 q
    refine r_bipush (pc := 16) (v := (-2)) dX8_excuse_16 (by decide) ?_
    exact s_iret rfl dX8_excuse_18 K0
  · have q := b2i_nz q
    have K0 := K0.2 q
    refine r_aload_n (pc := 8) dX8_excuse_8 rfl ?_
    refine r_iload_n (pc := 9) dX8_excuse_9 rfl ?_
    obtain ⟨i_3, K0⟩ := K0
    refine s_VI (pc := 10) mX8_isWeek (ci := 8) (a := b0) (As := [.int l2]) dX8_excuse_10 lk_X8_57 in_X8_isWeek mo_X8_isWeek ⟨by decide, rfl⟩ ⟨by decide, by decide⟩ (Nat.le_of_ble_eq_true rfl) k_b0 (sp_X8_isWeek k_b0 g_b0_1 k_b0_1 i_3 ?_)
    refine r_if_ne (pc := 13) (tgt := 19) dX8_excuse_13 (by decide) (fun q => ?_) (fun q => ?_)
    · have q := b2i_nz q
      have K0 := K0.1 q
      refine r_aload_n (pc := 19) dX8_excuse_19 rfl ?_
      refine r_iload_n (pc := 20) dX8_excuse_20 rfl ?_
      refine r_iload_n (pc := 21) dX8_excuse_21 rfl ?_
      refine s_VI (pc := 22) mX8_stateOf (ci := 8) (a := b0) (As := [.int l1, .int l2]) dX8_excuse_22 lk_X8_278 in_X8_stateOf mo_X8_stateOf ⟨by decide, rfl⟩ ⟨by decide, by decide⟩ (Nat.le_of_ble_eq_true rfl) k_b0 (mSI_mono K0 (fun r_6 y_5 K0 => ?_))
      refine r_istore_n (pc := 25) dX8_excuse_25 (by decide) ?_
      refine r_iload_n (pc := 26) (L := [some (.ref b0), some (.int l1), some (.int l2), some (.int r_6)]) dX8_excuse_26 rfl ?_
      refine r_if_eq (pc := 27) (tgt := 38) dX8_excuse_27 (by decide) (fun q => ?_) (fun q => ?_)
      · have K0 := K0.1 q
        refine r_aload_n (pc := 38) dX8_excuse_38 rfl ?_
        refine s_VV (pc := 39) mX8_keeps (ci := 8) (a := b0) (As := []) dX8_excuse_39 lk_X8_366 in_X8_keeps mo_X8_keeps ⟨by decide, rfl⟩ ⟨by decide, by decide⟩ (Nat.le_of_ble_eq_true rfl) k_b0 (mSV_mono K0 (fun y_8 K0 => ?_))
        refine r_aload_n (pc := 42) dX8_excuse_42 rfl ?_
        refine r_iload_n (pc := 43) dX8_excuse_43 rfl ?_
        refine r_iconst (pc := 44) (v := 1) dX8_excuse_44 (by decide) ?_
        refine r_iload_n (pc := 45) dX8_excuse_45 rfl ?_
        refine r_ishl (pc := 46) dX8_excuse_46 ?_
        refine r_iload_n (pc := 47) dX8_excuse_47 rfl ?_
        refine r_iconst (pc := 48) (v := 3) dX8_excuse_48 (by decide) ?_
        refine s_VV (pc := 49) mX8_goes (ci := 8) (a := b0) (As := [.int l1, .int (1 <<< (l2 &&& 31)), .int r_6, .int 3]) dX8_excuse_49 lk_X8_369 in_X8_goes mo_X8_goes ⟨by decide, rfl⟩ ⟨by decide, by decide⟩ (Nat.le_of_ble_eq_true rfl) k_b0 (mSV_mono K0 (fun y_9 K0 => ?_))
        refine r_aload_n (pc := 52) dX8_excuse_52 rfl ?_
        refine r_iload_n (pc := 53) dX8_excuse_53 rfl ?_
        obtain ⟨c_10, g_11, K0⟩ := K0
        obtain ⟨n_13, e_12, K0⟩ := K0
        obtain ⟨p_14, K0⟩ := K0
        refine s_VI (pc := 54) mX8_goodOf (ci := 8) (a := b0) (As := [.int l1]) dX8_excuse_54 lk_X8_299 in_X8_goodOf mo_X8_goodOf ⟨by decide, rfl⟩ ⟨by decide, by decide⟩ (Nat.le_of_ble_eq_true rfl) k_b0 (sr_X8_goodOf k_b0 g_11 e_12 p_14 ?_)
        exact s_iret rfl dX8_excuse_57 K0
      · have K0 := K0.2 q
        refine r_iload_n (pc := 30) dX8_excuse_30 rfl ?_
        refine r_iconst (pc := 31) (v := 2) dX8_excuse_31 (by decide) ?_
        refine r_icmp_eq (pc := 32) (tgt := 38) dX8_excuse_32 (by decide) (fun q => ?_) (fun q => ?_)
        · have K0 := K0.1 q
          refine r_aload_n (pc := 38) dX8_excuse_38 rfl ?_
          refine s_VV (pc := 39) mX8_keeps (ci := 8) (a := b0) (As := []) dX8_excuse_39 lk_X8_366 in_X8_keeps mo_X8_keeps ⟨by decide, rfl⟩ ⟨by decide, by decide⟩ (Nat.le_of_ble_eq_true rfl) k_b0 (mSV_mono K0 (fun y_16 K0 => ?_))
          refine r_aload_n (pc := 42) dX8_excuse_42 rfl ?_
          refine r_iload_n (pc := 43) dX8_excuse_43 rfl ?_
          refine r_iconst (pc := 44) (v := 1) dX8_excuse_44 (by decide) ?_
          refine r_iload_n (pc := 45) dX8_excuse_45 rfl ?_
          refine r_ishl (pc := 46) dX8_excuse_46 ?_
          refine r_iload_n (pc := 47) dX8_excuse_47 rfl ?_
          refine r_iconst (pc := 48) (v := 3) dX8_excuse_48 (by decide) ?_
          refine s_VV (pc := 49) mX8_goes (ci := 8) (a := b0) (As := [.int l1, .int (1 <<< (l2 &&& 31)), .int r_6, .int 3]) dX8_excuse_49 lk_X8_369 in_X8_goes mo_X8_goes ⟨by decide, rfl⟩ ⟨by decide, by decide⟩ (Nat.le_of_ble_eq_true rfl) k_b0 (mSV_mono K0 (fun y_17 K0 => ?_))
          refine r_aload_n (pc := 52) dX8_excuse_52 rfl ?_
          refine r_iload_n (pc := 53) dX8_excuse_53 rfl ?_
          obtain ⟨c_18, g_19, K0⟩ := K0
          obtain ⟨n_21, e_20, K0⟩ := K0
          obtain ⟨p_22, K0⟩ := K0
          refine s_VI (pc := 54) mX8_goodOf (ci := 8) (a := b0) (As := [.int l1]) dX8_excuse_54 lk_X8_299 in_X8_goodOf mo_X8_goodOf ⟨by decide, rfl⟩ ⟨by decide, by decide⟩ (Nat.le_of_ble_eq_true rfl) k_b0 (sr_X8_goodOf k_b0 g_19 e_20 p_22 ?_)
          exact s_iret rfl dX8_excuse_57 K0
        · have K0 := K0.2 q
          refine r_bipush (pc := 35) (v := (-6)) dX8_excuse_35 (by decide) ?_
          exact s_iret rfl dX8_excuse_37 K0
    · have q := (b2i_z _).mp q
      have K0 := K0.2 q
      refine r_bipush (pc := 16) (v := (-2)) dX8_excuse_16 (by decide) ?_
      exact s_iret rfl dX8_excuse_18 K0
section
variable {y : Cn} {Q : Int32 → Cn → Prop} {T : TT} {W C S A N n : Nat} {H : Nat → TT}
theorem sq_X8_excuse {a b : Int32} (r : RS y T n H) (F : WF T W C S A N) (k1 : ¬ ((0 ≤ a ∧ a < nI S) ∧ (0 ≤ b ∧ b < nI W)) → Q (-2) y) (k2 : (0 ≤ a ∧ a < nI S) → (0 ≤ b ∧ b < nI W) → ¬ stt T a.toNatClampNeg b.toNatClampNeg = 0 → ¬ stt T a.toNatClampNeg b.toNatClampNeg = 2 → Q (-6) y) (k3 : (0 ≤ a ∧ a < nI S) → (0 ≤ b ∧ b < nI W) → ∀ k, k = 0 ∨ k = 2 → stt T a.toNatClampNeg b.toNatClampNeg = nI k → ∀ z, RFr y z → RS z (goT T a.toNatClampNeg (wb b) k 3) (pn n) (push H n T) → Q (nI (cpt (so (goT T a.toNatClampNeg (wb b) k 3) a.toNatClampNeg 8 ||| so (goT T a.toNatClampNeg (wb b) k 3) a.toNatClampNeg 10))) z) : mSI mX8_excuse [.ref 717, .int a, .int b] KW y Q := by
  have hS : S ≤ 24 := F.2.2.2.2.2.2.1
  have hW : W ≤ 30 := F.2.2.1
  have M := r.1
  refine v_X8_excuse_0 km M.1 km1 ⟨v0 (k := 2) (by decide) rfl rfl, ?_⟩
  rw [r.2.1, F.2.2.2.2.2.1, F.1, inN' (by omega), inN' (by omega)]
  refine ⟨fun z => k1 (fun u => z u.1), fun z1 => ⟨v0 (k := 0) (by decide) rfl rfl, fun z2 => ?_, fun z => k1 (fun u => z u.2)⟩⟩
  have k2 := k2 z1 z2
  have k3 := k3 z1 z2
  obtain ⟨s, hs, rfl⟩ := inN (by omega) z1
  obtain ⟨w, hw, rfl⟩ := inN (by omega) z2
  rw [nI_clamp (by omega), nI_clamp (by omega)] at k2
  rw [nI_clamp (by omega), nI_clamp (by omega)] at k3
  refine sp_X8_stateOf (by omega) (by omega) M km1 ?_
  rw [r.2.1]
  have go : ∀ k, k = 0 ∨ k = 2 → stt T s w = nI k → mSV mX8_keeps [.ref 717] KW y (fun y_8 => mSV mX8_goes [.ref 717, .int (nI s), .int (1 <<< (nI w &&& 31)), .int (stt T s w), .int 3] KW y_8 (fun y_9 => ∃ c_10, gr y_9 717 3 = some c_10 ∧ (∃ n_13, kk KW c_10 = some (20, n_13) ∧ ((l24 (nI s) n_13) ∧ (Q (nI (cpt (so (gi y_9 c_10) (nI s).toNatClampNeg 8 ||| so (gi y_9 c_10) (nI s).toNatClampNeg 10))) y_9))))) := by
    intro k hk e
    rw [e]
    refine r.keeps (fun z f1 r1 => sp_X8_goes (o := 3) r1 (by omega) (by omega) (by decide) (by omega) (fun v f2 r2 => ⟨718, r2.1.2.2.1, 518, km1, l24_nI (by omega) rfl, ?_⟩))
    rw [r2.2.1, nI_clamp (by omega)]
    exact k3 k hk e v (f1.tr f2) r2
  exact ⟨fun u => go 0 (Or.inl rfl) u, fun u => ⟨fun u2 => go 2 (Or.inr rfl) u2, fun u2 => k2 u u2⟩⟩
end
set_option maxHeartbeats 2000000 in
theorem v_X7_fly_0 {K : Sh} {x : Cn} {Q : Int32 → Cn → Prop} {b0 : Nat} {l1 : Int32} {l2 : Int32} {b0_2 : Nat} {b0_2_7 : Nat} {n_b0_2_7 : Nat} (k_b0 : kk K b0 = some (7, 0)) (g_b0_2 : gr x b0 2 = some b0_2) (k_b0_2 : kk K b0_2 = some (4, 0)) (g_b0_2_7 : gr x b0_2 7 = some b0_2_7) (k_b0_2_7 : kk K b0_2_7 = some (23, n_b0_2_7)) (K0 : (¬ (0 ≤ l1 ∧ l1 < gi x b0_2 3) → (Q (-2) x)) ∧ ((0 ≤ l1 ∧ l1 < gi x b0_2 3) → (((0 ≤ l2 ∧ l2 < gi x b0_2 0) → (vp_in l1 n_b0_2_7 ∧ (∃ c_4 : Nat, gr x b0_2_7 ((l1 : Int32).toNatClampNeg) = some c_4 ∧ (kk K c_4 = some (5, 0) ∧ (mSI mX5_stateOf [.ref c_4, .int l2] K x (fun r_8 y_7 => (r_8 = 2 → (gr y_7 b0 2 = some b0_2 ∧ (((gi y_7 b0_2 1) ≤ l2 → (mSV mX7_remember [.ref b0] K y_7 (fun y_12 => ∀ r_13 : Int32, r_13 = gi (ui y_12 c_4 9 ((gi y_12 c_4 9) &&& ((1 <<< (l2 &&& 31)) ^^^ (-1)))) c_4 10 → (Q r_8 (ui (ui y_12 c_4 9 ((gi y_12 c_4 9) &&& ((1 <<< (l2 &&& 31)) ^^^ (-1)))) c_4 10 (r_13 &&& ((1 <<< (l2 &&& 31)) ^^^ (-1)))))))) ∧ (¬ (gi y_7 b0_2 1) ≤ l2 → (Q (-6) y_7))))) ∧ (¬ r_8 = 2 → ((¬ r_8 = 3 → (Q (-6) y_7)) ∧ (r_8 = 3 → (gr y_7 b0 2 = some b0_2 ∧ (((gi y_7 b0_2 1) ≤ l2 → (mSV mX7_remember [.ref b0] K y_7 (fun y_18 => ∀ r_19 : Int32, r_19 = gi (ui y_18 c_4 9 ((gi y_18 c_4 9) &&& ((1 <<< (l2 &&& 31)) ^^^ (-1)))) c_4 10 → (Q r_8 (ui (ui y_18 c_4 9 ((gi y_18 c_4 9) &&& ((1 <<< (l2 &&& 31)) ^^^ (-1)))) c_4 10 (r_19 &&& ((1 <<< (l2 &&& 31)) ^^^ (-1)))))))) ∧ (¬ (gi y_7 b0_2 1) ≤ l2 → (Q (-6) y_7))))))))))))) ∧ (¬ (0 ≤ l2 ∧ l2 < gi x b0_2 0) → (Q (-2) x))))) : mSI mX7_fly [.ref b0, .int l1, .int l2] K x Q := by
  refine s_I (by decide) (by simp [Value.category]) (Nat.le_of_ble_eq_true rfl) ?_
  show mGM mX7_fly 0 [some (.ref b0), some (.int l1), some (.int l2), none, none] [] (hp K x) (PI K Q)
  refine r_aload_n (pc := 0) dX7_fly_0 rfl ?_
  refine r_iload_n (pc := 1) dX7_fly_1 rfl ?_
  refine s_VI (pc := 2) mX7_isSeries (ci := 7) (a := b0) (As := [.int l1]) dX7_fly_2 lk_X7_132 in_X7_isSeries mo_X7_isSeries ⟨by decide, rfl⟩ ⟨by decide, by decide⟩ (Nat.le_of_ble_eq_true rfl) k_b0 (sp_X7_isSeries k_b0 g_b0_2 k_b0_2 ?_)
  refine r_if_eq (pc := 5) (tgt := 16) dX7_fly_5 (by decide) (fun q => ?_) (fun q => ?_)
  · have q := (b2i_z _).mp q
    have K0 := K0.1 q
    refine r_bipush (pc := 16) (v := (-2)) dX7_fly_16 (by decide) ?_
    exact s_iret rfl dX7_fly_18 K0
  · have q := b2i_nz q
    have K0 := K0.2 q
    refine r_aload_n (pc := 8) dX7_fly_8 rfl ?_
    refine r_iload_n (pc := 9) dX7_fly_9 rfl ?_
    refine s_VI (pc := 10) mX7_isWeek (ci := 7) (a := b0) (As := [.int l2]) dX7_fly_10 lk_X7_167 in_X7_isWeek mo_X7_isWeek ⟨by decide, rfl⟩ ⟨by decide, by decide⟩ (Nat.le_of_ble_eq_true rfl) k_b0 (sp_X7_isWeek k_b0 g_b0_2 k_b0_2 ?_)
    refine r_if_ne (pc := 13) (tgt := 19) dX7_fly_13 (by decide) (fun q => ?_) (fun q => ?_)
    · have q := b2i_nz q
      have K0 := K0.1 q
      refine r_aload_n (pc := 19) dX7_fly_19 rfl ?_
      refine s_getR (pc := 20) dX7_fly_20 fl_X7_20 rfl k_b0 g_b0_2 ?_
      refine s_getR (pc := 23) dX7_fly_23 fl_X7_135 rfl k_b0_2 g_b0_2_7 ?_
      refine r_iload_n (pc := 26) dX7_fly_26 rfl ?_
      obtain ⟨i_3, K0⟩ := K0
      obtain ⟨c_4, g_5, K0⟩ := K0
      refine s_aald (pc := 27) dX7_fly_27 (by decide) rfl k_b0_2_7 i_3 g_5 ?_
      refine r_astore_n (pc := 28) dX7_fly_28 (by decide) ?_
      refine r_aload_n (pc := 29) (L := [some (.ref b0), some (.int l1), some (.int l2), some (.ref c_4), none]) dX7_fly_29 rfl ?_
      refine r_iload_n (pc := 30) dX7_fly_30 rfl ?_
      obtain ⟨e_6, K0⟩ := K0
      refine s_VI (pc := 31) mX5_stateOf (ci := 5) (a := c_4) (As := [.int l2]) dX7_fly_31 lk_X7_170 in_X5_stateOf mo_X5_stateOf ⟨by decide, rfl⟩ ⟨by decide, by decide⟩ (Nat.le_of_ble_eq_true rfl) e_6 (mSI_mono K0 (fun r_8 y_7 K0 => ?_))
      refine r_istore (pc := 34) dX7_fly_34 (by decide) ?_
      refine r_iload (pc := 36) (L := [some (.ref b0), some (.int l1), some (.int l2), some (.ref c_4), some (.int r_8)]) dX7_fly_36 rfl ?_
      refine r_iconst (pc := 38) (v := 2) dX7_fly_38 (by decide) ?_
      refine r_icmp_eq (pc := 39) (tgt := 48) dX7_fly_39 (by decide) (fun q => ?_) (fun q => ?_)
      · have K0 := K0.1 q
        refine r_iload_n (pc := 48) dX7_fly_48 rfl ?_
        refine r_aload_n (pc := 49) dX7_fly_49 rfl ?_
        obtain ⟨g_10, K0⟩ := K0
        refine s_getR (pc := 50) dX7_fly_50 fl_X7_20 rfl k_b0 g_10 ?_
        refine s_getI (pc := 53) dX7_fly_53 fl_X7_103 rfl k_b0_2 ?_
        refine r_icmp_ge (pc := 56) (tgt := 62) dX7_fly_56 (by decide) (fun q => ?_) (fun q => ?_)
        · have K0 := K0.1 q
          refine r_aload_n (pc := 62) dX7_fly_62 rfl ?_
          refine s_VV (pc := 63) mX7_remember (ci := 7) (a := b0) (As := []) dX7_fly_63 lk_X7_333 in_X7_remember mo_X7_remember ⟨by decide, rfl⟩ ⟨by decide, by decide⟩ (Nat.le_of_ble_eq_true rfl) k_b0 (mSV_mono K0 (fun y_12 K0 => ?_))
          refine r_aload_n (pc := 66) dX7_fly_66 rfl ?_
          refine r_dup (pc := 67) dX7_fly_67 rfl ?_
          refine s_getI (pc := 68) dX7_fly_68 fl_X7_266 rfl e_6 ?_
          refine r_iconst (pc := 71) (v := 1) dX7_fly_71 (by decide) ?_
          refine r_iload_n (pc := 72) dX7_fly_72 rfl ?_
          refine r_ishl (pc := 73) dX7_fly_73 ?_
          refine r_iconst (pc := 74) (v := (-1)) dX7_fly_74 (by decide) ?_
          refine r_ixor (pc := 75) dX7_fly_75 ?_
          refine r_iand (pc := 76) dX7_fly_76 ?_
          refine s_putI (pc := 77) dX7_fly_77 fl_X7_266 rfl rfl e_6 ?_
          refine r_aload_n (pc := 80) dX7_fly_80 rfl ?_
          refine r_dup (pc := 81) dX7_fly_81 rfl ?_
          refine s_getI (pc := 82) dX7_fly_82 fl_X7_336 rfl e_6 ?_
          obtain ⟨r_13, w_14⟩ : ∃ z : Int32, z = gi (ui y_12 c_4 9 ((gi y_12 c_4 9) &&& ((1 <<< (l2 &&& 31)) ^^^ (-1)))) c_4 10 := ⟨_, rfl⟩
          rw [← w_14]
          have K0 := K0 r_13 w_14
          refine r_iconst (pc := 85) (v := 1) dX7_fly_85 (by decide) ?_
          refine r_iload_n (pc := 86) dX7_fly_86 rfl ?_
          refine r_ishl (pc := 87) dX7_fly_87 ?_
          refine r_iconst (pc := 88) (v := (-1)) dX7_fly_88 (by decide) ?_
          refine r_ixor (pc := 89) dX7_fly_89 ?_
          refine r_iand (pc := 90) dX7_fly_90 ?_
          refine s_putI (pc := 91) dX7_fly_91 fl_X7_336 rfl rfl e_6 ?_
          refine r_iload (pc := 94) dX7_fly_94 rfl ?_
          exact s_iret rfl dX7_fly_96 K0
        · have K0 := K0.2 q
          refine r_bipush (pc := 59) (v := (-6)) dX7_fly_59 (by decide) ?_
          exact s_iret rfl dX7_fly_61 K0
      · have K0 := K0.2 q
        refine r_iload (pc := 42) dX7_fly_42 rfl ?_
        refine r_iconst (pc := 44) (v := 3) dX7_fly_44 (by decide) ?_
        refine r_icmp_ne (pc := 45) (tgt := 59) dX7_fly_45 (by decide) (fun q => ?_) (fun q => ?_)
        · have K0 := K0.1 q
          refine r_bipush (pc := 59) (v := (-6)) dX7_fly_59 (by decide) ?_
          exact s_iret rfl dX7_fly_61 K0
        · have K0 := K0.2 q
          refine r_iload_n (pc := 48) dX7_fly_48 rfl ?_
          refine r_aload_n (pc := 49) dX7_fly_49 rfl ?_
          obtain ⟨g_16, K0⟩ := K0
          refine s_getR (pc := 50) dX7_fly_50 fl_X7_20 rfl k_b0 g_16 ?_
          refine s_getI (pc := 53) dX7_fly_53 fl_X7_103 rfl k_b0_2 ?_
          refine r_icmp_ge (pc := 56) (tgt := 62) dX7_fly_56 (by decide) (fun q => ?_) (fun q => ?_)
          · have K0 := K0.1 q
            refine r_aload_n (pc := 62) dX7_fly_62 rfl ?_
            refine s_VV (pc := 63) mX7_remember (ci := 7) (a := b0) (As := []) dX7_fly_63 lk_X7_333 in_X7_remember mo_X7_remember ⟨by decide, rfl⟩ ⟨by decide, by decide⟩ (Nat.le_of_ble_eq_true rfl) k_b0 (mSV_mono K0 (fun y_18 K0 => ?_))
            refine r_aload_n (pc := 66) dX7_fly_66 rfl ?_
            refine r_dup (pc := 67) dX7_fly_67 rfl ?_
            refine s_getI (pc := 68) dX7_fly_68 fl_X7_266 rfl e_6 ?_
            refine r_iconst (pc := 71) (v := 1) dX7_fly_71 (by decide) ?_
            refine r_iload_n (pc := 72) dX7_fly_72 rfl ?_
            refine r_ishl (pc := 73) dX7_fly_73 ?_
            refine r_iconst (pc := 74) (v := (-1)) dX7_fly_74 (by decide) ?_
            refine r_ixor (pc := 75) dX7_fly_75 ?_
            refine r_iand (pc := 76) dX7_fly_76 ?_
            refine s_putI (pc := 77) dX7_fly_77 fl_X7_266 rfl rfl e_6 ?_
            refine r_aload_n (pc := 80) dX7_fly_80 rfl ?_
            refine r_dup (pc := 81) dX7_fly_81 rfl ?_
            refine s_getI (pc := 82) dX7_fly_82 fl_X7_336 rfl e_6 ?_
            obtain ⟨r_19, w_20⟩ : ∃ z : Int32, z = gi (ui y_18 c_4 9 ((gi y_18 c_4 9) &&& ((1 <<< (l2 &&& 31)) ^^^ (-1)))) c_4 10 := ⟨_, rfl⟩
            rw [← w_20]
            have K0 := K0 r_19 w_20
            refine r_iconst (pc := 85) (v := 1) dX7_fly_85 (by decide) ?_
            refine r_iload_n (pc := 86) dX7_fly_86 rfl ?_
            refine r_ishl (pc := 87) dX7_fly_87 ?_
            refine r_iconst (pc := 88) (v := (-1)) dX7_fly_88 (by decide) ?_
            refine r_ixor (pc := 89) dX7_fly_89 ?_
            refine r_iand (pc := 90) dX7_fly_90 ?_
            refine s_putI (pc := 91) dX7_fly_91 fl_X7_336 rfl rfl e_6 ?_
            refine r_iload (pc := 94) dX7_fly_94 rfl ?_
            exact s_iret rfl dX7_fly_96 K0
          · have K0 := K0.2 q
            refine r_bipush (pc := 59) (v := (-6)) dX7_fly_59 (by decide) ?_
            exact s_iret rfl dX7_fly_61 K0
    · have q := (b2i_z _).mp q
      have K0 := K0.2 q
      refine r_bipush (pc := 16) (v := (-2)) dX7_fly_16 (by decide) ?_
      exact s_iret rfl dX7_fly_18 K0

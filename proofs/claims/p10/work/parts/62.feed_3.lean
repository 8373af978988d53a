section
theorem sp_X8_packed {x : Cn} {Q : Int32 → Cn → Prop} {t fr to : Nat} (M : MRf x t) (h : ltr (gi x 720) fr to) (hto : to ≤ 1200) (hft : fr ≤ to) (k : Q (nI (pkv (gi x 720) fr to)) x) : mSI mX8_packed [.ref 717, .int (nI fr), .int (nI to)] KW x Q := by
  have key : ∀ r i, i + r = 6 → GI mX8_packed 5 [some (.ref 717), some (.int (nI fr)), some (.int (nI to)), some (.int (nI (pkn (gi x 720) fr to i))), some (.int (nI i))] [] KW x Q := by
    intro r
    induction r with
    | zero =>
      intro i hi
      have : i = 6 := by omega
      subst this
      exact v_X8_packed_5 km M.2.2.2.1 km720 ⟨fun _ => k, fun z => absurd (Int32.le_refl _) z⟩
    | succ r ih =>
      intro i hi
      have pn := pkn_lt h i (by omega)
      have p5 : 27 ^ i ≤ 27 ^ 5 := Nat.pow_le_pow_right (by decide) (by omega)
      have p6 : (27 : Nat) ^ 5 = 14348907 := by decide
      have i2 : nI fr + nI i = nI (fr + i) := nI_add fr i
      have m27 : (27 : Int32) * nI (pkn (gi x 720) fr to i) = nI (27 * pkn (gi x 720) fr to i) := pk_mul 27 _
      refine v_X8_packed_5 km M.2.2.2.1 km720 ⟨fun z => absurd z (nI_ge (b := 6) (by omega) (by decide)), fun _ => ?_⟩
      rw [i2, nI_1, nI_clamp (by omega), nI_leI (by omega) (by omega), m27]
      refine ⟨fun z => ?_, fun z => ⟨vp_in_nI (by omega) (by decide), fun q hq => ?_⟩⟩
      · have e : nI (27 * pkn (gi x 720) fr to i) + 0 = nI (pkn (gi x 720) fr to (i + 1)) := by
          show nI (27 * pkn (gi x 720) fr to i) + nI 0 = nI (27 * pkn (gi x 720) fr to i + bd (gi x 720) fr to i)
          rw [nI_add]
          congr 1
          unfold bd
          rw [if_neg (by omega)]
        rw [e]
        exact ih (i + 1) (by omega)
      · obtain ⟨m, m1, m2, m3⟩ := h (fr + i) (by omega) (by omega)
        have e : q = nI (pkn (gi x 720) fr to (i + 1)) := by
          show q = nI (27 * pkn (gi x 720) fr to i + bd (gi x 720) fr to i)
          rw [hq, m3, let_v m1 m2, nI_add]
          congr 1
          unfold bd
          rw [if_pos (by omega), m3, nI_clamp (by omega)]
        rw [e]
        exact ih (i + 1) (by omega)
  exact v_X8_packed_0 (key 6 0 (by omega))
end
set_option maxHeartbeats 2000000 in
theorem v_X7_find_0 {K : Sh} {x : Cn} {Q : Int32 → Cn → Prop} {b0 : Nat} {b0_2 : Nat} (k_b0 : kk K b0 = some (7, 0)) (g_b0_2 : gr x b0 2 = some b0_2) (k_b0_2 : kk K b0_2 = some (4, 0)) (K0 : (¬ (0 < gi (ui x b0 1 0) b0_2 0) → (Q (-2) (ui x b0 1 0))) ∧ ((0 < gi (ui x b0 1 0) b0_2 0) → (((1 ≤ (gi x b0 1) ∧ (gi x b0 1) ≤ 6) → (GI mX7_find 32 [some (.ref b0), some (.int (gi x b0 1)), some (.int 0)] [] K (ui x b0 1 0) Q)) ∧ (¬ (1 ≤ (gi x b0 1) ∧ (gi x b0 1) ≤ 6) → (Q (-2) (ui x b0 1 0)))))) : mSI mX7_find [.ref b0] K x Q := by
  refine s_I (by decide) (by simp [Value.category]) (Nat.le_of_ble_eq_true rfl) ?_
  show mGM mX7_find 0 [some (.ref b0), none, none] [] (hp K x) (PI K Q)
  refine r_aload_n (pc := 0) dX7_find_0 rfl ?_
  refine s_getI (pc := 1) dX7_find_1 fl_X7_13 rfl k_b0 ?_
  refine r_istore_n (pc := 4) dX7_find_4 (by decide) ?_
  refine r_aload_n (pc := 5) (L := [some (.ref b0), some (.int (gi x b0 1)), none]) dX7_find_5 rfl ?_
  refine r_iconst (pc := 6) (v := 0) dX7_find_6 (by decide) ?_
  refine s_putI (pc := 7) dX7_find_7 fl_X7_13 rfl rfl k_b0 ?_
  refine r_aload_n (pc := 10) dX7_find_10 rfl ?_
  refine s_VI (pc := 11) mX7_hasText (ci := 7) (a := b0) (As := []) dX7_find_11 lk_X7_121 in_X7_hasText mo_X7_hasText ⟨by decide, rfl⟩ ⟨by decide, by decide⟩ (Nat.le_of_ble_eq_true rfl) k_b0 (sp_X7_hasText k_b0 g_b0_2 k_b0_2 ?_)
  refine r_if_eq (pc := 14) (tgt := 27) dX7_find_14 (by decide) (fun q => ?_) (fun q => ?_)
  · have q := (b2i_z _).mp q
    have K0 := K0.1 q
    refine r_bipush (pc := 27) (v := (-2)) dX7_find_27 (by decide) ?_
    exact s_iret rfl dX7_find_29 K0
  · have q := b2i_nz q
    have K0 := K0.2 q
    refine r_iload_n (pc := 17) dX7_find_17 rfl ?_
    refine r_iconst (pc := 18) (v := 1) dX7_find_18 (by decide) ?_
    refine r_bipush (pc := 19) (v := 6) dX7_find_19 (by decide) ?_
    refine s_SI (pc := 21) mX7_isWithin (As := [.int (gi x b0 1), .int 1, .int 6]) dX7_find_21 lk_X7_113 st_X7_isWithin mo_X7_isWithin ⟨by decide, by decide⟩ (Nat.le_of_ble_eq_true rfl) (sp_X7_isWithin  ?_)
    refine r_if_ne (pc := 24) (tgt := 30) dX7_find_24 (by decide) (fun q => ?_) (fun q => ?_)
    · have q := b2i_nz q
      have K0 := K0.1 q
      refine r_iconst (pc := 30) (v := 0) dX7_find_30 (by decide) ?_
      refine r_istore_n (pc := 31) dX7_find_31 (by decide) ?_
      exact r_le (L' := [some (.ref b0), some (.int (gi x b0 1)), some (.int 0)]) ⟨rfl, ⟨rfl, ⟨rfl, trivial⟩⟩⟩ K0
    · have q := (b2i_z _).mp q
      have K0 := K0.2 q
      refine r_bipush (pc := 27) (v := (-2)) dX7_find_27 (by decide) ?_
      exact s_iret rfl dX7_find_29 K0
set_option maxHeartbeats 2000000 in
theorem v_X7_find_32 {K : Sh} {x : Cn} {Q : Int32 → Cn → Prop} {b0 : Nat} {l1 : Int32} {l2 : Int32} {b0_3 : Nat} {b0_0 : Nat} {n_b0_0 : Nat} (k_b0 : kk K b0 = some (7, 0)) (g_b0_3 : gr x b0 3 = some b0_3) (g_b0_0 : gr x b0 0 = some b0_0) (k_b0_3 : kk K b0_3 = some (1, 0)) (k_b0_0 : kk K b0_0 = some (21, n_b0_0)) (K0 : (l1 ≤ l2 → (mSI mX1_carrierNamed [.ref b0_3, .ref b0_0, .int 0, .int l1] K x (fun r_3 y_2 => Q r_3 y_2))) ∧ (¬ l1 ≤ l2 → (vp_in l2 n_b0_0 ∧ (((97 ≤ (gi x b0_0 (l2 : Int32).toNatClampNeg) ∧ (gi x b0_0 (l2 : Int32).toNatClampNeg) ≤ 122) → (GI mX7_find 32 [some (.ref b0), some (.int l1), some (.int (l2 + 1))] [] K x Q)) ∧ (¬ (97 ≤ (gi x b0_0 (l2 : Int32).toNatClampNeg) ∧ (gi x b0_0 (l2 : Int32).toNatClampNeg) ≤ 122) → (Q (-2) x)))))) : GI mX7_find 32 [some (.ref b0), some (.int l1), some (.int l2)] [] K x Q := by
  show mGM mX7_find 32 [some (.ref b0), some (.int l1), some (.int l2)] [] (hp K x) (PI K Q)
  refine r_iload_n (pc := 32) dX7_find_32 rfl ?_
  refine r_iload_n (pc := 33) dX7_find_33 rfl ?_
  refine r_icmp_ge (pc := 34) (tgt := 58) dX7_find_34 (by decide) (fun q => ?_) (fun q => ?_)
  · have K0 := K0.1 q
    refine r_aload_n (pc := 58) dX7_find_58 rfl ?_
    refine s_getR (pc := 59) dX7_find_59 fl_X7_27 rfl k_b0 g_b0_3 ?_
    refine r_aload_n (pc := 62) dX7_find_62 rfl ?_
    refine s_getR (pc := 63) dX7_find_63 fl_X7_9 rfl k_b0 g_b0_0 ?_
    refine r_iconst (pc := 66) (v := 0) dX7_find_66 (by decide) ?_
    refine r_iload_n (pc := 67) dX7_find_67 rfl ?_
    refine s_VI (pc := 68) mX1_carrierNamed (ci := 1) (a := b0_3) (As := [.ref b0_0, .int 0, .int l1]) dX7_find_68 lk_X7_128 in_X1_carrierNamed mo_X1_carrierNamed ⟨by decide, rfl⟩ ⟨by decide, by decide⟩ (Nat.le_of_ble_eq_true rfl) k_b0_3 (mSI_mono K0 (fun r_3 y_2 K0 => ?_))
    exact s_iret rfl dX7_find_71 K0
  · have K0 := K0.2 q
    refine r_aload_n (pc := 37) dX7_find_37 rfl ?_
    refine s_getR (pc := 38) dX7_find_38 fl_X7_9 rfl k_b0 g_b0_0 ?_
    refine r_iload_n (pc := 41) dX7_find_41 rfl ?_
    obtain ⟨i_4, K0⟩ := K0
    refine s_bald (pc := 42) dX7_find_42 k_b0_0 i_4 ?_
    refine s_SI (pc := 43) mX7_isLetter (As := [.int (gi x b0_0 (l2 : Int32).toNatClampNeg)]) dX7_find_43 lk_X7_125 st_X7_isLetter mo_X7_isLetter ⟨by decide, by decide⟩ (Nat.le_of_ble_eq_true rfl) (sp_X7_isLetter  ?_)
    refine r_if_ne (pc := 46) (tgt := 52) dX7_find_46 (by decide) (fun q => ?_) (fun q => ?_)
    · have q := b2i_nz q
      have K0 := K0.1 q
      refine r_iinc (pc := 52) (v := l2 + 1) dX7_find_52 rfl rfl (by decide) ?_
      refine r_goto (pc := 55) (L := [some (.ref b0), some (.int l1), some (.int (l2 + 1))]) (tgt := 32) dX7_find_55 (by decide) ?_
      exact r_le (L' := [some (.ref b0), some (.int l1), some (.int (l2 + 1))]) ⟨rfl, ⟨rfl, ⟨rfl, trivial⟩⟩⟩ K0
    · have q := (b2i_z _).mp q
      have K0 := K0.2 q
      refine r_bipush (pc := 49) (v := (-2)) dX7_find_49 (by decide) ?_
      exact s_iret rfl dX7_find_51 K0
set_option maxHeartbeats 2000000 in
theorem v_X8_find_0 {K : Sh} {x : Cn} {Q : Int32 → Cn → Prop} {b0 : Nat} {b0_1 : Nat} {n_b0_1 : Nat} (k_b0 : kk K b0 = some (8, 0)) (g_b0_1 : gr x b0 1 = some b0_1) (k_b0_1 : kk K b0_1 = some (20, n_b0_1)) (K0 : vp_in 0 n_b0_1 ∧ ((¬ (0 < gi (ui x b0 5 0) b0_1 0) → (GI mX8_find 37 [some (.ref b0), some (.int (gi x b0 5)), some (.int 0), some (.int 0)] [] K (ui x b0 5 0) Q)) ∧ ((0 < gi (ui x b0 5 0) b0_1 0) → ((¬ (1 ≤ (gi x b0 5) ∧ (gi x b0 5) ≤ 6) → (GI mX8_find 37 [some (.ref b0), some (.int (gi x b0 5)), some (.int 0), some (.int 0)] [] K (ui x b0 5 0) Q)) ∧ ((1 ≤ (gi x b0 5) ∧ (gi x b0 5) ≤ 6) → (GI mX8_find 37 [some (.ref b0), some (.int (gi x b0 5)), some (.int 1), some (.int 0)] [] K (ui x b0 5 0) Q)))))) : mSI mX8_find [.ref b0] K x Q := by
  refine s_I (by decide) (by simp [Value.category]) (Nat.le_of_ble_eq_true rfl) ?_
  show mGM mX8_find 0 [some (.ref b0), none, none, none] [] (hp K x) (PI K Q)
  refine r_aload_n (pc := 0) dX8_find_0 rfl ?_
  refine s_getI (pc := 1) dX8_find_1 fl_X8_94 rfl k_b0 ?_
  refine r_istore_n (pc := 4) dX8_find_4 (by decide) ?_
  refine r_aload_n (pc := 5) (L := [some (.ref b0), some (.int (gi x b0 5)), none, none]) dX8_find_5 rfl ?_
  refine r_iconst (pc := 6) (v := 0) dX8_find_6 (by decide) ?_
  refine s_putI (pc := 7) dX8_find_7 fl_X8_94 rfl rfl k_b0 ?_
  refine r_aload_n (pc := 10) dX8_find_10 rfl ?_
  obtain ⟨i_1, K0⟩ := K0
  refine s_VI (pc := 11) mX8_isThere (ci := 8) (a := b0) (As := []) dX8_find_11 lk_X8_49 in_X8_isThere mo_X8_isThere ⟨by decide, rfl⟩ ⟨by decide, by decide⟩ (Nat.le_of_ble_eq_true rfl) k_b0 (sp_X8_isThere k_b0 g_b0_1 k_b0_1 i_1 ?_)
  refine r_if_eq (pc := 14) (tgt := 33) dX8_find_14 (by decide) (fun q => ?_) (fun q => ?_)
  · have q := (b2i_z _).mp q
    have K0 := K0.1 q
    refine r_iconst (pc := 33) (v := 0) dX8_find_33 (by decide) ?_
    refine r_istore_n (pc := 34) dX8_find_34 (by decide) ?_
    refine r_iconst (pc := 35) (L := [some (.ref b0), some (.int (gi x b0 5)), some (.int 0), none]) (v := 0) dX8_find_35 (by decide) ?_
    refine r_istore_n (pc := 36) dX8_find_36 (by decide) ?_
    exact r_le (L' := [some (.ref b0), some (.int (gi x b0 5)), some (.int 0), some (.int 0)]) ⟨rfl, ⟨rfl, ⟨rfl, ⟨rfl, trivial⟩⟩⟩⟩ K0
  · have q := b2i_nz q
    have K0 := K0.2 q
    refine r_iload_n (pc := 17) dX8_find_17 rfl ?_
    refine r_i2l (pc := 18) dX8_find_18 ?_
    refine r_lconst (pc := 19) (v := 1) dX8_find_19 (by decide) ?_
    refine r_ldc2 (pc := 20) (v := 6) dX8_find_20 cn_X8_53 ?_
    refine s_SI (pc := 23) mX8_in (As := [.long (((gi x b0 5) : Int32).toInt64), .long 1, .long 6]) dX8_find_23 lk_X8_45 st_X8_in mo_X8_in ⟨by decide, by decide⟩ (Nat.le_of_ble_eq_true rfl) (sq_X8_in (v := (gi x b0 5)) (lo := 1) (hi := 6) rfl (by decide) (by decide) ?_)
    refine r_if_eq (pc := 26) (tgt := 33) dX8_find_26 (by decide) (fun q => ?_) (fun q => ?_)
    · have q := (b2i_z _).mp q
      have K0 := K0.1 q
      refine r_iconst (pc := 33) (v := 0) dX8_find_33 (by decide) ?_
      refine r_istore_n (pc := 34) dX8_find_34 (by decide) ?_
      refine r_iconst (pc := 35) (L := [some (.ref b0), some (.int (gi x b0 5)), some (.int 0), none]) (v := 0) dX8_find_35 (by decide) ?_
      refine r_istore_n (pc := 36) dX8_find_36 (by decide) ?_
      exact r_le (L' := [some (.ref b0), some (.int (gi x b0 5)), some (.int 0), some (.int 0)]) ⟨rfl, ⟨rfl, ⟨rfl, ⟨rfl, trivial⟩⟩⟩⟩ K0
    · have q := b2i_nz q
      have K0 := K0.2 q
      refine r_iconst (pc := 29) (v := 1) dX8_find_29 (by decide) ?_
      refine r_goto (pc := 30) (tgt := 34) dX8_find_30 (by decide) ?_
      refine r_istore_n (pc := 34) dX8_find_34 (by decide) ?_
      refine r_iconst (pc := 35) (L := [some (.ref b0), some (.int (gi x b0 5)), some (.int 1), none]) (v := 0) dX8_find_35 (by decide) ?_
      refine r_istore_n (pc := 36) dX8_find_36 (by decide) ?_
      exact r_le (L' := [some (.ref b0), some (.int (gi x b0 5)), some (.int 1), some (.int 0)]) ⟨rfl, ⟨rfl, ⟨rfl, ⟨rfl, trivial⟩⟩⟩⟩ K0
set_option maxHeartbeats 2000000 in
theorem v_X8_find_37 {K : Sh} {x : Cn} {Q : Int32 → Cn → Prop} {b0 : Nat} {l1 : Int32} {l2 : Int32} {l3 : Int32} {b0_4 : Nat} {n_b0_4 : Nat} (k_b0 : kk K b0 = some (8, 0)) (g_b0_4 : gr x b0 4 = some b0_4) (k_b0_4 : kk K b0_4 = some (21, n_b0_4)) (K0 : (l1 ≤ l3 → ((l2 = 0 → (Q (-2) x)) ∧ (¬ l2 = 0 → (mSI mX8_packed [.ref b0, .int 0, .int l1] K x (fun r_4 y_3 => mSI mX8_findName [.ref b0, .int r_4] K y_3 (fun r_6 y_5 => Q r_6 y_5)))))) ∧ (¬ l1 ≤ l3 → ((l2 = 0 → ((l2 = 0 → (Q (-2) x)) ∧ (¬ l2 = 0 → (mSI mX8_packed [.ref b0, .int 0, .int l1] K x (fun r_10 y_9 => mSI mX8_findName [.ref b0, .int r_10] K y_9 (fun r_12 y_11 => Q r_12 y_11)))))) ∧ (¬ l2 = 0 → (vp_in l3 n_b0_4 ∧ (∀ r_14 : Int32, r_14 = (b2i (97 ≤ (gi x b0_4 (l3 : Int32).toNatClampNeg) ∧ (gi x b0_4 (l3 : Int32).toNatClampNeg) ≤ 122)) → (GI mX8_find 37 [some (.ref b0), some (.int l1), some (.int r_14), some (.int (l3 + 1))] [] K x Q))))))) : GI mX8_find 37 [some (.ref b0), some (.int l1), some (.int l2), some (.int l3)] [] K x Q := by
  show mGM mX8_find 37 [some (.ref b0), some (.int l1), some (.int l2), some (.int l3)] [] (hp K x) (PI K Q)
  refine r_iload_n (pc := 37) dX8_find_37 rfl ?_
  refine r_iload_n (pc := 38) dX8_find_38 rfl ?_
  refine r_icmp_ge (pc := 39) (tgt := 69) dX8_find_39 (by decide) (fun q => ?_) (fun q => ?_)
  · have K0 := K0.1 q
    refine r_iload_n (pc := 69) dX8_find_69 rfl ?_
    refine r_if_eq (pc := 70) (tgt := 86) dX8_find_70 (by decide) (fun q => ?_) (fun q => ?_)
    · have K0 := K0.1 q
      refine r_bipush (pc := 86) (v := (-2)) dX8_find_86 (by decide) ?_
      exact s_iret rfl dX8_find_88 K0
    · have K0 := K0.2 q
      refine r_aload_n (pc := 73) dX8_find_73 rfl ?_
      refine r_aload_n (pc := 74) dX8_find_74 rfl ?_
      refine r_iconst (pc := 75) (v := 0) dX8_find_75 (by decide) ?_
      refine r_iload_n (pc := 76) dX8_find_76 rfl ?_
      refine s_VI (pc := 77) mX8_packed (ci := 8) (a := b0) (As := [.int 0, .int l1]) dX8_find_77 lk_X8_204 in_X8_packed mo_X8_packed ⟨by decide, rfl⟩ ⟨by decide, by decide⟩ (Nat.le_of_ble_eq_true rfl) k_b0 (mSI_mono K0 (fun r_4 y_3 K0 => ?_))
      refine s_VI (pc := 80) mX8_findName (ci := 8) (a := b0) (As := [.int r_4]) dX8_find_80 lk_X8_224 in_X8_findName mo_X8_findName ⟨by decide, rfl⟩ ⟨by decide, by decide⟩ (Nat.le_of_ble_eq_true rfl) k_b0 (mSI_mono K0 (fun r_6 y_5 K0 => ?_))
      refine r_goto (pc := 83) (tgt := 88) dX8_find_83 (by decide) ?_
      exact s_iret rfl dX8_find_88 K0
  · have K0 := K0.2 q
    refine r_iload_n (pc := 42) dX8_find_42 rfl ?_
    refine r_if_eq (pc := 43) (tgt := 69) dX8_find_43 (by decide) (fun q => ?_) (fun q => ?_)
    · have K0 := K0.1 q
      refine r_iload_n (pc := 69) dX8_find_69 rfl ?_
      refine r_if_eq (pc := 70) (tgt := 86) dX8_find_70 (by decide) (fun q => ?_) (fun q => ?_)
      · have K0 := K0.1 q
        refine r_bipush (pc := 86) (v := (-2)) dX8_find_86 (by decide) ?_
        exact s_iret rfl dX8_find_88 K0
      · have K0 := K0.2 q
        refine r_aload_n (pc := 73) dX8_find_73 rfl ?_
        refine r_aload_n (pc := 74) dX8_find_74 rfl ?_
        refine r_iconst (pc := 75) (v := 0) dX8_find_75 (by decide) ?_
        refine r_iload_n (pc := 76) dX8_find_76 rfl ?_
        refine s_VI (pc := 77) mX8_packed (ci := 8) (a := b0) (As := [.int 0, .int l1]) dX8_find_77 lk_X8_204 in_X8_packed mo_X8_packed ⟨by decide, rfl⟩ ⟨by decide, by decide⟩ (Nat.le_of_ble_eq_true rfl) k_b0 (mSI_mono K0 (fun r_10 y_9 K0 => ?_))
        refine s_VI (pc := 80) mX8_findName (ci := 8) (a := b0) (As := [.int r_10]) dX8_find_80 lk_X8_224 in_X8_findName mo_X8_findName ⟨by decide, rfl⟩ ⟨by decide, by decide⟩ (Nat.le_of_ble_eq_true rfl) k_b0 (mSI_mono K0 (fun r_12 y_11 K0 => ?_))
        refine r_goto (pc := 83) (tgt := 88) dX8_find_83 (by decide) ?_
        exact s_iret rfl dX8_find_88 K0
    · have K0 := K0.2 q
      refine r_aload_n (pc := 46) dX8_find_46 rfl ?_
      refine s_getR (pc := 47) dX8_find_47 fl_X8_19 rfl k_b0 g_b0_4 ?_
      refine r_iload_n (pc := 50) dX8_find_50 rfl ?_
      obtain ⟨i_13, K0⟩ := K0
      refine s_bald (pc := 51) dX8_find_51 k_b0_4 i_13 ?_
      refine r_i2l (pc := 52) dX8_find_52 ?_
      refine r_ldc2 (pc := 53) (v := 97) dX8_find_53 cn_X8_122 ?_
      refine r_ldc2 (pc := 56) (v := 122) dX8_find_56 cn_X8_124 ?_
      refine s_SI (pc := 59) mX8_in (As := [.long (((gi x b0_4 (l3 : Int32).toNatClampNeg) : Int32).toInt64), .long 97, .long 122]) dX8_find_59 lk_X8_45 st_X8_in mo_X8_in ⟨by decide, by decide⟩ (Nat.le_of_ble_eq_true rfl) (sq_X8_in (v := (gi x b0_4 (l3 : Int32).toNatClampNeg)) (lo := 97) (hi := 122) rfl (by decide) (by decide) ?_)
      obtain ⟨r_14, w_15⟩ : ∃ z : Int32, z = (b2i (97 ≤ (gi x b0_4 (l3 : Int32).toNatClampNeg) ∧ (gi x b0_4 (l3 : Int32).toNatClampNeg) ≤ 122)) := ⟨_, rfl⟩
      rw [← w_15]
      have K0 := K0 r_14 w_15
      refine r_istore_n (pc := 62) dX8_find_62 (by decide) ?_
      refine r_iinc (pc := 63) (L := [some (.ref b0), some (.int l1), some (.int r_14), some (.int l3)]) (v := l3 + 1) dX8_find_63 rfl rfl (by decide) ?_
      refine r_goto (pc := 66) (L := [some (.ref b0), some (.int l1), some (.int r_14), some (.int (l3 + 1))]) (tgt := 37) dX8_find_66 (by decide) ?_
      exact r_le (L' := [some (.ref b0), some (.int l1), some (.int r_14), some (.int (l3 + 1))]) ⟨rfl, ⟨rfl, ⟨rfl, ⟨rfl, trivial⟩⟩⟩⟩ K0

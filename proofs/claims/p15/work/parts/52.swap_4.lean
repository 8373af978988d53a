set_option maxHeartbeats 2000000 in
theorem v_X7_partners_0 {K : Sh} {x : Cn} {Q : Int32 → Cn → Prop} {b0 : Nat} {l1 : Int32} {b0_2 : Nat} (k_b0 : kk K b0 = some (7, 0)) (g_b0_2 : gr x b0 2 = some b0_2) (k_b0_2 : kk K b0_2 = some (4, 0)) (K0 : ((0 ≤ l1 ∧ l1 < gi x b0_2 3) → (GI mX7_partners 15 [some (.ref b0), some (.int l1), some (.int 0), some (.int 0)] [] K x Q)) ∧ (¬ (0 ≤ l1 ∧ l1 < gi x b0_2 3) → (Q (-2) x))) : mSI mX7_partners [.ref b0, .int l1] K x Q := by
  refine s_I (by decide) (by simp [Value.category]) (Nat.le_of_ble_eq_true rfl) ?_
  show mGM mX7_partners 0 [some (.ref b0), some (.int l1), none, none] [] (hp K x) (PI K Q)
  refine r_aload_n (pc := 0) dX7_partners_0 rfl ?_
  refine r_iload_n (pc := 1) dX7_partners_1 rfl ?_
  refine s_VI (pc := 2) mX7_isSeries (ci := 7) (a := b0) (As := [.int l1]) dX7_partners_2 lk_X7_132 in_X7_isSeries mo_X7_isSeries ⟨by decide, rfl⟩ ⟨by decide, by decide⟩ (Nat.le_of_ble_eq_true rfl) k_b0 (sp_X7_isSeries k_b0 g_b0_2 k_b0_2 ?_)
  refine r_if_ne (pc := 5) (tgt := 11) dX7_partners_5 (by decide) (fun q => ?_) (fun q => ?_)
  · have q := b2i_nz q
    have K0 := K0.1 q
    refine r_iconst (pc := 11) (v := 0) dX7_partners_11 (by decide) ?_
    refine r_istore_n (pc := 12) dX7_partners_12 (by decide) ?_
    refine r_iconst (pc := 13) (L := [some (.ref b0), some (.int l1), some (.int 0), none]) (v := 0) dX7_partners_13 (by decide) ?_
    refine r_istore_n (pc := 14) dX7_partners_14 (by decide) ?_
    exact r_le (L' := [some (.ref b0), some (.int l1), some (.int 0), some (.int 0)]) ⟨rfl, ⟨rfl, ⟨rfl, ⟨rfl, trivial⟩⟩⟩⟩ K0
  · have q := (b2i_z _).mp q
    have K0 := K0.2 q
    refine r_bipush (pc := 8) (v := (-2)) dX7_partners_8 (by decide) ?_
    exact s_iret rfl dX7_partners_10 K0
set_option maxHeartbeats 2000000 in
theorem v_X7_partners_15 {K : Sh} {x : Cn} {Q : Int32 → Cn → Prop} {b0 : Nat} {l1 : Int32} {l2 : Int32} {l3 : Int32} {b0_2 : Nat} (k_b0 : kk K b0 = some (7, 0)) (g_b0_2 : gr x b0 2 = some b0_2) (k_b0_2 : kk K b0_2 = some (4, 0)) (K0 : ((gi x b0_2 3) ≤ l3 → (Q l2 x)) ∧ (¬ (gi x b0_2 3) ≤ l3 → (mSI mX7_whySwapFails [.ref b0, .int l1, .int l3] K x (fun r_3 y_2 => (¬ r_3 = 0 → (GI mX7_partners 15 [some (.ref b0), some (.int l1), some (.int l2), some (.int (l3 + 1))] [] K y_2 Q)) ∧ (r_3 = 0 → (GI mX7_partners 15 [some (.ref b0), some (.int l1), some (.int (l2 ||| (1 <<< (l3 &&& 31)))), some (.int (l3 + 1))] [] K y_2 Q)))))) : GI mX7_partners 15 [some (.ref b0), some (.int l1), some (.int l2), some (.int l3)] [] K x Q := by
  show mGM mX7_partners 15 [some (.ref b0), some (.int l1), some (.int l2), some (.int l3)] [] (hp K x) (PI K Q)
  refine r_iload_n (pc := 15) dX7_partners_15 rfl ?_
  refine r_aload_n (pc := 16) dX7_partners_16 rfl ?_
  refine s_getR (pc := 17) dX7_partners_17 fl_X7_20 rfl k_b0 g_b0_2 ?_
  refine s_getI (pc := 20) dX7_partners_20 fl_X7_97 rfl k_b0_2 ?_
  refine r_icmp_ge (pc := 23) (tgt := 47) dX7_partners_23 (by decide) (fun q => ?_) (fun q => ?_)
  · have K0 := K0.1 q
    refine r_iload_n (pc := 47) dX7_partners_47 rfl ?_
    exact s_iret rfl dX7_partners_48 K0
  · have K0 := K0.2 q
    refine r_aload_n (pc := 26) dX7_partners_26 rfl ?_
    refine r_iload_n (pc := 27) dX7_partners_27 rfl ?_
    refine r_iload_n (pc := 28) dX7_partners_28 rfl ?_
    refine s_VI (pc := 29) mX7_whySwapFails (ci := 7) (a := b0) (As := [.int l1, .int l3]) dX7_partners_29 lk_X7_330 in_X7_whySwapFails mo_X7_whySwapFails ⟨by decide, rfl⟩ ⟨by decide, by decide⟩ (Nat.le_of_ble_eq_true rfl) k_b0 (mSI_mono K0 (fun r_3 y_2 K0 => ?_))
    refine r_if_ne (pc := 32) (tgt := 41) dX7_partners_32 (by decide) (fun q => ?_) (fun q => ?_)
    · have K0 := K0.1 q
      refine r_iinc (pc := 41) (v := l3 + 1) dX7_partners_41 rfl rfl (by decide) ?_
      refine r_goto (pc := 44) (L := [some (.ref b0), some (.int l1), some (.int l2), some (.int (l3 + 1))]) (tgt := 15) dX7_partners_44 (by decide) ?_
      exact r_le (L' := [some (.ref b0), some (.int l1), some (.int l2), some (.int (l3 + 1))]) ⟨rfl, ⟨rfl, ⟨rfl, ⟨rfl, trivial⟩⟩⟩⟩ K0
    · have K0 := K0.2 q
      refine r_iload_n (pc := 35) dX7_partners_35 rfl ?_
      refine r_iconst (pc := 36) (v := 1) dX7_partners_36 (by decide) ?_
      refine r_iload_n (pc := 37) dX7_partners_37 rfl ?_
      refine r_ishl (pc := 38) dX7_partners_38 ?_
      refine r_ior (pc := 39) dX7_partners_39 ?_
      refine r_istore_n (pc := 40) dX7_partners_40 (by decide) ?_
      refine r_iinc (pc := 41) (L := [some (.ref b0), some (.int l1), some (.int (l2 ||| (1 <<< (l3 &&& 31)))), some (.int l3)]) (v := l3 + 1) dX7_partners_41 rfl rfl (by decide) ?_
      refine r_goto (pc := 44) (L := [some (.ref b0), some (.int l1), some (.int (l2 ||| (1 <<< (l3 &&& 31)))), some (.int (l3 + 1))]) (tgt := 15) dX7_partners_44 (by decide) ?_
      exact r_le (L' := [some (.ref b0), some (.int l1), some (.int (l2 ||| (1 <<< (l3 &&& 31)))), some (.int (l3 + 1))]) ⟨rfl, ⟨rfl, ⟨rfl, ⟨rfl, trivial⟩⟩⟩⟩ K0
set_option maxHeartbeats 2000000 in
theorem v_X8_partners_0 {K : Sh} {x : Cn} {Q : Int32 → Cn → Prop} {b0 : Nat} {l1 : Int32} {b0_1 : Nat} {n_b0_1 : Nat} (k_b0 : kk K b0 = some (8, 0)) (g_b0_1 : gr x b0 1 = some b0_1) (k_b0_1 : kk K b0_1 = some (20, n_b0_1)) (K0 : vp_in 2 n_b0_1 ∧ (((0 ≤ l1 ∧ l1 ≤ gi x b0_1 2 - 1) → (GI mX8_partners 15 [some (.ref b0), some (.int l1), some (.int 0), some (.int 0)] [] K x Q)) ∧ (¬ (0 ≤ l1 ∧ l1 ≤ gi x b0_1 2 - 1) → (Q (-2) x)))) : mSI mX8_partners [.ref b0, .int l1] K x Q := by
  refine s_I (by decide) (by simp [Value.category]) (Nat.le_of_ble_eq_true rfl) ?_
  show mGM mX8_partners 0 [some (.ref b0), some (.int l1), none, none] [] (hp K x) (PI K Q)
  refine r_aload_n (pc := 0) dX8_partners_0 rfl ?_
  refine r_iload_n (pc := 1) dX8_partners_1 rfl ?_
  obtain ⟨i_1, K0⟩ := K0
  refine s_VI (pc := 2) mX8_isSeries (ci := 8) (a := b0) (As := [.int l1]) dX8_partners_2 lk_X8_273 in_X8_isSeries mo_X8_isSeries ⟨by decide, rfl⟩ ⟨by decide, by decide⟩ (Nat.le_of_ble_eq_true rfl) k_b0 (sp_X8_isSeries k_b0 g_b0_1 k_b0_1 i_1 ?_)
  refine r_if_ne (pc := 5) (tgt := 11) dX8_partners_5 (by decide) (fun q => ?_) (fun q => ?_)
  · have q := b2i_nz q
    have K0 := K0.1 q
    refine r_iconst (pc := 11) (v := 0) dX8_partners_11 (by decide) ?_
    refine r_istore_n (pc := 12) dX8_partners_12 (by decide) ?_
    refine r_iconst (pc := 13) (L := [some (.ref b0), some (.int l1), some (.int 0), none]) (v := 0) dX8_partners_13 (by decide) ?_
    refine r_istore_n (pc := 14) dX8_partners_14 (by decide) ?_
    exact r_le (L' := [some (.ref b0), some (.int l1), some (.int 0), some (.int 0)]) ⟨rfl, ⟨rfl, ⟨rfl, ⟨rfl, trivial⟩⟩⟩⟩ K0
  · have q := (b2i_z _).mp q
    have K0 := K0.2 q
    refine r_bipush (pc := 8) (v := (-2)) dX8_partners_8 (by decide) ?_
    exact s_iret rfl dX8_partners_10 K0
set_option maxHeartbeats 2000000 in
theorem v_X8_partners_15 {K : Sh} {x : Cn} {Q : Int32 → Cn → Prop} {b0 : Nat} {l1 : Int32} {l2 : Int32} {l3 : Int32} {b0_1 : Nat} {n_b0_1 : Nat} {b0_3 : Nat} {n_b0_3 : Nat} (k_b0 : kk K b0 = some (8, 0)) (g_b0_1 : gr x b0 1 = some b0_1) (k_b0_1 : kk K b0_1 = some (20, n_b0_1)) (g_b0_3 : gr x b0 3 = some b0_3) (k_b0_3 : kk K b0_3 = some (20, n_b0_3)) (K0 : vp_in 2 n_b0_1 ∧ (((gi x b0_1 2) ≤ l3 → (Q l2 x)) ∧ (¬ (gi x b0_1 2) ≤ l3 → ((l24 l1 n_b0_3) ∧ (((so (gi x b0_3) (l1 : Int32).toNatClampNeg 4 = 1) → (GI mX8_partners 15 [some (.ref b0), some (.int l1), some (.int (l2 ||| 0)), some (.int (l3 + 1))] [] K x Q)) ∧ (¬ (so (gi x b0_3) (l1 : Int32).toNatClampNeg 4 = 1) → ((l24 l3 n_b0_3) ∧ (((so (gi x b0_3) (l3 : Int32).toNatClampNeg 4 = 1) → (GI mX8_partners 15 [some (.ref b0), some (.int l1), some (.int (l2 ||| 0)), some (.int (l3 + 1))] [] K x Q)) ∧ (¬ (so (gi x b0_3) (l3 : Int32).toNatClampNeg 4 = 1) → (mSI mX8_canSwap [.ref b0, .int l1, .int l3] K x (fun r_8 y_7 => (r_8 = 0 → (GI mX8_partners 15 [some (.ref b0), some (.int l1), some (.int (l2 ||| 0)), some (.int (l3 + 1))] [] K y_7 Q)) ∧ (¬ r_8 = 0 → (GI mX8_partners 15 [some (.ref b0), some (.int l1), some (.int (l2 ||| (1 <<< (l3 &&& 31)))), some (.int (l3 + 1))] [] K y_7 Q))))))))))))) : GI mX8_partners 15 [some (.ref b0), some (.int l1), some (.int l2), some (.int l3)] [] K x Q := by
  show mGM mX8_partners 15 [some (.ref b0), some (.int l1), some (.int l2), some (.int l3)] [] (hp K x) (PI K Q)
  refine r_iload_n (pc := 15) dX8_partners_15 rfl ?_
  refine r_aload_n (pc := 16) dX8_partners_16 rfl ?_
  refine s_getR (pc := 17) dX8_partners_17 fl_X8_9 rfl k_b0 g_b0_1 ?_
  refine r_iconst (pc := 20) (v := 2) dX8_partners_20 (by decide) ?_
  obtain ⟨i_1, K0⟩ := K0
  refine s_iald (pc := 21) dX8_partners_21 k_b0_1 i_1 ?_
  refine r_icmp_ge (pc := 22) (tgt := 66) dX8_partners_22 (by decide) (fun q => ?_) (fun q => ?_)
  · have K0 := K0.1 q
    refine r_iload_n (pc := 66) dX8_partners_66 rfl ?_
    exact s_iret rfl dX8_partners_67 K0
  · have K0 := K0.2 q
    refine r_iload_n (pc := 25) dX8_partners_25 rfl ?_
    refine r_aload_n (pc := 26) dX8_partners_26 rfl ?_
    refine r_iload_n (pc := 27) dX8_partners_27 rfl ?_
    obtain ⟨p_3, K0⟩ := K0
    refine s_VI (pc := 28) mX8_isNew (ci := 8) (a := b0) (As := [.int l1]) dX8_partners_28 lk_X8_382 in_X8_isNew mo_X8_isNew ⟨by decide, rfl⟩ ⟨by decide, by decide⟩ (Nat.le_of_ble_eq_true rfl) k_b0 (sr_X8_isNew k_b0 g_b0_3 k_b0_3 p_3 ?_)
    refine r_if_ne (pc := 31) (tgt := 57) dX8_partners_31 (by decide) (fun q => ?_) (fun q => ?_)
    · have q := b2i_nz q
      have K0 := K0.1 q
      refine r_iconst (pc := 57) (v := 0) dX8_partners_57 (by decide) ?_
      refine r_ior (pc := 58) dX8_partners_58 ?_
      refine r_istore_n (pc := 59) dX8_partners_59 (by decide) ?_
      refine r_iinc (pc := 60) (L := [some (.ref b0), some (.int l1), some (.int (l2 ||| 0)), some (.int l3)]) (v := l3 + 1) dX8_partners_60 rfl rfl (by decide) ?_
      refine r_goto (pc := 63) (L := [some (.ref b0), some (.int l1), some (.int (l2 ||| 0)), some (.int (l3 + 1))]) (tgt := 15) dX8_partners_63 (by decide) ?_
      exact r_le (L' := [some (.ref b0), some (.int l1), some (.int (l2 ||| 0)), some (.int (l3 + 1))]) ⟨rfl, ⟨rfl, ⟨rfl, ⟨rfl, trivial⟩⟩⟩⟩ K0
    · have q := (b2i_z _).mp q
      have K0 := K0.2 q
      refine r_aload_n (pc := 34) dX8_partners_34 rfl ?_
      refine r_iload_n (pc := 35) dX8_partners_35 rfl ?_
      obtain ⟨p_5, K0⟩ := K0
      refine s_VI (pc := 36) mX8_isNew (ci := 8) (a := b0) (As := [.int l3]) dX8_partners_36 lk_X8_382 in_X8_isNew mo_X8_isNew ⟨by decide, rfl⟩ ⟨by decide, by decide⟩ (Nat.le_of_ble_eq_true rfl) k_b0 (sr_X8_isNew k_b0 g_b0_3 k_b0_3 p_5 ?_)
      refine r_if_ne (pc := 39) (tgt := 57) dX8_partners_39 (by decide) (fun q => ?_) (fun q => ?_)
      · have q := b2i_nz q
        have K0 := K0.1 q
        refine r_iconst (pc := 57) (v := 0) dX8_partners_57 (by decide) ?_
        refine r_ior (pc := 58) dX8_partners_58 ?_
        refine r_istore_n (pc := 59) dX8_partners_59 (by decide) ?_
        refine r_iinc (pc := 60) (L := [some (.ref b0), some (.int l1), some (.int (l2 ||| 0)), some (.int l3)]) (v := l3 + 1) dX8_partners_60 rfl rfl (by decide) ?_
        refine r_goto (pc := 63) (L := [some (.ref b0), some (.int l1), some (.int (l2 ||| 0)), some (.int (l3 + 1))]) (tgt := 15) dX8_partners_63 (by decide) ?_
        exact r_le (L' := [some (.ref b0), some (.int l1), some (.int (l2 ||| 0)), some (.int (l3 + 1))]) ⟨rfl, ⟨rfl, ⟨rfl, ⟨rfl, trivial⟩⟩⟩⟩ K0
      · have q := (b2i_z _).mp q
        have K0 := K0.2 q
        refine r_aload_n (pc := 42) dX8_partners_42 rfl ?_
        refine r_iload_n (pc := 43) dX8_partners_43 rfl ?_
        refine r_iload_n (pc := 44) dX8_partners_44 rfl ?_
        refine s_VI (pc := 45) mX8_canSwap (ci := 8) (a := b0) (As := [.int l1, .int l3]) dX8_partners_45 lk_X8_385 in_X8_canSwap mo_X8_canSwap ⟨by decide, rfl⟩ ⟨by decide, by decide⟩ (Nat.le_of_ble_eq_true rfl) k_b0 (mSI_mono K0 (fun r_8 y_7 K0 => ?_))
        refine r_if_eq (pc := 48) (tgt := 57) dX8_partners_48 (by decide) (fun q => ?_) (fun q => ?_)
        · have K0 := K0.1 q
          refine r_iconst (pc := 57) (v := 0) dX8_partners_57 (by decide) ?_
          refine r_ior (pc := 58) dX8_partners_58 ?_
          refine r_istore_n (pc := 59) dX8_partners_59 (by decide) ?_
          refine r_iinc (pc := 60) (L := [some (.ref b0), some (.int l1), some (.int (l2 ||| 0)), some (.int l3)]) (v := l3 + 1) dX8_partners_60 rfl rfl (by decide) ?_
          refine r_goto (pc := 63) (L := [some (.ref b0), some (.int l1), some (.int (l2 ||| 0)), some (.int (l3 + 1))]) (tgt := 15) dX8_partners_63 (by decide) ?_
          exact r_le (L' := [some (.ref b0), some (.int l1), some (.int (l2 ||| 0)), some (.int (l3 + 1))]) ⟨rfl, ⟨rfl, ⟨rfl, ⟨rfl, trivial⟩⟩⟩⟩ K0
        · have K0 := K0.2 q
          refine r_iconst (pc := 51) (v := 1) dX8_partners_51 (by decide) ?_
          refine r_iload_n (pc := 52) dX8_partners_52 rfl ?_
          refine r_ishl (pc := 53) dX8_partners_53 ?_
          refine r_goto (pc := 54) (tgt := 58) dX8_partners_54 (by decide) ?_
          refine r_ior (pc := 58) dX8_partners_58 ?_
          refine r_istore_n (pc := 59) dX8_partners_59 (by decide) ?_
          refine r_iinc (pc := 60) (L := [some (.ref b0), some (.int l1), some (.int (l2 ||| (1 <<< (l3 &&& 31)))), some (.int l3)]) (v := l3 + 1) dX8_partners_60 rfl rfl (by decide) ?_
          refine r_goto (pc := 63) (L := [some (.ref b0), some (.int l1), some (.int (l2 ||| (1 <<< (l3 &&& 31)))), some (.int (l3 + 1))]) (tgt := 15) dX8_partners_63 (by decide) ?_
          exact r_le (L' := [some (.ref b0), some (.int l1), some (.int (l2 ||| (1 <<< (l3 &&& 31)))), some (.int (l3 + 1))]) ⟨rfl, ⟨rfl, ⟨rfl, ⟨rfl, trivial⟩⟩⟩⟩ K0
theorem eq_swap (a b : Int32) : Both mX7_swap mX8_swap [.int a, .int b] := by
  intro x R
  obtain ⟨W, C, S, A, N, n, H, ac, rs, nm⟩ := R.ac
  have E := ac.2.2.2.2
  have hn := E.nums
  have hS : S ≤ 24 := hn.2.2.2.2.2.2.1
  have hC : C ≤ 8 := hn.2.2.2.2.2.1
  refine v_X7_swap_0 k0 R.1.2.1 (ks0 E.1) ?_
  rw [hn.2.2.1]
  have no : ¬ ((0 ≤ a ∧ a < nI S) ∧ (0 ≤ b ∧ b < nI S)) → mSI mX8_swap [.ref 717, .int a, .int b] KW x (fun r' z => -2 = r' ∧ Rel z) := fun z => by
    have h0 : ∀ s t, a = nI s → b = nI t → s < S → t < S → False := fun s t e1 e2 hs ht => z ⟨by rw [e1]; exact ⟨nI_pos' (by omega), nI_lt hs (by omega)⟩, by rw [e2]; exact ⟨nI_pos' (by omega), nI_lt ht (by omega)⟩⟩
    exact sq_X8_swap rs E.2.2.2 (fun _ => ⟨rfl, R⟩) (fun s t e1 e2 hs ht => (h0 s t e1 e2 hs ht).elim) (fun s t e1 e2 hs ht => (h0 s t e1 e2 hs ht).elim) (fun s t e1 e2 hs ht => (h0 s t e1 e2 hs ht).elim)
  refine ⟨fun z => no (fun u => z u.1), fun z1 => ⟨fun z2 => ?_, fun z => no (fun u => z u.2)⟩⟩
  obtain ⟨s, hs, rfl⟩ := inN (by omega) z1
  obtain ⟨t, ht, rfl⟩ := inN (by omega) z2
  have un : ∀ s' t', nI s = nI s' → nI t = nI t' → s' < S → t' < S → s' = s ∧ t' = t := fun s' t' e1 e2 h1 h2 => ⟨((nI_eq (by omega) (by omega)).mp e1).symm, ((nI_eq (by omega) (by omega)).mp e2).symm⟩
  refine sp_X7_whySwapFails ac hs ht (fun c => ⟨fun z => absurd z (by decide), fun _ => ?_⟩) (fun c0 c v av => ⟨fun z => absurd z (by decide), fun _ => ?_⟩) (fun c0 c v av => ⟨fun _ => ?_, fun z => absurd rfl z⟩)
  · refine sq_X8_swap rs E.2.2.2 (fun u => absurd ⟨z1, z2⟩ u) (fun s' t' e1 e2 hs' ht' _ => ⟨rfl, R⟩) (fun s' t' e1 e2 hs' ht' c1 => ?_) (fun s' t' e1 e2 hs' ht' c1 => ?_)
    · obtain ⟨rfl, rfl⟩ := un s' t' e1 e2 hs' ht'; exact absurd c1 c
    · obtain ⟨rfl, rfl⟩ := un s' t' e1 e2 hs' ht'; exact absurd c1 c
  · refine sq_X8_swap (av.rs rs) E.2.2.2 (fun u => absurd ⟨z1, z2⟩ u) (fun s' t' e1 e2 hs' ht' c1 => ?_) (fun s' t' e1 e2 hs' ht' c1 c2 w f2 r2 => ⟨rfl, av.fin R nm (fun _ _ => rfl) f2 r2⟩) (fun s' t' e1 e2 hs' ht' c1 c2 => ?_)
    · obtain ⟨rfl, rfl⟩ := un s' t' e1 e2 hs' ht'; exact absurd c0 c1
    · obtain ⟨rfl, rfl⟩ := un s' t' e1 e2 hs' ht'; exact absurd c2 c
  · refine av.rem (fun _ _ => rfl) (fun y ay y1 y2 => ?_)
    have Ey := ay.2.2.2.2
    obtain ⟨p, p1, p2, p3, p4, p5, p6⟩ := Ey.ser hs
    obtain ⟨p', q1, q2, q3, q4, q5, q6⟩ := Ey.ser ht
    have hst : s ≠ t := fun u => c.1 (by rw [u])
    have hne : p ≠ p' := fun u => hst (Ey.2.1.2.2.2.2.2.2.1 s t (by omega) (by omega) (by rw [p1, q1, u]))
    rw [nI_clamp (show s < 2 ^ 31 by omega), nI_clamp (show t < 2 ^ 31 by omega)]
    refine ⟨ay.2.1.2.1, 5, Ey.2.1.2.2.1, 24, ks3 E.1, vp_in_nI (by omega) (by decide), p, p1, vp_in_nI (by omega) (by decide), p', q1, p2, sp_X5_changeOver p2 q2 hne (fun w w1 w2 w3 => ?_)⟩
    have aw := ay.swp hs ht hst p1 q1 w1 w2 w3
    refine sq_X8_swap (aw.rs rs) E.2.2.2 (fun u => absurd ⟨z1, z2⟩ u) (fun s' t' e1 e2 hs' ht' c1 => ?_) (fun s' t' e1 e2 hs' ht' c1 c2 => ?_) (fun s' t' e1 e2 hs' ht' c1 c2 u f2 r2 => ⟨rfl, ?_⟩)
    · obtain ⟨rfl, rfl⟩ := un s' t' e1 e2 hs' ht'; exact absurd c0 c1
    · obtain ⟨rfl, rfl⟩ := un s' t' e1 e2 hs' ht'; exact absurd c c2
    · obtain ⟨rfl, rfl⟩ := un s' t' e1 e2 hs' ht'
      exact aw.fin R nm (fun c hc => swK_off (by omega) (by omega) (by decide) (by omega)) f2 r2

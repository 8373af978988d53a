/-- a week goes by, for the first series -/
def tkS (N : Nat) : Nat → TT → TT := fun s T => goT T s (so T s 7 &&& wb (nI N)) 0 1
theorem tk_off {N : Nat} {T : TT} : ∀ s, s ≤ 24 → ∀ i, i < 62 → accT (tkS N) s T i = T i := by
  intro s
  induction s with
  | zero => intro _ i _; rfl
  | succ s ih =>
    intro hs i hi
    simp only [accT]
    unfold tkS
    rw [goT_off _ _ _ (by decide) (by decide) i (by omega)]
    exact ih (by omega) i hi
theorem AC.now {x y : Cn} {W C S A N N' n : Nat} {T : TT} {H : Nat → TT} (a : AC x y W C S A N n T H) (h : N' ≤ W) : AC x (ui y 2 1 (nI N')) W C S A N' n (uT T 4 (nI N')) H := by
  have E := a.2.2.2.2
  obtain ⟨e1, e2, ⟨v0, v1, v2, v3, v4, v5, v6, v7⟩, w1, w2, w3, w4, w5, w6, w7, w8, w9, w10, w11, w12, w13, w14⟩ := E
  obtain ⟨r1, r2, r3, r4, r5, r6, r7, r8, r9⟩ := id e2
  have eo : ∀ b k, ¬ (b = 2 ∧ k = 1) → gi (ui y 2 1 (nI N')) b k = gi y b k := fun b k c => by rw [gi_ui, if_neg c]
  have eT : ∀ i, i ≠ 4 → uT T 4 (nI N') i = T i := fun i hi => uT_ne _ _ hi
  refine a.up (fun b k c => eo b k (by omega)) rfl ⟨e1, e2.keep rfl, ⟨?_, ?_, ?_, ?_, ?_, ?_, ?_, ?_⟩, ?_⟩
  · rw [eo 2 0 (by omega), eT 0 (by decide)]; exact v0
  · rw [gi_ui, if_pos ⟨rfl, rfl⟩, uT_at]
  · rw [eo 2 2 (by omega), eT 5 (by decide)]; exact v2
  · rw [eo 2 3 (by omega), eT 2 (by decide)]; exact v3
  · rw [eo 2 4 (by omega), eT 3 (by decide)]; exact v4
  · intro h hh
    rw [eo _ h (by omega), eo _ h (by omega), eT _ (by omega), eT _ (by omega)]
    exact v5 h hh
  · intro s p hs hp
    obtain ⟨j, hj, ej⟩ := r6 s (by omega)
    have ep : p = 2 + 6 + j := Option.some.inj (hp.symm.trans ej)
    exact (v6 s p hs hp).cg (fun k _ => eo p k (by omega)) (fun k hk => eT _ (by omega))
  · intro s p hs hp
    obtain ⟨j, hj, ej⟩ := r8 s (by omega)
    have ep : p = 2 + 30 + j := Option.some.inj (hp.symm.trans ej)
    exact (v7 s p hs hp).cg (fun k _ => eo p k (by omega)) (fun k hk => eT _ (by omega))
  · exact ⟨by rw [eT 0 (by decide)]; exact w1, w2, w3, by rw [eT 1 (by decide)]; exact w4, w5, by rw [eT 2 (by decide)]; exact w6, w7, by rw [eT 3 (by decide)]; exact w8, w9, uT_at _ _ _, h, fun i hi => by rw [eT _ (by omega), eT _ (by omega)]; exact w12 i hi, fun s hs => (w13 s hs).cg (fun k hk => eT _ (by omega)), fun a ha => (w14 a ha).cg (fun k hk => eT _ (by omega))⟩
theorem and_in {T : TT} {s : Nat} {v : Int32} : ∀ i, i < 32 → tb (so T s 7 &&& v) i = true → tb (so T s (7 + 0)) i = true := fun i _ e => by
  rw [tb_and, Bool.and_eq_true] at e
  exact e.1
set_option maxHeartbeats 2000000 in
theorem v_X7_tick_0 {K : Sh} {x : Cn} {Q : Int32 → Cn → Prop} {b0 : Nat} {b0_2 : Nat} (k_b0 : kk K b0 = some (7, 0)) (g_b0_2 : gr x b0 2 = some b0_2) (k_b0_2 : kk K b0_2 = some (4, 0)) (K0 : ((0 < gi x b0_2 0) → ((¬ (gi x b0_2 0 ≤ gi x b0_2 1) → (mSV mX7_remember [.ref b0] K x (fun y_3 => gr y_3 b0 2 = some b0_2 ∧ (GI mX7_tick 38 [some (.ref b0), some (.int (1 <<< ((gi y_3 b0_2 1) &&& 31))), some (.int 0)] [] K y_3 Q)))) ∧ ((gi x b0_2 0 ≤ gi x b0_2 1) → (Q (-1) x)))) ∧ (¬ (0 < gi x b0_2 0) → (Q (-2) x))) : mSI mX7_tick [.ref b0] K x Q := by
  refine s_I (by decide) (by simp [Value.category]) (Nat.le_of_ble_eq_true rfl) ?_
  show mGM mX7_tick 0 [some (.ref b0), none, none] [] (hp K x) (PI K Q)
  refine r_aload_n (pc := 0) dX7_tick_0 rfl ?_
  refine s_VI (pc := 1) mX7_hasText (ci := 7) (a := b0) (As := []) dX7_tick_1 lk_X7_121 in_X7_hasText mo_X7_hasText ⟨by decide, rfl⟩ ⟨by decide, by decide⟩ (Nat.le_of_ble_eq_true rfl) k_b0 (sp_X7_hasText k_b0 g_b0_2 k_b0_2 ?_)
  refine r_if_ne (pc := 4) (tgt := 10) dX7_tick_4 (by decide) (fun q => ?_) (fun q => ?_)
  · have q := b2i_nz q
    have K0 := K0.1 q
    refine r_aload_n (pc := 10) dX7_tick_10 rfl ?_
    refine s_getR (pc := 11) dX7_tick_11 fl_X7_20 rfl k_b0 g_b0_2 ?_
    refine s_VI (pc := 14) mX4_isOver (ci := 4) (a := b0_2) (As := []) dX7_tick_14 lk_X7_279 in_X4_isOver mo_X4_isOver ⟨by decide, rfl⟩ ⟨by decide, by decide⟩ (Nat.le_of_ble_eq_true rfl) k_b0_2 (sp_X4_isOver k_b0_2 ?_)
    refine r_if_eq (pc := 17) (tgt := 22) dX7_tick_17 (by decide) (fun q => ?_) (fun q => ?_)
    · have q := (b2i_z _).mp q
      have K0 := K0.1 q
      refine r_aload_n (pc := 22) dX7_tick_22 rfl ?_
      refine s_VV (pc := 23) mX7_remember (ci := 7) (a := b0) (As := []) dX7_tick_23 lk_X7_333 in_X7_remember mo_X7_remember ⟨by decide, rfl⟩ ⟨by decide, by decide⟩ (Nat.le_of_ble_eq_true rfl) k_b0 (mSV_mono K0 (fun y_3 K0 => ?_))
      refine r_iconst (pc := 26) (v := 1) dX7_tick_26 (by decide) ?_
      refine r_aload_n (pc := 27) dX7_tick_27 rfl ?_
      obtain ⟨g_4, K0⟩ := K0
      refine s_getR (pc := 28) dX7_tick_28 fl_X7_20 rfl k_b0 g_4 ?_
      refine s_getI (pc := 31) dX7_tick_31 fl_X7_103 rfl k_b0_2 ?_
      refine r_ishl (pc := 34) dX7_tick_34 ?_
      refine r_istore_n (pc := 35) dX7_tick_35 (by decide) ?_
      refine r_iconst (pc := 36) (L := [some (.ref b0), some (.int (1 <<< ((gi y_3 b0_2 1) &&& 31))), none]) (v := 0) dX7_tick_36 (by decide) ?_
      refine r_istore_n (pc := 37) dX7_tick_37 (by decide) ?_
      exact r_le (L' := [some (.ref b0), some (.int (1 <<< ((gi y_3 b0_2 1) &&& 31))), some (.int 0)]) ⟨rfl, ⟨rfl, ⟨rfl, trivial⟩⟩⟩ K0
    · have q := b2i_nz q
      have K0 := K0.2 q
      refine r_iconst (pc := 20) (v := (-1)) dX7_tick_20 (by decide) ?_
      exact s_iret rfl dX7_tick_21 K0
  · have q := (b2i_z _).mp q
    have K0 := K0.2 q
    refine r_bipush (pc := 7) (v := (-2)) dX7_tick_7 (by decide) ?_
    exact s_iret rfl dX7_tick_9 K0
set_option maxHeartbeats 2000000 in
theorem v_X7_tick_38 {K : Sh} {x : Cn} {Q : Int32 → Cn → Prop} {b0 : Nat} {l1 : Int32} {l2 : Int32} {b0_2 : Nat} {b0_2_7 : Nat} {n_b0_2_7 : Nat} (k_b0 : kk K b0 = some (7, 0)) (g_b0_2 : gr x b0 2 = some b0_2) (k_b0_2 : kk K b0_2 = some (4, 0)) (g_b0_2_7 : gr x b0_2 7 = some b0_2_7) (k_b0_2_7 : kk K b0_2_7 = some (23, n_b0_2_7)) (K0 : ((gi x b0_2 3) ≤ l2 → (Q (gi (ui x b0_2 1 ((gi x b0_2 1) + 1)) b0_2 1) (ui x b0_2 1 ((gi x b0_2 1) + 1)))) ∧ (¬ (gi x b0_2 3) ≤ l2 → (vp_in l2 n_b0_2_7 ∧ (∃ c_3 : Nat, gr x b0_2_7 ((l2 : Int32).toNatClampNeg) = some c_3 ∧ (kk K c_3 = some (5, 0) ∧ (GI mX7_tick 38 [some (.ref b0), some (.int l1), some (.int (l2 + 1))] [] K (ui x c_3 8 ((gi x c_3 8) ||| ((f_open x c_3) &&& l1))) Q)))))) : GI mX7_tick 38 [some (.ref b0), some (.int l1), some (.int l2)] [] K x Q := by
  show mGM mX7_tick 38 [some (.ref b0), some (.int l1), some (.int l2)] [] (hp K x) (PI K Q)
  refine r_iload_n (pc := 38) dX7_tick_38 rfl ?_
  refine r_aload_n (pc := 39) dX7_tick_39 rfl ?_
  refine s_getR (pc := 40) dX7_tick_40 fl_X7_20 rfl k_b0 g_b0_2 ?_
  refine s_getI (pc := 43) dX7_tick_43 fl_X7_97 rfl k_b0_2 ?_
  refine r_icmp_ge (pc := 46) (tgt := 86) dX7_tick_46 (by decide) (fun q => ?_) (fun q => ?_)
  · have K0 := K0.1 q
    refine r_aload_n (pc := 86) dX7_tick_86 rfl ?_
    refine s_getR (pc := 87) dX7_tick_87 fl_X7_20 rfl k_b0 g_b0_2 ?_
    refine r_dup (pc := 90) dX7_tick_90 rfl ?_
    refine s_getI (pc := 91) dX7_tick_91 fl_X7_103 rfl k_b0_2 ?_
    refine r_iconst (pc := 94) (v := 1) dX7_tick_94 (by decide) ?_
    refine r_iadd (pc := 95) dX7_tick_95 ?_
    refine s_putI (pc := 96) dX7_tick_96 fl_X7_103 rfl rfl k_b0_2 ?_
    refine r_aload_n (pc := 99) dX7_tick_99 rfl ?_
    refine s_getR (pc := 100) dX7_tick_100 fl_X7_20 rfl k_b0 g_b0_2 ?_
    refine s_getI (pc := 103) dX7_tick_103 fl_X7_103 rfl k_b0_2 ?_
    exact s_iret rfl dX7_tick_106 K0
  · have K0 := K0.2 q
    refine r_aload_n (pc := 49) dX7_tick_49 rfl ?_
    refine s_getR (pc := 50) dX7_tick_50 fl_X7_20 rfl k_b0 g_b0_2 ?_
    refine s_getR (pc := 53) dX7_tick_53 fl_X7_135 rfl k_b0_2 g_b0_2_7 ?_
    refine r_iload_n (pc := 56) dX7_tick_56 rfl ?_
    obtain ⟨i_2, K0⟩ := K0
    obtain ⟨c_3, g_4, K0⟩ := K0
    refine s_aald (pc := 57) dX7_tick_57 (by decide) rfl k_b0_2_7 i_2 g_4 ?_
    refine r_dup (pc := 58) dX7_tick_58 rfl ?_
    obtain ⟨e_5, K0⟩ := K0
    refine s_getI (pc := 59) dX7_tick_59 fl_X7_348 rfl e_5 ?_
    refine r_aload_n (pc := 62) dX7_tick_62 rfl ?_
    refine s_getR (pc := 63) dX7_tick_63 fl_X7_20 rfl k_b0 g_b0_2 ?_
    refine s_getR (pc := 66) dX7_tick_66 fl_X7_135 rfl k_b0_2 g_b0_2_7 ?_
    refine r_iload_n (pc := 69) dX7_tick_69 rfl ?_
    refine s_aald (pc := 70) dX7_tick_70 (by decide) rfl k_b0_2_7 i_2 g_4 ?_
    refine s_VI (pc := 71) mX5_openBits (ci := 5) (a := c_3) (As := []) dX7_tick_71 lk_X7_339 in_X5_openBits mo_X5_openBits ⟨by decide, rfl⟩ ⟨by decide, by decide⟩ (Nat.le_of_ble_eq_true rfl) e_5 (sp_X5_openBits e_5 ?_)
    refine r_iload_n (pc := 74) dX7_tick_74 rfl ?_
    refine r_iand (pc := 75) dX7_tick_75 ?_
    refine r_ior (pc := 76) dX7_tick_76 ?_
    refine s_putI (pc := 77) dX7_tick_77 fl_X7_348 rfl rfl e_5 ?_
    refine r_iinc (pc := 80) (v := l2 + 1) dX7_tick_80 rfl rfl (by decide) ?_
    refine r_goto (pc := 83) (L := [some (.ref b0), some (.int l1), some (.int (l2 + 1))]) (tgt := 38) dX7_tick_83 (by decide) ?_
    exact r_le (L' := [some (.ref b0), some (.int l1), some (.int (l2 + 1))]) ⟨rfl, ⟨rfl, ⟨rfl, trivial⟩⟩⟩ K0
set_option maxHeartbeats 2000000 in
theorem v_X8_tick_0 {K : Sh} {x : Cn} {Q : Int32 → Cn → Prop} {b0 : Nat} {b0_1 : Nat} {n_b0_1 : Nat} (k_b0 : kk K b0 = some (8, 0)) (g_b0_1 : gr x b0 1 = some b0_1) (k_b0_1 : kk K b0_1 = some (20, n_b0_1)) (K0 : vp_in 0 n_b0_1 ∧ (((0 < gi x b0_1 0) → (vp_in 4 n_b0_1 ∧ ((¬ (gi x b0_1 4) = (gi x b0_1 0) → (mSV mX8_keeps [.ref b0] K x (fun y_5 => GI mX8_tick 33 [some (.ref b0), some (.int 0)] [] K y_5 Q))) ∧ ((gi x b0_1 4) = (gi x b0_1 0) → (Q (-1) x))))) ∧ (¬ (0 < gi x b0_1 0) → (Q (-2) x)))) : mSI mX8_tick [.ref b0] K x Q := by
  refine s_I (by decide) (by simp [Value.category]) (Nat.le_of_ble_eq_true rfl) ?_
  show mGM mX8_tick 0 [some (.ref b0), none] [] (hp K x) (PI K Q)
  refine r_aload_n (pc := 0) dX8_tick_0 rfl ?_
  obtain ⟨i_1, K0⟩ := K0
  refine s_VI (pc := 1) mX8_isThere (ci := 8) (a := b0) (As := []) dX8_tick_1 lk_X8_49 in_X8_isThere mo_X8_isThere ⟨by decide, rfl⟩ ⟨by decide, by decide⟩ (Nat.le_of_ble_eq_true rfl) k_b0 (sp_X8_isThere k_b0 g_b0_1 k_b0_1 i_1 ?_)
  refine r_if_ne (pc := 4) (tgt := 10) dX8_tick_4 (by decide) (fun q => ?_) (fun q => ?_)
  · have q := b2i_nz q
    have K0 := K0.1 q
    refine r_aload_n (pc := 10) dX8_tick_10 rfl ?_
    refine s_getR (pc := 11) dX8_tick_11 fl_X8_9 rfl k_b0 g_b0_1 ?_
    refine r_iconst (pc := 14) (v := 4) dX8_tick_14 (by decide) ?_
    obtain ⟨i_3, K0⟩ := K0
    refine s_iald (pc := 15) dX8_tick_15 k_b0_1 i_3 ?_
    refine r_aload_n (pc := 16) dX8_tick_16 rfl ?_
    refine s_getR (pc := 17) dX8_tick_17 fl_X8_9 rfl k_b0 g_b0_1 ?_
    refine r_iconst (pc := 20) (v := 0) dX8_tick_20 (by decide) ?_
    refine s_iald (pc := 21) dX8_tick_21 k_b0_1 i_1 ?_
    refine r_icmp_ne (pc := 22) (tgt := 27) dX8_tick_22 (by decide) (fun q => ?_) (fun q => ?_)
    · have K0 := K0.1 q
      refine r_aload_n (pc := 27) dX8_tick_27 rfl ?_
      refine s_VV (pc := 28) mX8_keeps (ci := 8) (a := b0) (As := []) dX8_tick_28 lk_X8_366 in_X8_keeps mo_X8_keeps ⟨by decide, rfl⟩ ⟨by decide, by decide⟩ (Nat.le_of_ble_eq_true rfl) k_b0 (mSV_mono K0 (fun y_5 K0 => ?_))
      refine r_iconst (pc := 31) (v := 0) dX8_tick_31 (by decide) ?_
      refine r_istore_n (pc := 32) dX8_tick_32 (by decide) ?_
      exact r_le (L' := [some (.ref b0), some (.int 0)]) ⟨rfl, ⟨rfl, trivial⟩⟩ K0
    · have K0 := K0.2 q
      refine r_iconst (pc := 25) (v := (-1)) dX8_tick_25 (by decide) ?_
      exact s_iret rfl dX8_tick_26 K0
  · have q := (b2i_z _).mp q
    have K0 := K0.2 q
    refine r_bipush (pc := 7) (v := (-2)) dX8_tick_7 (by decide) ?_
    exact s_iret rfl dX8_tick_9 K0
set_option maxHeartbeats 2000000 in
theorem v_X8_tick_33 {K : Sh} {x : Cn} {Q : Int32 → Cn → Prop} {b0 : Nat} {l1 : Int32} {b0_1 : Nat} {n_b0_1 : Nat} {b0_3 : Nat} {n_b0_3 : Nat} (k_b0 : kk K b0 = some (8, 0)) (g_b0_1 : gr x b0 1 = some b0_1) (k_b0_1 : kk K b0_1 = some (20, n_b0_1)) (g_b0_3 : gr x b0 3 = some b0_3) (k_b0_3 : kk K b0_3 = some (20, n_b0_3)) (K0 : vp_in 2 n_b0_1 ∧ (((gi x b0_1 2) ≤ l1 → (vp_in 4 n_b0_1 ∧ (Q (gi (ui x b0_1 4 ((gi x b0_1 4) + 1)) b0_1 4) (ui x b0_1 4 ((gi x b0_1 4) + 1))))) ∧ (¬ (gi x b0_1 2) ≤ l1 → ((l24 l1 n_b0_3) ∧ (vp_in 4 n_b0_1 ∧ (mSV mX8_goes [.ref b0, .int l1, .int ((so (gi x b0_3) (l1 : Int32).toNatClampNeg 7) &&& (1 <<< ((gi x b0_1 4) &&& 31))), .int 0, .int 1] K x (fun y_6 => GI mX8_tick 33 [some (.ref b0), some (.int (l1 + 1))] [] K y_6 Q))))))) : GI mX8_tick 33 [some (.ref b0), some (.int l1)] [] K x Q := by
  show mGM mX8_tick 33 [some (.ref b0), some (.int l1)] [] (hp K x) (PI K Q)
  refine r_iload_n (pc := 33) dX8_tick_33 rfl ?_
  refine r_aload_n (pc := 34) dX8_tick_34 rfl ?_
  refine s_getR (pc := 35) dX8_tick_35 fl_X8_9 rfl k_b0 g_b0_1 ?_
  refine r_iconst (pc := 38) (v := 2) dX8_tick_38 (by decide) ?_
  obtain ⟨i_1, K0⟩ := K0
  refine s_iald (pc := 39) dX8_tick_39 k_b0_1 i_1 ?_
  refine r_icmp_ge (pc := 40) (tgt := 72) dX8_tick_40 (by decide) (fun q => ?_) (fun q => ?_)
  · have K0 := K0.1 q
    refine r_aload_n (pc := 72) dX8_tick_72 rfl ?_
    refine s_getR (pc := 73) dX8_tick_73 fl_X8_9 rfl k_b0 g_b0_1 ?_
    refine r_iconst (pc := 76) (v := 4) dX8_tick_76 (by decide) ?_
    refine r_dup2 (pc := 77) dX8_tick_77 rfl rfl ?_
    obtain ⟨i_3, K0⟩ := K0
    refine s_iald (pc := 78) dX8_tick_78 k_b0_1 i_3 ?_
    refine r_iconst (pc := 79) (v := 1) dX8_tick_79 (by decide) ?_
    refine r_iadd (pc := 80) dX8_tick_80 ?_
    refine s_iast (pc := 81) dX8_tick_81 k_b0_1 i_3 ?_
    refine r_aload_n (pc := 82) dX8_tick_82 rfl ?_
    refine s_getR (pc := 83) dX8_tick_83 fl_X8_9 rfl k_b0 g_b0_1 ?_
    refine r_iconst (pc := 86) (v := 4) dX8_tick_86 (by decide) ?_
    refine s_iald (pc := 87) dX8_tick_87 k_b0_1 i_3 ?_
    exact s_iret rfl dX8_tick_88 K0
  · have K0 := K0.2 q
    refine r_aload_n (pc := 43) dX8_tick_43 rfl ?_
    refine r_iload_n (pc := 44) dX8_tick_44 rfl ?_
    refine r_aload_n (pc := 45) dX8_tick_45 rfl ?_
    refine r_iload_n (pc := 46) dX8_tick_46 rfl ?_
    refine r_bipush (pc := 47) (v := 7) dX8_tick_47 (by decide) ?_
    obtain ⟨p_4, K0⟩ := K0
    refine s_VI (pc := 49) mX8_one (ci := 8) (a := b0) (As := [.int l1, .int 7]) dX8_tick_49 lk_X8_67 in_X8_one mo_X8_one ⟨by decide, rfl⟩ ⟨by decide, by decide⟩ (Nat.le_of_ble_eq_true rfl) k_b0 (sr_X8_one k_b0 g_b0_3 k_b0_3 p_4 ⟨by decide, by decide⟩ ?_)
    refine r_iconst (pc := 52) (v := 1) dX8_tick_52 (by decide) ?_
    refine r_aload_n (pc := 53) dX8_tick_53 rfl ?_
    refine s_getR (pc := 54) dX8_tick_54 fl_X8_9 rfl k_b0 g_b0_1 ?_
    refine r_iconst (pc := 57) (v := 4) dX8_tick_57 (by decide) ?_
    obtain ⟨i_5, K0⟩ := K0
    refine s_iald (pc := 58) dX8_tick_58 k_b0_1 i_5 ?_
    refine r_ishl (pc := 59) dX8_tick_59 ?_
    refine r_iand (pc := 60) dX8_tick_60 ?_
    refine r_iconst (pc := 61) (v := 0) dX8_tick_61 (by decide) ?_
    refine r_iconst (pc := 62) (v := 1) dX8_tick_62 (by decide) ?_
    refine s_VV (pc := 63) mX8_goes (ci := 8) (a := b0) (As := [.int l1, .int ((so (gi x b0_3) (l1 : Int32).toNatClampNeg 7) &&& (1 <<< ((gi x b0_1 4) &&& 31))), .int 0, .int 1]) dX8_tick_63 lk_X8_369 in_X8_goes mo_X8_goes ⟨by decide, rfl⟩ ⟨by decide, by decide⟩ (Nat.le_of_ble_eq_true rfl) k_b0 (mSV_mono K0 (fun y_6 K0 => ?_))
    refine r_iinc (pc := 66) (v := l1 + 1) dX8_tick_66 rfl rfl (by decide) ?_
    refine r_goto (pc := 69) (L := [some (.ref b0), some (.int (l1 + 1))]) (tgt := 33) dX8_tick_69 (by decide) ?_
    exact r_le (L' := [some (.ref b0), some (.int (l1 + 1))]) ⟨rfl, ⟨rfl, trivial⟩⟩ K0
section
theorem sq_X8_tick {y : Cn} {Q : Int32 → Cn → Prop} {T : TT} {W C S A N n : Nat} {H : Nat → TT} (r : RS y T n H) (F : WF T W C S A N) (k1 : ¬ 0 < nI W → Q (-2) y) (k2 : 0 < nI W → N = W → Q (-1) y) (k3 : 0 < nI W → ¬ N = W → ∀ z, RFr y z → RS z (uT (accT (tkS N) S T) 4 (nI (N + 1))) (pn n) (push H n T) → Q (nI (N + 1)) z) : mSI mX8_tick [.ref 717] KW y Q := by
  have hS : S ≤ 24 := F.2.2.2.2.2.2.1
  have hW : W ≤ 30 := F.2.2.1
  have hN : N ≤ W := F.2.2.2.2.2.2.2.2.2.2.1
  have M := r.1
  refine v_X8_tick_0 km M.1 km1 ⟨v0 (k := 0) (by decide) rfl rfl, ?_⟩
  rw [r.2.1, F.1, F.2.2.2.2.2.2.2.2.2.1, nI_eq (by omega) (by omega)]
  refine ⟨fun z1 => ⟨v0 (k := 4) (by decide) rfl rfl, fun z2 => r.keeps (fun z f1 r1 => ?_), fun z2 => k2 z1 z2⟩, fun z => k1 z⟩
  have k3 := k3 z1 z2
  refine lp_acc (tkS N) (fun s T' => ∀ v, RFr y v → RS v T' (pn n) (push H n T) → T' 2 = nI S → T' 4 = nI N → GI mX8_tick 33 [some (.ref 717), some (.int (nI s))] [] KW v Q) S T ?_ (fun s T' hs n1 => ?_) z f1 r1 F.2.2.2.2.2.1 F.2.2.2.2.2.2.2.2.2.1
  · intro v f r2 t2 t4
    refine v_X8_tick_33 km r2.1.1 km1 r2.1.2.2.1 km1 ⟨v0 (k := 2) (by decide) rfl rfl, fun _ => ⟨v0 (k := 4) (by decide) rfl rfl, ?_⟩, fun z => absurd (by rw [r2.2.1, t2]; exact Int32.le_refl _) z⟩
    rw [gi_ui, if_pos ⟨rfl, rfl⟩, r2.2.1, t4, nI_1]
    exact k3 _ f.u8 r2.u8
  · intro v f r2 t2 t4
    refine v_X8_tick_33 km r2.1.1 km1 r2.1.2.2.1 km1 ⟨v0 (k := 2) (by decide) rfl rfl, fun z => absurd (by rw [r2.2.1, t2] at z; exact z) (nI_ge hs (by omega)), fun _ => ⟨l24_nI (by omega) rfl, v0 (k := 4) (by decide) rfl rfl, ?_⟩⟩
    rw [r2.2.1, t4, nI_clamp (by omega), nI_1]
    refine sp_X8_goes (k := 0) (o := 1) r2 (by omega) (by decide) (by decide) (by decide) (fun v2 f2 r3 => n1 _ rfl v2 (f.tr f2) r3 ?_ ?_)
    · show goT T' s _ 0 1 2 = _
      rw [goT_off _ _ _ (by decide) (by decide) 2 (by omega)]; exact t2
    · show goT T' s _ 0 1 4 = _
      rw [goT_off _ _ _ (by decide) (by decide) 4 (by omega)]; exact t4
/-! gives -/
theorem goT_0 (T : TT) (s k o : Nat) (hk : k < 5) (ho : o < 5) (hko : k ≠ o) : goT T s 0 k o = T := by
  funext i
  unfold goT
  rw [show ((0 : Int32) ^^^ (-1)) = -1 by decide, show so T s (7 + k) &&& (-1) = so T s (7 + k) from Int32.and_neg_one, Int32.or_zero]
  unfold uT so
  by_cases c : i = 62 + 12 * s + (7 + o)
  · rw [if_pos c, c]
  · rw [if_neg c]
    by_cases d : i = 62 + 12 * s + (7 + k)
    · rw [if_pos d, d]
    · rw [if_neg d]
theorem cpt_z {v : Int32} (h : cpt v = 0) : v = 0 := by
  by_cases c : v.toBitVec.toNat = 0
  · exact tn_inj (by rw [c]; rfl)
  · have := npc_pos 32 v.toBitVec.toNat (by omega) (tn_lt v)
    unfold cpt at h
    omega
def gvS (W N : Nat) (a b : Int32) : Nat → TT × Int32 → TT × Int32 := fun s t => if so t.1 s 0 = a ∧ so t.1 s 1 = b then (goT t.1 s (opf t.1 W s (N + 4)) 0 4, t.2 + nI (cpt (opf t.1 W s (N + 4)))) else t
end
set_option maxHeartbeats 2000000 in
theorem v_X7_gives_0 {K : Sh} {x : Cn} {Q : Int32 → Cn → Prop} {b0 : Nat} {l1 : Int32} {l2 : Int32} {b0_3 : Nat} {b0_2 : Nat} (k_b0 : kk K b0 = some (7, 0)) (g_b0_3 : gr x b0 3 = some b0_3) (k_b0_3 : kk K b0_3 = some (1, 0)) (g_b0_2 : gr x b0 2 = some b0_2) (k_b0_2 : kk K b0_2 = some (4, 0)) (K0 : (¬ (0 ≤ l1 ∧ l1 < gi x b0_3 0) → (Q (-2) x)) ∧ ((0 ≤ l1 ∧ l1 < gi x b0_3 0) → (((0 < gi x b0_2 0 ∧ 0 ≤ l2 ∧ l2 < 7) → (GI mX7_gives 38 [some (.ref b0), some (.int l1), some (.int l2), some (.int (f_bf ((gi x b0_2 1) + 4))), some (.int 0), some (.int 0), none, none] [] K x Q)) ∧ (¬ (0 < gi x b0_2 0 ∧ 0 ≤ l2 ∧ l2 < 7) → (Q (-2) x))))) : mSI mX7_gives [.ref b0, .int l1, .int l2] K x Q := by
  refine s_I (by decide) (by simp [Value.category]) (Nat.le_of_ble_eq_true rfl) ?_
  show mGM mX7_gives 0 [some (.ref b0), some (.int l1), some (.int l2), none, none, none, none, none] [] (hp K x) (PI K Q)
  refine r_aload_n (pc := 0) dX7_gives_0 rfl ?_
  refine r_iload_n (pc := 1) dX7_gives_1 rfl ?_
  refine s_VI (pc := 2) mX7_isCarrier (ci := 7) (a := b0) (As := [.int l1]) dX7_gives_2 lk_X7_109 in_X7_isCarrier mo_X7_isCarrier ⟨by decide, rfl⟩ ⟨by decide, by decide⟩ (Nat.le_of_ble_eq_true rfl) k_b0 (sp_X7_isCarrier k_b0 g_b0_3 k_b0_3 ?_)
  refine r_if_eq (pc := 5) (tgt := 16) dX7_gives_5 (by decide) (fun q => ?_) (fun q => ?_)
  · have q := (b2i_z _).mp q
    have K0 := K0.1 q
    refine r_bipush (pc := 16) (v := (-2)) dX7_gives_16 (by decide) ?_
    exact s_iret rfl dX7_gives_18 K0
  · have q := b2i_nz q
    have K0 := K0.2 q
    refine r_aload_n (pc := 8) dX7_gives_8 rfl ?_
    refine r_iload_n (pc := 9) dX7_gives_9 rfl ?_
    refine s_VI (pc := 10) mX7_isDay (ci := 7) (a := b0) (As := [.int l2]) dX7_gives_10 lk_X7_245 in_X7_isDay mo_X7_isDay ⟨by decide, rfl⟩ ⟨by decide, by decide⟩ (Nat.le_of_ble_eq_true rfl) k_b0 (sp_X7_isDay k_b0 g_b0_2 k_b0_2 ?_)
    refine r_if_ne (pc := 13) (tgt := 19) dX7_gives_13 (by decide) (fun q => ?_) (fun q => ?_)
    · have q := b2i_nz q
      have K0 := K0.1 q
      refine r_aload_n (pc := 19) dX7_gives_19 rfl ?_
      refine s_getR (pc := 20) dX7_gives_20 fl_X7_20 rfl k_b0 g_b0_2 ?_
      refine s_getI (pc := 23) dX7_gives_23 fl_X7_103 rfl k_b0_2 ?_
      refine r_iconst (pc := 26) (v := 4) dX7_gives_26 (by decide) ?_
      refine r_iadd (pc := 27) dX7_gives_27 ?_
      refine s_SI (pc := 28) mX7_bitsFrom (As := [.int ((gi x b0_2 1) + 4)]) dX7_gives_28 lk_X7_342 st_X7_bitsFrom mo_X7_bitsFrom ⟨by decide, by decide⟩ (Nat.le_of_ble_eq_true rfl) (sp_X7_bitsFrom  ?_)
      refine r_istore_n (pc := 31) dX7_gives_31 (by decide) ?_
      refine r_iconst (pc := 32) (L := [some (.ref b0), some (.int l1), some (.int l2), some (.int (f_bf ((gi x b0_2 1) + 4))), none, none, none, none]) (v := 0) dX7_gives_32 (by decide) ?_
      refine r_istore (pc := 33) dX7_gives_33 (by decide) ?_
      refine r_iconst (pc := 35) (L := [some (.ref b0), some (.int l1), some (.int l2), some (.int (f_bf ((gi x b0_2 1) + 4))), some (.int 0), none, none, none]) (v := 0) dX7_gives_35 (by decide) ?_
      refine r_istore (pc := 36) dX7_gives_36 (by decide) ?_
      exact r_le (L' := [some (.ref b0), some (.int l1), some (.int l2), some (.int (f_bf ((gi x b0_2 1) + 4))), some (.int 0), some (.int 0), none, none]) ⟨rfl, ⟨rfl, ⟨rfl, ⟨rfl, ⟨rfl, ⟨rfl, trivial⟩⟩⟩⟩⟩⟩ K0
    · have q := (b2i_z _).mp q
      have K0 := K0.2 q
      refine r_bipush (pc := 16) (v := (-2)) dX7_gives_16 (by decide) ?_
      exact s_iret rfl dX7_gives_18 K0
set_option maxHeartbeats 2000000 in
theorem v_X7_gives_38 {K : Sh} {x : Cn} {Q : Int32 → Cn → Prop} {b0 : Nat} {l1 : Int32} {l2 : Int32} {l3 : Int32} {l4 : Int32} {l5 : Int32} {b0_2 : Nat} {b0_2_7 : Nat} {n_b0_2_7 : Nat} (k_b0 : kk K b0 = some (7, 0)) (g_b0_2 : gr x b0 2 = some b0_2) (k_b0_2 : kk K b0_2 = some (4, 0)) (g_b0_2_7 : gr x b0_2 7 = some b0_2_7) (k_b0_2_7 : kk K b0_2_7 = some (23, n_b0_2_7)) (K0 : ((gi x b0_2 3) ≤ l5 → (Q l4 x)) ∧ (¬ (gi x b0_2 3) ≤ l5 → (vp_in l5 n_b0_2_7 ∧ (∃ c_3 : Nat, gr x b0_2_7 ((l5 : Int32).toNatClampNeg) = some c_3 ∧ (kk K c_3 = some (5, 0) ∧ ((¬ (gi x c_3 0 = l1 ∧ (l2 = -1 ∨ gi x c_3 1 = l2)) → (GI mX7_gives 38 [some (.ref b0), some (.int l1), some (.int l2), some (.int l3), some (.int l4), some (.int (l5 + 1)), none, none] [] K x Q)) ∧ ((gi x c_3 0 = l1 ∧ (l2 = -1 ∨ gi x c_3 1 = l2)) → ((((f_open x c_3) &&& l3) = 0 → (GI mX7_gives 38 [some (.ref b0), some (.int l1), some (.int l2), some (.int l3), some (.int l4), some (.int (l5 + 1)), none, none] [] K x Q)) ∧ (¬ ((f_open x c_3) &&& l3) = 0 → ((¬ l4 = 0 → (GI mX7_gives 38 [some (.ref b0), some (.int l1), some (.int l2), some (.int l3), some (.int (l4 + (nI (cpt ((f_open x c_3) &&& l3))))), some (.int (l5 + 1)), none, none] [] K (ui x c_3 11 ((gi x c_3 11) ||| ((f_open x c_3) &&& l3))) Q)) ∧ (l4 = 0 → (mSV mX7_remember [.ref b0] K x (fun y_9 => GI mX7_gives 38 [some (.ref b0), some (.int l1), some (.int l2), some (.int l3), some (.int (l4 + (nI (cpt ((f_open x c_3) &&& l3))))), some (.int (l5 + 1)), none, none] [] K (ui y_9 c_3 11 ((gi y_9 c_3 11) ||| ((f_open x c_3) &&& l3))) Q))))))))))))) : GI mX7_gives 38 [some (.ref b0), some (.int l1), some (.int l2), some (.int l3), some (.int l4), some (.int l5), none, none] [] K x Q := by
  show mGM mX7_gives 38 [some (.ref b0), some (.int l1), some (.int l2), some (.int l3), some (.int l4), some (.int l5), none, none] [] (hp K x) (PI K Q)
  refine r_iload (pc := 38) dX7_gives_38 rfl ?_
  refine r_aload_n (pc := 40) dX7_gives_40 rfl ?_
  refine s_getR (pc := 41) dX7_gives_41 fl_X7_20 rfl k_b0 g_b0_2 ?_
  refine s_getI (pc := 44) dX7_gives_44 fl_X7_97 rfl k_b0_2 ?_
  refine r_icmp_ge (pc := 47) (tgt := 127) dX7_gives_47 (by decide) (fun q => ?_) (fun q => ?_)
  · have K0 := K0.1 q
    refine r_iload (pc := 127) dX7_gives_127 rfl ?_
    exact s_iret rfl dX7_gives_129 K0
  · have K0 := K0.2 q
    refine r_aload_n (pc := 50) dX7_gives_50 rfl ?_
    refine s_getR (pc := 51) dX7_gives_51 fl_X7_20 rfl k_b0 g_b0_2 ?_
    refine s_getR (pc := 54) dX7_gives_54 fl_X7_135 rfl k_b0_2 g_b0_2_7 ?_
    refine r_iload (pc := 57) dX7_gives_57 rfl ?_
    obtain ⟨i_2, K0⟩ := K0
    obtain ⟨c_3, g_4, K0⟩ := K0
    refine s_aald (pc := 59) dX7_gives_59 (by decide) rfl k_b0_2_7 i_2 g_4 ?_
    refine r_astore (pc := 60) dX7_gives_60 (by decide) ?_
    refine r_aload (pc := 62) (L := [some (.ref b0), some (.int l1), some (.int l2), some (.int l3), some (.int l4), some (.int l5), some (.ref c_3), none]) dX7_gives_62 rfl ?_
    refine r_iload_n (pc := 64) dX7_gives_64 rfl ?_
    refine r_iload_n (pc := 65) dX7_gives_65 rfl ?_
    obtain ⟨e_5, K0⟩ := K0
    refine s_VI (pc := 66) mX5_isOf (ci := 5) (a := c_3) (As := [.int l1, .int l2]) dX7_gives_66 lk_X7_248 in_X5_isOf mo_X5_isOf ⟨by decide, rfl⟩ ⟨by decide, by decide⟩ (Nat.le_of_ble_eq_true rfl) e_5 (sp_X5_isOf e_5 ?_)
    refine r_if_eq (pc := 69) (tgt := 82) dX7_gives_69 (by decide) (fun q => ?_) (fun q => ?_)
    · have q := (b2i_z _).mp q
      have K0 := K0.1 q
      refine r_iconst (pc := 82) (v := 0) dX7_gives_82 (by decide) ?_
      refine r_istore (pc := 83) dX7_gives_83 (by decide) ?_
      refine r_iload (pc := 85) (L := [some (.ref b0), some (.int l1), some (.int l2), some (.int l3), some (.int l4), some (.int l5), some (.ref c_3), some (.int 0)]) dX7_gives_85 rfl ?_
      refine r_if_eq (pc := 87) (tgt := 121) dX7_gives_87 (by decide) (fun _ => ?_) (fun q => by first | exact absurd q (by decide) | exact absurd (by decide) q)
      refine r_iinc (pc := 121) (v := l5 + 1) dX7_gives_121 rfl rfl (by decide) ?_
      refine r_goto (pc := 124) (L := [some (.ref b0), some (.int l1), some (.int l2), some (.int l3), some (.int l4), some (.int (l5 + 1)), some (.ref c_3), some (.int 0)]) (tgt := 38) dX7_gives_124 (by decide) ?_
      exact r_le (L' := [some (.ref b0), some (.int l1), some (.int l2), some (.int l3), some (.int l4), some (.int (l5 + 1)), none, none]) ⟨rfl, ⟨rfl, ⟨rfl, ⟨rfl, ⟨rfl, ⟨rfl, trivial⟩⟩⟩⟩⟩⟩ K0
    · have q := b2i_nz q
      have K0 := K0.2 q
      refine r_aload (pc := 72) dX7_gives_72 rfl ?_
      refine s_VI (pc := 74) mX5_openBits (ci := 5) (a := c_3) (As := []) dX7_gives_74 lk_X7_339 in_X5_openBits mo_X5_openBits ⟨by decide, rfl⟩ ⟨by decide, by decide⟩ (Nat.le_of_ble_eq_true rfl) e_5 (sp_X5_openBits e_5 ?_)
      refine r_iload_n (pc := 77) dX7_gives_77 rfl ?_
      refine r_iand (pc := 78) dX7_gives_78 ?_
      refine r_goto (pc := 79) (tgt := 83) dX7_gives_79 (by decide) ?_
      refine r_istore (pc := 83) dX7_gives_83 (by decide) ?_
      refine r_iload (pc := 85) (L := [some (.ref b0), some (.int l1), some (.int l2), some (.int l3), some (.int l4), some (.int l5), some (.ref c_3), some (.int ((f_open x c_3) &&& l3))]) dX7_gives_85 rfl ?_
      refine r_if_eq (pc := 87) (tgt := 121) dX7_gives_87 (by decide) (fun q => ?_) (fun q => ?_)
      · have K0 := K0.1 q
        refine r_iinc (pc := 121) (v := l5 + 1) dX7_gives_121 rfl rfl (by decide) ?_
        refine r_goto (pc := 124) (L := [some (.ref b0), some (.int l1), some (.int l2), some (.int l3), some (.int l4), some (.int (l5 + 1)), some (.ref c_3), some (.int ((f_open x c_3) &&& l3))]) (tgt := 38) dX7_gives_124 (by decide) ?_
        exact r_le (L' := [some (.ref b0), some (.int l1), some (.int l2), some (.int l3), some (.int l4), some (.int (l5 + 1)), none, none]) ⟨rfl, ⟨rfl, ⟨rfl, ⟨rfl, ⟨rfl, ⟨rfl, trivial⟩⟩⟩⟩⟩⟩ K0
      · have K0 := K0.2 q
        refine r_iload (pc := 90) dX7_gives_90 rfl ?_
        refine r_if_ne (pc := 92) (tgt := 99) dX7_gives_92 (by decide) (fun q => ?_) (fun q => ?_)
        · have K0 := K0.1 q
          refine r_aload (pc := 99) dX7_gives_99 rfl ?_
          refine r_dup (pc := 101) dX7_gives_101 rfl ?_
          refine s_getI (pc := 102) dX7_gives_102 fl_X7_345 rfl e_5 ?_
          refine r_iload (pc := 105) dX7_gives_105 rfl ?_
          refine r_ior (pc := 107) dX7_gives_107 ?_
          refine s_putI (pc := 108) dX7_gives_108 fl_X7_345 rfl rfl e_5 ?_
          refine r_iload (pc := 111) dX7_gives_111 rfl ?_
          refine r_iload (pc := 113) dX7_gives_113 rfl ?_
          refine s_SI (pc := 115) mJ6_bitCount_0f7a4 (As := [.int ((f_open x c_3) &&& l3)]) dX7_gives_115 lk_X7_255 st_J6_bitCount_0f7a4 mo_J6_bitCount_0f7a4 ⟨by decide, by decide⟩ (Nat.le_of_ble_eq_true rfl) (sp_bc  ?_)
          refine r_iadd (pc := 118) dX7_gives_118 ?_
          refine r_istore (pc := 119) dX7_gives_119 (by decide) ?_
          refine r_iinc (pc := 121) (L := [some (.ref b0), some (.int l1), some (.int l2), some (.int l3), some (.int (l4 + (nI (cpt ((f_open x c_3) &&& l3))))), some (.int l5), some (.ref c_3), some (.int ((f_open x c_3) &&& l3))]) (v := l5 + 1) dX7_gives_121 rfl rfl (by decide) ?_
          refine r_goto (pc := 124) (L := [some (.ref b0), some (.int l1), some (.int l2), some (.int l3), some (.int (l4 + (nI (cpt ((f_open x c_3) &&& l3))))), some (.int (l5 + 1)), some (.ref c_3), some (.int ((f_open x c_3) &&& l3))]) (tgt := 38) dX7_gives_124 (by decide) ?_
          exact r_le (L' := [some (.ref b0), some (.int l1), some (.int l2), some (.int l3), some (.int (l4 + (nI (cpt ((f_open x c_3) &&& l3))))), some (.int (l5 + 1)), none, none]) ⟨rfl, ⟨rfl, ⟨rfl, ⟨rfl, ⟨rfl, ⟨rfl, trivial⟩⟩⟩⟩⟩⟩ K0
        · have K0 := K0.2 q
          refine r_aload_n (pc := 95) dX7_gives_95 rfl ?_
          refine s_VV (pc := 96) mX7_remember (ci := 7) (a := b0) (As := []) dX7_gives_96 lk_X7_333 in_X7_remember mo_X7_remember ⟨by decide, rfl⟩ ⟨by decide, by decide⟩ (Nat.le_of_ble_eq_true rfl) k_b0 (mSV_mono K0 (fun y_9 K0 => ?_))
          refine r_aload (pc := 99) dX7_gives_99 rfl ?_
          refine r_dup (pc := 101) dX7_gives_101 rfl ?_
          refine s_getI (pc := 102) dX7_gives_102 fl_X7_345 rfl e_5 ?_
          refine r_iload (pc := 105) dX7_gives_105 rfl ?_
          refine r_ior (pc := 107) dX7_gives_107 ?_
          refine s_putI (pc := 108) dX7_gives_108 fl_X7_345 rfl rfl e_5 ?_
          refine r_iload (pc := 111) dX7_gives_111 rfl ?_
          refine r_iload (pc := 113) dX7_gives_113 rfl ?_
          refine s_SI (pc := 115) mJ6_bitCount_0f7a4 (As := [.int ((f_open x c_3) &&& l3)]) dX7_gives_115 lk_X7_255 st_J6_bitCount_0f7a4 mo_J6_bitCount_0f7a4 ⟨by decide, by decide⟩ (Nat.le_of_ble_eq_true rfl) (sp_bc  ?_)
          refine r_iadd (pc := 118) dX7_gives_118 ?_
          refine r_istore (pc := 119) dX7_gives_119 (by decide) ?_
          refine r_iinc (pc := 121) (L := [some (.ref b0), some (.int l1), some (.int l2), some (.int l3), some (.int (l4 + (nI (cpt ((f_open x c_3) &&& l3))))), some (.int l5), some (.ref c_3), some (.int ((f_open x c_3) &&& l3))]) (v := l5 + 1) dX7_gives_121 rfl rfl (by decide) ?_
          refine r_goto (pc := 124) (L := [some (.ref b0), some (.int l1), some (.int l2), some (.int l3), some (.int (l4 + (nI (cpt ((f_open x c_3) &&& l3))))), some (.int (l5 + 1)), some (.ref c_3), some (.int ((f_open x c_3) &&& l3))]) (tgt := 38) dX7_gives_124 (by decide) ?_
          exact r_le (L' := [some (.ref b0), some (.int l1), some (.int l2), some (.int l3), some (.int (l4 + (nI (cpt ((f_open x c_3) &&& l3))))), some (.int (l5 + 1)), none, none]) ⟨rfl, ⟨rfl, ⟨rfl, ⟨rfl, ⟨rfl, ⟨rfl, trivial⟩⟩⟩⟩⟩⟩ K0
set_option maxHeartbeats 2000000 in
theorem v_X8_gives_0 {K : Sh} {x : Cn} {Q : Int32 → Cn → Prop} {b0 : Nat} {l1 : Int32} {l2 : Int32} {b0_1 : Nat} {n_b0_1 : Nat} (k_b0 : kk K b0 = some (8, 0)) (g_b0_1 : gr x b0 1 = some b0_1) (k_b0_1 : kk K b0_1 = some (20, n_b0_1)) (K0 : vp_in 1 n_b0_1 ∧ ((¬ (0 ≤ l1 ∧ l1 ≤ gi x b0_1 1 - 1) → (Q (-2) x)) ∧ ((0 ≤ l1 ∧ l1 ≤ gi x b0_1 1 - 1) → (vp_in 0 n_b0_1 ∧ (((0 < gi x b0_1 0 ∧ 0 ≤ l2 ∧ l2 ≤ 6) → (GI mX8_gives 24 [some (.ref b0), some (.int l1), some (.int l2), some (.int 0), some (.int 0), none] [] K x Q)) ∧ (¬ (0 < gi x b0_1 0 ∧ 0 ≤ l2 ∧ l2 ≤ 6) → (Q (-2) x))))))) : mSI mX8_gives [.ref b0, .int l1, .int l2] K x Q := by
  refine s_I (by decide) (by simp [Value.category]) (Nat.le_of_ble_eq_true rfl) ?_
  show mGM mX8_gives 0 [some (.ref b0), some (.int l1), some (.int l2), none, none, none] [] (hp K x) (PI K Q)
  refine r_aload_n (pc := 0) dX8_gives_0 rfl ?_
  refine r_iload_n (pc := 1) dX8_gives_1 rfl ?_
  obtain ⟨i_1, K0⟩ := K0
  refine s_VI (pc := 2) mX8_isCarrier (ci := 8) (a := b0) (As := [.int l1]) dX8_gives_2 lk_X8_265 in_X8_isCarrier mo_X8_isCarrier ⟨by decide, rfl⟩ ⟨by decide, by decide⟩ (Nat.le_of_ble_eq_true rfl) k_b0 (sp_X8_isCarrier k_b0 g_b0_1 k_b0_1 i_1 ?_)
  refine r_if_eq (pc := 5) (tgt := 16) dX8_gives_5 (by decide) (fun q => ?_) (fun q => ?_)
  · have q := (b2i_z _).mp q
    have K0 := K0.1 q
    refine r_bipush (pc := 16) (v := (-2)) dX8_gives_16 (by decide) ?_
    exact s_iret rfl dX8_gives_18 K0
  · have q := b2i_nz q
    have K0 := K0.2 q
    refine r_aload_n (pc := 8) dX8_gives_8 rfl ?_
    refine r_iload_n (pc := 9) dX8_gives_9 rfl ?_
    obtain ⟨i_3, K0⟩ := K0
    refine s_VI (pc := 10) mX8_isDay (ci := 8) (a := b0) (As := [.int l2]) dX8_gives_10 lk_X8_61 in_X8_isDay mo_X8_isDay ⟨by decide, rfl⟩ ⟨by decide, by decide⟩ (Nat.le_of_ble_eq_true rfl) k_b0 (sp_X8_isDay k_b0 g_b0_1 k_b0_1 i_3 ?_)
    refine r_if_ne (pc := 13) (tgt := 19) dX8_gives_13 (by decide) (fun q => ?_) (fun q => ?_)
    · have q := b2i_nz q
      have K0 := K0.1 q
      refine r_iconst (pc := 19) (v := 0) dX8_gives_19 (by decide) ?_
      refine r_istore_n (pc := 20) dX8_gives_20 (by decide) ?_
      refine r_iconst (pc := 21) (L := [some (.ref b0), some (.int l1), some (.int l2), some (.int 0), none, none]) (v := 0) dX8_gives_21 (by decide) ?_
      refine r_istore (pc := 22) dX8_gives_22 (by decide) ?_
      exact r_le (L' := [some (.ref b0), some (.int l1), some (.int l2), some (.int 0), some (.int 0), none]) ⟨rfl, ⟨rfl, ⟨rfl, ⟨rfl, ⟨rfl, trivial⟩⟩⟩⟩⟩ K0
    · have q := (b2i_z _).mp q
      have K0 := K0.2 q
      refine r_bipush (pc := 16) (v := (-2)) dX8_gives_16 (by decide) ?_
      exact s_iret rfl dX8_gives_18 K0
set_option maxHeartbeats 2000000 in
theorem v_X8_gives_24 {K : Sh} {x : Cn} {Q : Int32 → Cn → Prop} {b0 : Nat} {l1 : Int32} {l2 : Int32} {l3 : Int32} {l4 : Int32} {b0_1 : Nat} {n_b0_1 : Nat} {b0_3 : Nat} {n_b0_3 : Nat} (k_b0 : kk K b0 = some (8, 0)) (g_b0_1 : gr x b0 1 = some b0_1) (k_b0_1 : kk K b0_1 = some (20, n_b0_1)) (g_b0_3 : gr x b0 3 = some b0_3) (k_b0_3 : kk K b0_3 = some (20, n_b0_3)) (K0 : vp_in 2 n_b0_1 ∧ (((gi x b0_1 2) ≤ l4 → (Q l3 x)) ∧ (¬ (gi x b0_1 2) ≤ l4 → ((l24 l4 n_b0_3) ∧ ((¬ (so (gi x b0_3) (l4 : Int32).toNatClampNeg 0) = l1 → (GI mX8_gives 24 [some (.ref b0), some (.int l1), some (.int l2), some (.int l3), some (.int (l4 + 1)), none] [] K x Q)) ∧ ((so (gi x b0_3) (l4 : Int32).toNatClampNeg 0) = l1 → (((so (gi x b0_3) (l4 : Int32).toNatClampNeg 1) = l2 → (vp_in 4 n_b0_1 ∧ (mSI mX8_openFrom [.ref b0, .int l4, .int ((gi x b0_1 4) + 4)] K x (fun r_8 y_7 => (r_8 = 0 → (mSV mX8_goes [.ref b0, .int l4, .int r_8, .int 0, .int 4] K y_7 (fun y_10 => GI mX8_gives 24 [some (.ref b0), some (.int l1), some (.int l2), some (.int (l3 + (nI (cpt r_8)))), some (.int (l4 + 1)), none] [] K y_10 Q))) ∧ (¬ r_8 = 0 → ((¬ l3 = 0 → (mSV mX8_goes [.ref b0, .int l4, .int r_8, .int 0, .int 4] K y_7 (fun y_12 => GI mX8_gives 24 [some (.ref b0), some (.int l1), some (.int l2), some (.int (l3 + (nI (cpt r_8)))), some (.int (l4 + 1)), none] [] K y_12 Q))) ∧ (l3 = 0 → (mSV mX8_keeps [.ref b0] K y_7 (fun y_13 => mSV mX8_goes [.ref b0, .int l4, .int r_8, .int 0, .int 4] K y_13 (fun y_14 => GI mX8_gives 24 [some (.ref b0), some (.int l1), some (.int l2), some (.int (l3 + (nI (cpt r_8)))), some (.int (l4 + 1)), none] [] K y_14 Q)))))))))) ∧ (¬ (so (gi x b0_3) (l4 : Int32).toNatClampNeg 1) = l2 → (GI mX8_gives 24 [some (.ref b0), some (.int l1), some (.int l2), some (.int l3), some (.int (l4 + 1)), none] [] K x Q))))))))) : GI mX8_gives 24 [some (.ref b0), some (.int l1), some (.int l2), some (.int l3), some (.int l4), none] [] K x Q := by
  show mGM mX8_gives 24 [some (.ref b0), some (.int l1), some (.int l2), some (.int l3), some (.int l4), none] [] (hp K x) (PI K Q)
  refine r_iload (pc := 24) dX8_gives_24 rfl ?_
  refine r_aload_n (pc := 26) dX8_gives_26 rfl ?_
  refine s_getR (pc := 27) dX8_gives_27 fl_X8_9 rfl k_b0 g_b0_1 ?_
  refine r_iconst (pc := 30) (v := 2) dX8_gives_30 (by decide) ?_
  obtain ⟨i_1, K0⟩ := K0
  refine s_iald (pc := 31) dX8_gives_31 k_b0_1 i_1 ?_
  refine r_icmp_ge (pc := 32) (tgt := 113) dX8_gives_32 (by decide) (fun q => ?_) (fun q => ?_)
  · have K0 := K0.1 q
    refine r_iload_n (pc := 113) dX8_gives_113 rfl ?_
    exact s_iret rfl dX8_gives_114 K0
  · have K0 := K0.2 q
    refine r_aload_n (pc := 35) dX8_gives_35 rfl ?_
    refine r_iload (pc := 36) dX8_gives_36 rfl ?_
    refine r_iconst (pc := 38) (v := 0) dX8_gives_38 (by decide) ?_
    obtain ⟨p_3, K0⟩ := K0
    refine s_VI (pc := 39) mX8_one (ci := 8) (a := b0) (As := [.int l4, .int 0]) dX8_gives_39 lk_X8_67 in_X8_one mo_X8_one ⟨by decide, rfl⟩ ⟨by decide, by decide⟩ (Nat.le_of_ble_eq_true rfl) k_b0 (sr_X8_one k_b0 g_b0_3 k_b0_3 p_3 ⟨by decide, by decide⟩ ?_)
    refine r_iload_n (pc := 42) dX8_gives_42 rfl ?_
    refine r_icmp_ne (pc := 43) (tgt := 107) dX8_gives_43 (by decide) (fun q => ?_) (fun q => ?_)
    · have K0 := K0.1 q
      refine r_iinc (pc := 107) (v := l4 + 1) dX8_gives_107 rfl rfl (by decide) ?_
      refine r_goto (pc := 110) (L := [some (.ref b0), some (.int l1), some (.int l2), some (.int l3), some (.int (l4 + 1)), none]) (tgt := 24) dX8_gives_110 (by decide) ?_
      exact r_le (L' := [some (.ref b0), some (.int l1), some (.int l2), some (.int l3), some (.int (l4 + 1)), none]) ⟨rfl, ⟨rfl, ⟨rfl, ⟨rfl, ⟨rfl, trivial⟩⟩⟩⟩⟩ K0
    · have K0 := K0.2 q
      refine r_aload_n (pc := 46) dX8_gives_46 rfl ?_
      refine r_iload (pc := 47) dX8_gives_47 rfl ?_
      refine r_iconst (pc := 49) (v := 1) dX8_gives_49 (by decide) ?_
      refine s_VI (pc := 50) mX8_one (ci := 8) (a := b0) (As := [.int l4, .int 1]) dX8_gives_50 lk_X8_67 in_X8_one mo_X8_one ⟨by decide, rfl⟩ ⟨by decide, by decide⟩ (Nat.le_of_ble_eq_true rfl) k_b0 (sr_X8_one k_b0 g_b0_3 k_b0_3 p_3 ⟨by decide, by decide⟩ ?_)
      refine r_iload_n (pc := 53) dX8_gives_53 rfl ?_
      refine r_icmp_eq (pc := 54) (tgt := 60) dX8_gives_54 (by decide) (fun q => ?_) (fun q => ?_)
      · have K0 := K0.1 q
        refine r_aload_n (pc := 60) dX8_gives_60 rfl ?_
        refine r_iload (pc := 61) dX8_gives_61 rfl ?_
        refine r_aload_n (pc := 63) dX8_gives_63 rfl ?_
        refine s_getR (pc := 64) dX8_gives_64 fl_X8_9 rfl k_b0 g_b0_1 ?_
        refine r_iconst (pc := 67) (v := 4) dX8_gives_67 (by decide) ?_
        obtain ⟨i_6, K0⟩ := K0
        refine s_iald (pc := 68) dX8_gives_68 k_b0_1 i_6 ?_
        refine r_iconst (pc := 69) (v := 4) dX8_gives_69 (by decide) ?_
        refine r_iadd (pc := 70) dX8_gives_70 ?_
        refine s_VI (pc := 71) mX8_openFrom (ci := 8) (a := b0) (As := [.int l4, .int ((gi x b0_1 4) + 4)]) dX8_gives_71 lk_X8_373 in_X8_openFrom mo_X8_openFrom ⟨by decide, rfl⟩ ⟨by decide, by decide⟩ (Nat.le_of_ble_eq_true rfl) k_b0 (mSI_mono K0 (fun r_8 y_7 K0 => ?_))
        refine r_istore (pc := 74) dX8_gives_74 (by decide) ?_
        refine r_iload (pc := 76) (L := [some (.ref b0), some (.int l1), some (.int l2), some (.int l3), some (.int l4), some (.int r_8)]) dX8_gives_76 rfl ?_
        refine r_if_eq (pc := 78) (tgt := 89) dX8_gives_78 (by decide) (fun q => ?_) (fun q => ?_)
        · have K0 := K0.1 q
          refine r_iload_n (pc := 89) dX8_gives_89 rfl ?_
          refine r_iload (pc := 90) dX8_gives_90 rfl ?_
          refine s_SI (pc := 92) mX8_bits (As := [.int r_8]) dX8_gives_92 lk_X8_296 st_X8_bits mo_X8_bits ⟨by decide, by decide⟩ (Nat.le_of_ble_eq_true rfl) (sp_X8_bits  ?_)
          refine r_iadd (pc := 95) dX8_gives_95 ?_
          refine r_istore_n (pc := 96) dX8_gives_96 (by decide) ?_
          refine r_aload_n (pc := 97) (L := [some (.ref b0), some (.int l1), some (.int l2), some (.int (l3 + (nI (cpt r_8)))), some (.int l4), some (.int r_8)]) dX8_gives_97 rfl ?_
          refine r_iload (pc := 98) dX8_gives_98 rfl ?_
          refine r_iload (pc := 100) dX8_gives_100 rfl ?_
          refine r_iconst (pc := 102) (v := 0) dX8_gives_102 (by decide) ?_
          refine r_iconst (pc := 103) (v := 4) dX8_gives_103 (by decide) ?_
          refine s_VV (pc := 104) mX8_goes (ci := 8) (a := b0) (As := [.int l4, .int r_8, .int 0, .int 4]) dX8_gives_104 lk_X8_369 in_X8_goes mo_X8_goes ⟨by decide, rfl⟩ ⟨by decide, by decide⟩ (Nat.le_of_ble_eq_true rfl) k_b0 (mSV_mono K0 (fun y_10 K0 => ?_))
          refine r_iinc (pc := 107) (v := l4 + 1) dX8_gives_107 rfl rfl (by decide) ?_
          refine r_goto (pc := 110) (L := [some (.ref b0), some (.int l1), some (.int l2), some (.int (l3 + (nI (cpt r_8)))), some (.int (l4 + 1)), some (.int r_8)]) (tgt := 24) dX8_gives_110 (by decide) ?_
          exact r_le (L' := [some (.ref b0), some (.int l1), some (.int l2), some (.int (l3 + (nI (cpt r_8)))), some (.int (l4 + 1)), none]) ⟨rfl, ⟨rfl, ⟨rfl, ⟨rfl, ⟨rfl, trivial⟩⟩⟩⟩⟩ K0
        · have K0 := K0.2 q
          refine r_iload_n (pc := 81) dX8_gives_81 rfl ?_
          refine r_if_ne (pc := 82) (tgt := 89) dX8_gives_82 (by decide) (fun q => ?_) (fun q => ?_)
          · have K0 := K0.1 q
            refine r_iload_n (pc := 89) dX8_gives_89 rfl ?_
            refine r_iload (pc := 90) dX8_gives_90 rfl ?_
            refine s_SI (pc := 92) mX8_bits (As := [.int r_8]) dX8_gives_92 lk_X8_296 st_X8_bits mo_X8_bits ⟨by decide, by decide⟩ (Nat.le_of_ble_eq_true rfl) (sp_X8_bits  ?_)
            refine r_iadd (pc := 95) dX8_gives_95 ?_
            refine r_istore_n (pc := 96) dX8_gives_96 (by decide) ?_
            refine r_aload_n (pc := 97) (L := [some (.ref b0), some (.int l1), some (.int l2), some (.int (l3 + (nI (cpt r_8)))), some (.int l4), some (.int r_8)]) dX8_gives_97 rfl ?_
            refine r_iload (pc := 98) dX8_gives_98 rfl ?_
            refine r_iload (pc := 100) dX8_gives_100 rfl ?_
            refine r_iconst (pc := 102) (v := 0) dX8_gives_102 (by decide) ?_
            refine r_iconst (pc := 103) (v := 4) dX8_gives_103 (by decide) ?_
            refine s_VV (pc := 104) mX8_goes (ci := 8) (a := b0) (As := [.int l4, .int r_8, .int 0, .int 4]) dX8_gives_104 lk_X8_369 in_X8_goes mo_X8_goes ⟨by decide, rfl⟩ ⟨by decide, by decide⟩ (Nat.le_of_ble_eq_true rfl) k_b0 (mSV_mono K0 (fun y_12 K0 => ?_))
            refine r_iinc (pc := 107) (v := l4 + 1) dX8_gives_107 rfl rfl (by decide) ?_
            refine r_goto (pc := 110) (L := [some (.ref b0), some (.int l1), some (.int l2), some (.int (l3 + (nI (cpt r_8)))), some (.int (l4 + 1)), some (.int r_8)]) (tgt := 24) dX8_gives_110 (by decide) ?_
            exact r_le (L' := [some (.ref b0), some (.int l1), some (.int l2), some (.int (l3 + (nI (cpt r_8)))), some (.int (l4 + 1)), none]) ⟨rfl, ⟨rfl, ⟨rfl, ⟨rfl, ⟨rfl, trivial⟩⟩⟩⟩⟩ K0
          · have K0 := K0.2 q
            refine r_aload_n (pc := 85) dX8_gives_85 rfl ?_
            refine s_VV (pc := 86) mX8_keeps (ci := 8) (a := b0) (As := []) dX8_gives_86 lk_X8_366 in_X8_keeps mo_X8_keeps ⟨by decide, rfl⟩ ⟨by decide, by decide⟩ (Nat.le_of_ble_eq_true rfl) k_b0 (mSV_mono K0 (fun y_13 K0 => ?_))
            refine r_iload_n (pc := 89) dX8_gives_89 rfl ?_
            refine r_iload (pc := 90) dX8_gives_90 rfl ?_
            refine s_SI (pc := 92) mX8_bits (As := [.int r_8]) dX8_gives_92 lk_X8_296 st_X8_bits mo_X8_bits ⟨by decide, by decide⟩ (Nat.le_of_ble_eq_true rfl) (sp_X8_bits  ?_)
            refine r_iadd (pc := 95) dX8_gives_95 ?_
            refine r_istore_n (pc := 96) dX8_gives_96 (by decide) ?_
            refine r_aload_n (pc := 97) (L := [some (.ref b0), some (.int l1), some (.int l2), some (.int (l3 + (nI (cpt r_8)))), some (.int l4), some (.int r_8)]) dX8_gives_97 rfl ?_
            refine r_iload (pc := 98) dX8_gives_98 rfl ?_
            refine r_iload (pc := 100) dX8_gives_100 rfl ?_
            refine r_iconst (pc := 102) (v := 0) dX8_gives_102 (by decide) ?_
            refine r_iconst (pc := 103) (v := 4) dX8_gives_103 (by decide) ?_
            refine s_VV (pc := 104) mX8_goes (ci := 8) (a := b0) (As := [.int l4, .int r_8, .int 0, .int 4]) dX8_gives_104 lk_X8_369 in_X8_goes mo_X8_goes ⟨by decide, rfl⟩ ⟨by decide, by decide⟩ (Nat.le_of_ble_eq_true rfl) k_b0 (mSV_mono K0 (fun y_14 K0 => ?_))
            refine r_iinc (pc := 107) (v := l4 + 1) dX8_gives_107 rfl rfl (by decide) ?_
            refine r_goto (pc := 110) (L := [some (.ref b0), some (.int l1), some (.int l2), some (.int (l3 + (nI (cpt r_8)))), some (.int (l4 + 1)), some (.int r_8)]) (tgt := 24) dX8_gives_110 (by decide) ?_
            exact r_le (L' := [some (.ref b0), some (.int l1), some (.int l2), some (.int (l3 + (nI (cpt r_8)))), some (.int (l4 + 1)), none]) ⟨rfl, ⟨rfl, ⟨rfl, ⟨rfl, ⟨rfl, trivial⟩⟩⟩⟩⟩ K0
      · have K0 := K0.2 q
        refine r_goto (pc := 57) (tgt := 107) dX8_gives_57 (by decide) ?_
        refine r_iinc (pc := 107) (v := l4 + 1) dX8_gives_107 rfl rfl (by decide) ?_
        refine r_goto (pc := 110) (L := [some (.ref b0), some (.int l1), some (.int l2), some (.int l3), some (.int (l4 + 1)), none]) (tgt := 24) dX8_gives_110 (by decide) ?_
        exact r_le (L' := [some (.ref b0), some (.int l1), some (.int l2), some (.int l3), some (.int (l4 + 1)), none]) ⟨rfl, ⟨rfl, ⟨rfl, ⟨rfl, ⟨rfl, trivial⟩⟩⟩⟩⟩ K0
section
theorem sq_X8_gives {y : Cn} {Q : Int32 → Cn → Prop} {T : TT} {W C S A N n : Nat} {H : Nat → TT} {a b : Int32} (r : RS y T n H) (F : WF T W C S A N) (k1 : ¬ ((0 ≤ a ∧ a < nI C) ∧ (0 < nI W ∧ 0 ≤ b ∧ b < 7)) → Q (-2) y) (k2 : (0 ≤ a ∧ a < nI C) → (0 < nI W ∧ 0 ≤ b ∧ b < 7) → ∀ z m, RFr y z → (accT (gvS W N a b) S (T, 0)).2 = nI m → m ≤ 32 * S → (m = 0 → RS z T n H ∧ (accT (gvS W N a b) S (T, 0)).1 = T) → (¬ m = 0 → RS z (accT (gvS W N a b) S (T, 0)).1 (pn n) (push H n T)) → Q (accT (gvS W N a b) S (T, 0)).2 z) : mSI mX8_gives [.ref 717, .int a, .int b] KW y Q := by
  have hS : S ≤ 24 := F.2.2.2.2.2.2.1
  have hW : W ≤ 30 := F.2.2.1
  have hN : N ≤ W := F.2.2.2.2.2.2.2.2.2.2.1
  have hC : C ≤ 8 := F.2.2.2.2.1
  have M := r.1
  refine v_X8_gives_0 km M.1 km1 ⟨v0 (k := 1) (by decide) rfl rfl, ?_⟩
  rw [r.2.1, F.2.2.2.1, F.1, inN' (by omega), d7]
  refine ⟨fun z => k1 (fun u => z u.1), fun z1 => ⟨v0 (k := 0) (by decide) rfl rfl, fun z2 => ?_, fun z => k1 (fun u => z u.2)⟩⟩
  have k2 := k2 z1 z2
  refine lp_acc (gvS W N a b) (fun s t => ∀ v m, RFr y v → t.2 = nI m → m ≤ 32 * s → WF t.1 W C S A N → (m = 0 → RS v T n H ∧ t.1 = T) → (¬ m = 0 → RS v t.1 (pn n) (push H n T)) → GI mX8_gives 24 [some (.ref 717), some (.int a), some (.int b), some (.int t.2), some (.int (nI s)), none] [] KW v Q) S (T, 0) ?_ (fun s t hs n1 => ?_) y 0 (RFr.rf y) rfl (by omega) F (fun _ => ⟨r, rfl⟩) (fun u => absurd rfl u)
  · intro v m f e1 e2 e3 e4 e5
    have hr : MRf v 718 ∧ gi v 718 2 = nI S := by
      by_cases c : m = 0
      · obtain ⟨q1, q2⟩ := e4 c
        exact ⟨q1.1, by rw [q1.2.1]; exact F.2.2.2.2.2.1⟩
      · have q1 := e5 c
        exact ⟨q1.1, by rw [q1.2.1]; exact e3.2.2.2.2.2.1⟩
    exact v_X8_gives_24 km hr.1.1 km1 hr.1.2.2.1 km1 ⟨v0 (k := 2) (by decide) rfl rfl, fun _ => k2 v m f e1 e2 e4 e5, fun z => absurd (by rw [hr.2]; exact Int32.le_refl _) z⟩
  · obtain ⟨T1, tot⟩ := t
    intro v m f (e1 : tot = nI m) e2 (e3 : WF T1 W C S A N) (e4 : m = 0 → RS v T n H ∧ T1 = T) (e5 : ¬ m = 0 → RS v T1 (pn n) (push H n T))
    subst e1
    have hr : ∃ n' H', RS v T1 n' H' := by
      by_cases c : m = 0
      · obtain ⟨q1, q2⟩ := e4 c
        rw [q2]
        exact ⟨n, H, q1⟩
      · exact ⟨_, _, e5 c⟩
    obtain ⟨n', H', rv⟩ := hr
    have w0 := e3.2.2.2.2.2.2.2.2.2.2.2.2.1 s hs
    have skip : ¬ (so T1 s 0 = a ∧ so T1 s 1 = b) → GI mX8_gives 24 [some (.ref 717), some (.int a), some (.int b), some (.int (nI m)), some (.int (nI s + 1)), none] [] KW v Q := by
      intro c
      rw [nI_1]
      exact n1 (T1, nI m) (if_neg c) v m f rfl (by omega) e3 e4 e5
    refine v_X8_gives_24 km rv.1.1 km1 rv.1.2.2.1 km1 ⟨v0 (k := 2) (by decide) rfl rfl, fun z => absurd (by rw [rv.2.1, e3.2.2.2.2.2.1] at z; exact z) (nI_ge hs (by omega)), fun _ => ⟨l24_nI (by omega) rfl, ?_⟩⟩
    rw [rv.2.1, nI_clamp (by omega), e3.2.2.2.2.2.2.2.2.2.1, show nI N + 4 = nI (N + 4) from nI_add N 4]
    refine ⟨fun u => skip (fun c => u c.1), fun u1 => ⟨fun u2 => ⟨v0 (k := 4) (by decide) rfl rfl, ?_⟩, fun u => skip (fun c => u c.2)⟩⟩
    have stp : gvS W N a b s (T1, nI m) = (goT T1 s (opf T1 W s (N + 4)) 0 4, nI m + nI (cpt (opf T1 W s (N + 4)))) := if_pos ⟨u1, u2⟩
    have st2 : gvS W N a b s (T1, nI m) = (goT T1 s (opf T1 W s (N + 4)) 0 4, nI (m + cpt (opf T1 W s (N + 4)))) := stp.trans (by rw [nI_add])
    have cl := cpt_le (opf T1 W s (N + 4))
    have wf2 : WF (goT T1 s (opf T1 W s (N + 4)) 0 4) W C S A N := by
      obtain ⟨w1, w2, w3, w4, w5, w6, w7, w8, w9, w10, w11, w12, w13, w14⟩ := e3
      have eT : ∀ i, ¬ (62 + 12 * s ≤ i ∧ i < 74 + 12 * s) → goT T1 s (opf T1 W s (N + 4)) 0 4 i = T1 i := fun i h => goT_off _ _ _ (by decide) (by decide) i h
      refine ⟨by rw [eT 0 (by omega)]; exact w1, w2, w3, by rw [eT 1 (by omega)]; exact w4, w5, by rw [eT 2 (by omega)]; exact w6, w7, by rw [eT 3 (by omega)]; exact w8, w9, by rw [eT 4 (by omega)]; exact w10, w11, fun i hi => by rw [eT _ (by omega), eT _ (by omega)]; exact w12 i hi, fun s' hs' => ?_, fun a ha => (w14 a ha).cg (fun k hk => eT _ (by omega))⟩
      by_cases c : s' = s
      · rw [c]; exact w0.go (by decide) (by decide) (by decide) (opf_in w0 hW (by omega))
      · exact (w13 s' hs').cg (fun k hk => eT _ (by omega))
    refine sp_X8_openFrom rv e3 (by omega) (by omega) ⟨fun z => ?_, fun z => ⟨fun z2 => ?_, fun z2 => ?_⟩⟩
    · have c0 : cpt (opf T1 W s (N + 4)) = 0 := by rw [z, cpt_0]
      have e0 : goT T1 s (opf T1 W s (N + 4)) 0 4 = T1 := by rw [z, goT_0 _ _ _ _ (by decide) (by decide) (by decide)]
      rw [nI_1, nI_add]
      by_cases c : m = 0
      · obtain ⟨q1, q2⟩ := e4 c
        refine sp_X8_goes (k := 0) (o := 4) (T := T1) (by rw [q2]; exact q1) (by omega) (by decide) (by decide) (by decide) (fun v2 f2 r2 => ?_)
        refine n1 (goT T1 s (opf T1 W s (N + 4)) 0 4, nI (m + cpt (opf T1 W s (N + 4)))) st2 v2 (m + cpt (opf T1 W s (N + 4))) (f.tr f2) rfl (by omega) wf2 (fun u => ⟨?_, e0.trans q2⟩) (fun u => by omega)
        rw [e0, q2] at r2
        exact r2
      · refine sp_X8_goes (k := 0) (o := 4) (e5 c) (by omega) (by decide) (by decide) (by decide) (fun v2 f2 r2 => ?_)
        exact n1 (goT T1 s (opf T1 W s (N + 4)) 0 4, nI (m + cpt (opf T1 W s (N + 4)))) st2 v2 (m + cpt (opf T1 W s (N + 4))) (f.tr f2) rfl (by omega) wf2 (fun u => by omega) (fun _ => r2)
    · rw [show (0 : Int32) = nI 0 by decide, nI_eq (by omega) (by decide)] at z2
      refine sp_X8_goes (k := 0) (o := 4) (e5 z2) (by omega) (by decide) (by decide) (by decide) (fun v2 f2 r2 => ?_)
      rw [nI_1, nI_add]
      exact n1 (goT T1 s (opf T1 W s (N + 4)) 0 4, nI (m + cpt (opf T1 W s (N + 4)))) st2 v2 (m + cpt (opf T1 W s (N + 4))) (f.tr f2) rfl (by omega) wf2 (fun u => by omega) (fun _ => r2)
    · rw [show (0 : Int32) = nI 0 by decide, nI_eq (by omega) (by decide)] at z2
      obtain ⟨q1, q2⟩ := e4 z2
      subst q2
      refine q1.keeps (fun v3 f3 r3 => sp_X8_goes (k := 0) (o := 4) r3 (by omega) (by decide) (by decide) (by decide) (fun v2 f2 r2 => ?_))
      rw [nI_1, nI_add]
      have cp : ¬ cpt (opf T1 W s (N + 4)) = 0 := fun e => z (cpt_z e)
      exact n1 (goT T1 s (opf T1 W s (N + 4)) 0 4, nI (m + cpt (opf T1 W s (N + 4)))) st2 v2 (m + cpt (opf T1 W s (N + 4))) ((f.tr f3).tr f2) rfl (by omega) wf2 (fun u => by omega) (fun _ => r2)
end
theorem eq_tick : Both mX7_tick mX8_tick [] := by
  intro x R
  obtain ⟨W, C, S, A, N, n, H, ac, rs, nm⟩ := R.ac
  have E := ac.2.2.2.2
  have hn := E.nums
  have hS : S ≤ 24 := hn.2.2.2.2.2.2.1
  have hW : W ≤ 30 := hn.2.2.2.2.1
  have hC : C ≤ 8 := hn.2.2.2.2.2.1
  have hN : N ≤ W := hn.2.2.2.2.2.2.2.2
  refine v_X7_tick_0 k0 R.1.2.1 (ks0 E.1) ?_
  rw [hn.1, hn.2.1, nI_leI (by omega) (by omega)]
  refine ⟨fun z1 => ⟨fun z2 => ac.rem (fun _ _ => rfl) (fun y ay y1 y2 => ⟨ay.2.1.2.1, ?_⟩), fun z2 => sq_X8_tick rs E.2.2.2 (fun u => absurd z1 u) (fun _ _ => ⟨rfl, R⟩) (fun _ u => absurd (by omega) u)⟩, fun z => sq_X8_tick rs E.2.2.2 (fun _ => ⟨rfl, R⟩) (fun u => absurd u z) (fun u => absurd u z)⟩
  rw [ay.2.2.2.2.nums.2.1]
  refine lp_acc (tkS N) (fun s T' => ∀ v, AC x v W C S A N (pn n) T' (push H n (gi x 718)) → GI mX7_tick 38 [some (.ref 0), some (.int (1 <<< (nI N &&& 31))), some (.int (nI s))] [] KW v _) S (gi x 718) ?_ (fun s T' hs n1 => ?_) y ay
  · intro v av
    have hv := av.2.2.2.2.nums
    refine v_X7_tick_38 k0 av.2.1.2.1 (ks0 E.1) av.2.2.2.2.2.1.2.2.1 (ks3 E.1) ⟨fun _ => ?_, fun z => absurd (by rw [hv.2.2.1]; exact Int32.le_refl _) z⟩
    rw [gi_ui, if_pos ⟨rfl, rfl⟩, hv.2.1, nI_1]
    have a2 := av.now (N' := N + 1) (by omega)
    refine sq_X8_tick (a2.rs rs) E.2.2.2 (fun u => absurd z1 u) (fun _ u => by omega) (fun _ _ z f r2 => ⟨rfl, a2.fin R nm (fun c hc => ?_) f r2⟩)
    rw [uT_ne _ _ (by omega)]
    exact tk_off S hS _ (by omega)
  · intro v av
    have hv := av.2.2.2.2.nums
    obtain ⟨p, e1, e2, e3, e4, e5, e6⟩ := av.2.2.2.2.ser hs
    refine v_X7_tick_38 k0 av.2.1.2.1 (ks0 E.1) av.2.2.2.2.2.1.2.2.1 (ks3 E.1) ⟨fun z => absurd (by rw [hv.2.2.1] at z; exact z) (nI_ge hs (by omega)), fun _ => ⟨vp_in_nI (by omega) (by decide), p, by rw [nI_clamp (by omega)]; exact e1, e2, ?_⟩⟩
    rw [e5, nI_1]
    refine n1 _ rfl _ (av.go hs e1 ((EQx.rf v p).ui) (by decide) (by decide) (by decide) and_in (by rw [gi_ui, if_neg (by omega)]) (fun j h1 h2 => ?_))
    rw [gi_ui, so_goT _ _ _ (by decide) (by decide) h1]
    by_cases c : j = 8
    · rw [if_pos ⟨rfl, c⟩, if_pos c, e3.1 8 (by decide) (by decide)]
    · rw [if_neg (fun v => c v.2), if_neg c, if_neg h2]
      exact e3.1 j h1 h2
theorem eq_gives (a b : Int32) : Both mX7_gives mX8_gives [.int a, .int b] := by
  intro x R
  obtain ⟨W, C, S, A, N, n, H, ac, rs, nm⟩ := R.ac
  have E := ac.2.2.2.2
  have hn := E.nums
  have hS : S ≤ 24 := hn.2.2.2.2.2.2.1
  have hW : W ≤ 30 := hn.2.2.2.2.1
  have hC : C ≤ 8 := hn.2.2.2.2.2.1
  have hN : N ≤ W := hn.2.2.2.2.2.2.2.2
  refine v_X7_gives_0 k0 R.1.2.2.1 (by decide) R.1.2.1 (ks0 E.1) ?_
  rw [nm.1, hn.1, hn.2.1, show nI N + 4 = nI (N + 4) from nI_add N 4]
  refine ⟨fun z => sq_X8_gives rs E.2.2.2 (fun _ => ⟨rfl, R⟩) (fun u => absurd u z), fun z1 => ⟨fun z2 => ?_, fun z => sq_X8_gives rs E.2.2.2 (fun _ => ⟨rfl, R⟩) (fun _ u => absurd u z)⟩⟩
  have hb : ¬ b = -1 := by
    intro e
    rw [e] at z2
    exact absurd z2.2.1 (by decide)
  refine lp_acc (gvS W N a b) (fun s t => ∀ v m, t.2 = nI m → m ≤ 32 * s → (∀ i, i < 62 → t.1 i = gi x 718 i) → (m = 0 → AC x v W C S A N n (gi x 718) H ∧ t.1 = gi x 718) → (¬ m = 0 → AC x v W C S A N (pn n) t.1 (push H n (gi x 718))) → GI mX7_gives 38 [some (.ref 0), some (.int a), some (.int b), some (.int (f_bf (nI (N + 4)))), some (.int t.2), some (.int (nI s)), none, none] [] KW v _) S (gi x 718, 0) ?_ (fun s t hs n1 => ?_) x 0 rfl (by omega) (fun _ _ => rfl) (fun _ => ⟨ac, rfl⟩) (fun u => absurd rfl u)
  · intro v m e1 e2 e3 e4 e5
    have hr : ∃ n' T' H', AC x v W C S A N n' T' H' := by
      by_cases c : m = 0
      · exact ⟨_, _, _, (e4 c).1⟩
      · exact ⟨_, _, _, e5 c⟩
    obtain ⟨n', T', H', av⟩ := hr
    have hv := av.2.2.2.2.nums
    refine v_X7_gives_38 k0 av.2.1.2.1 (ks0 E.1) av.2.2.2.2.2.1.2.2.1 (ks3 E.1) ⟨fun _ => ?_, fun z => absurd (by rw [hv.2.2.1]; exact Int32.le_refl _) z⟩
    refine sq_X8_gives (av.rs rs) E.2.2.2 (fun u => absurd ⟨z1, z2⟩ u) (fun _ _ z m' f i1 i2 i3 i4 => ⟨rfl, ?_⟩)
    have em : m' = m := (nI_eq (by omega) (by omega)).mp (i1.symm.trans e1)
    subst em
    by_cases c : m' = 0
    · exact (e4 c).1.fin R nm (fun _ _ => rfl) f (i3 c).1
    · exact (e5 c).fin R nm (fun c hc => e3 _ (by omega)) f (i4 c)
  · obtain ⟨T1, tot⟩ := t
    intro v m (e1 : tot = nI m) e2 (e3 : ∀ i, i < 62 → T1 i = gi x 718 i) (e4 : m = 0 → AC x v W C S A N n (gi x 718) H ∧ T1 = gi x 718) (e5 : ¬ m = 0 → AC x v W C S A N (pn n) T1 (push H n (gi x 718)))
    subst e1
    have hr : ∃ n' H', AC x v W C S A N n' T1 H' := by
      by_cases c : m = 0
      · obtain ⟨q1, q2⟩ := e4 c
        rw [q2]
        exact ⟨n, H, q1⟩
      · exact ⟨_, _, e5 c⟩
    obtain ⟨n', H', av⟩ := hr
    have hv := av.2.2.2.2.nums
    obtain ⟨p, g1, g2, g3, g4, g5, g6⟩ := av.2.2.2.2.ser hs
    refine v_X7_gives_38 k0 av.2.1.2.1 (ks0 E.1) av.2.2.2.2.2.1.2.2.1 (ks3 E.1) ⟨fun z => absurd (by rw [hv.2.2.1] at z; exact z) (nI_ge hs (by omega)), fun _ => ⟨vp_in_nI (by omega) (by decide), p, by rw [nI_clamp (by omega)]; exact g1, g2, ?_⟩⟩
    rw [g3.1 0 (by decide) (by decide), g3.1 1 (by decide) (by decide), g5, ← opf_eq g6 hW (show N + 4 < 100 by omega), nI_1]
    refine ⟨fun u => n1 (T1, nI m) (if_neg (fun c => u ⟨c.1, Or.inr c.2⟩)) v m rfl (by omega) e3 e4 e5, fun u => ?_⟩
    have stp : gvS W N a b s (T1, nI m) = (goT T1 s (opf T1 W s (N + 4)) 0 4, nI m + nI (cpt (opf T1 W s (N + 4)))) := if_pos ⟨u.1, u.2.resolve_left hb⟩
    have st2 : gvS W N a b s (T1, nI m) = (goT T1 s (opf T1 W s (N + 4)) 0 4, nI (m + cpt (opf T1 W s (N + 4)))) := stp.trans (by rw [nI_add])
    have cl := cpt_le (opf T1 W s (N + 4))
    have e3' : ∀ i, i < 62 → goT T1 s (opf T1 W s (N + 4)) 0 4 i = gi x 718 i := fun i hi => by rw [goT_off _ _ _ (by decide) (by decide) i (by omega)]; exact e3 i hi
    refine ⟨fun z => ?_, fun z => ⟨fun z2' => ?_, fun z2' => ?_⟩⟩
    · have e0 : goT T1 s (opf T1 W s (N + 4)) 0 4 = T1 := by rw [z, goT_0 _ _ _ _ (by decide) (by decide) (by decide)]
      have c0 : cpt (opf T1 W s (N + 4)) = 0 := by rw [z, cpt_0]
      refine n1 (T1, nI m) (stp.trans ?_) v m rfl (by omega) e3 e4 e5
      rw [e0, c0, nI_0, Int32.add_zero]
    · rw [nI_z (by omega)] at z2'
      rw [nI_add]
      exact n1 (goT T1 s (opf T1 W s (N + 4)) 0 4, nI (m + cpt (opf T1 W s (N + 4)))) st2 _ (m + cpt (opf T1 W s (N + 4))) rfl (by omega) e3' (fun u => by omega) (fun _ => (e5 z2').giv hs (by omega) g1)
    · rw [nI_z (by omega)] at z2'
      obtain ⟨q1, q2⟩ := e4 z2'
      subst q2
      refine q1.rem (fun _ _ => rfl) (fun y ay y1 y2 => ?_)
      rw [nI_add]
      have cp : ¬ cpt (opf (gi x 718) W s (N + 4)) = 0 := fun e => z (cpt_z e)
      exact n1 (goT (gi x 718) s (opf (gi x 718) W s (N + 4)) 0 4, nI (m + cpt (opf (gi x 718) W s (N + 4)))) st2 _ (m + cpt (opf (gi x 718) W s (N + 4))) rfl (by omega) e3' (fun u => by omega) (fun _ => ay.giv hs (by omega) ((y2 5 s (by decide)).trans g1))


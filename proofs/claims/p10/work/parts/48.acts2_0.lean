/-- a week goes by, for the first series -/
def tkS (N : Nat) : Nat → TT → TT := fun s T => goT T s (so T s 7 &&& wb (nI N)) 0 1
theorem tk_off {N : Nat} {T : TT} : ∀ s, s ≤ 24 → ∀ i, i < 62 → accT (tkS N) s T i = T i := by
  intro s
  induction s with
  | zero => intro _ i _; rfl
  | succ s ih =>
    intro hs i hi
    simp only [accT]
    unfold tkS
    rw [goT_off _ _ _ (by decide) (by decide) i (by omega)]
    exact ih (by omega) i hi
theorem AC.now {x y : Cn} {W C S A N N' n : Nat} {T : TT} {H : Nat → TT} (a : AC x y W C S A N n T H) (h : N' ≤ W) : AC x (ui y 2 1 (nI N')) W C S A N' n (uT T 4 (nI N')) H := by
  have E := a.2.2.2.2
  obtain ⟨e1, e2, ⟨v0, v1, v2, v3, v4, v5, v6, v7⟩, w1, w2, w3, w4, w5, w6, w7, w8, w9, w10, w11, w12, w13, w14⟩ := E
  obtain ⟨r1, r2, r3, r4, r5, r6, r7, r8, r9⟩ := id e2
  have eo : ∀ b k, ¬ (b = 2 ∧ k = 1) → gi (ui y 2 1 (nI N')) b k = gi y b k := fun b k c => by rw [gi_ui, if_neg c]
  have eT : ∀ i, i ≠ 4 → uT T 4 (nI N') i = T i := fun i hi => uT_ne _ _ hi
  refine a.up (fun b k c => eo b k (by omega)) rfl ⟨e1, e2.keep rfl, ⟨?_, ?_, ?_, ?_, ?_, ?_, ?_, ?_⟩, ?_⟩
  · rw [eo 2 0 (by omega), eT 0 (by decide)]; exact v0
  · rw [gi_ui, if_pos ⟨rfl, rfl⟩, uT_at]
  · rw [eo 2 2 (by omega), eT 5 (by decide)]; exact v2
  · rw [eo 2 3 (by omega), eT 2 (by decide)]; exact v3
  · rw [eo 2 4 (by omega), eT 3 (by decide)]; exact v4
  · intro h hh
    rw [eo _ h (by omega), eo _ h (by omega), eT _ (by omega), eT _ (by omega)]
    exact v5 h hh
  · intro s p hs hp
    obtain ⟨j, hj, ej⟩ := r6 s (by omega)
    have ep : p = 2 + 6 + j := Option.some.inj (hp.symm.trans ej)
    exact (v6 s p hs hp).cg (fun k _ => eo p k (by omega)) (fun k hk => eT _ (by omega))
  · intro s p hs hp
    obtain ⟨j, hj, ej⟩ := r8 s (by omega)
    have ep : p = 2 + 30 + j := Option.some.inj (hp.symm.trans ej)
    exact (v7 s p hs hp).cg (fun k _ => eo p k (by omega)) (fun k hk => eT _ (by omega))
  · exact ⟨by rw [eT 0 (by decide)]; exact w1, w2, w3, by rw [eT 1 (by decide)]; exact w4, w5, by rw [eT 2 (by decide)]; exact w6, w7, by rw [eT 3 (by decide)]; exact w8, w9, uT_at _ _ _, h, fun i hi => by rw [eT _ (by omega), eT _ (by omega)]; exact w12 i hi, fun s hs => (w13 s hs).cg (fun k hk => eT _ (by omega)), fun a ha => (w14 a ha).cg (fun k hk => eT _ (by omega))⟩
theorem and_in {T : TT} {s : Nat} {v : Int32} : ∀ i, i < 32 → tb (so T s 7 &&& v) i = true → tb (so T s (7 + 0)) i = true := fun i _ e => by
  rw [tb_and, Bool.and_eq_true] at e
  exact e.1
set_option maxHeartbeats 2000000 in
theorem v_X7_tick_0 {K : Sh} {x : Cn} {Q : Int32 → Cn → Prop} {b0 : Nat} {b0_2 : Nat} (k_b0 : kk K b0 = some (7, 0)) (g_b0_2 : gr x b0 2 = some b0_2) (k_b0_2 : kk K b0_2 = some (4, 0)) (K0 : ((0 < gi x b0_2 0) → ((¬ (gi x b0_2 0 ≤ gi x b0_2 1) → (mSV mX7_remember [.ref b0] K x (fun y_3 => gr y_3 b0 2 = some b0_2 ∧ (GI mX7_tick 38 [some (.ref b0), some (.int (1 <<< ((gi y_3 b0_2 1) &&& 31))), some (.int 0)] [] K y_3 Q)))) ∧ ((gi x b0_2 0 ≤ gi x b0_2 1) → (Q (-1) x)))) ∧ (¬ (0 < gi x b0_2 0) → (Q (-2) x))) : mSI mX7_tick [.ref b0] K x Q := by
  refine s_I (by decide) (by simp [Value.category]) (Nat.le_of_ble_eq_true rfl) ?_
  show mGM mX7_tick 0 [some (.ref b0), none, none] [] (hp K x) (PI K Q)
  refine r_aload_n (pc := 0) dX7_tick_0 rfl ?_
  refine s_VI (pc := 1) mX7_hasText (ci := 7) (a := b0) (As := []) dX7_tick_1 lk_X7_121 in_X7_hasText mo_X7_hasText ⟨by decide, rfl⟩ ⟨by decide, by decide⟩ (Nat.le_of_ble_eq_true rfl) k_b0 (sp_X7_hasText k_b0 g_b0_2 k_b0_2 ?_)
  refine r_if_ne (pc := 4) (tgt := 10) dX7_tick_4 (by decide) (fun q => ?_) (fun q => ?_)
  · have q := b2i_nz q
    have K0 := K0.1 q
    refine r_aload_n (pc := 10) dX7_tick_10 rfl ?_
    refine s_getR (pc := 11) dX7_tick_11 fl_X7_20 rfl k_b0 g_b0_2 ?_
    refine s_VI (pc := 14) mX4_isOver (ci := 4) (a := b0_2) (As := []) dX7_tick_14 lk_X7_279 in_X4_isOver mo_X4_isOver ⟨by decide, rfl⟩ ⟨by decide, by decide⟩ (Nat.le_of_ble_eq_true rfl) k_b0_2 (sp_X4_isOver k_b0_2 ?_)
    refine r_if_eq (pc := 17) (tgt := 22) dX7_tick_17 (by decide) (fun q => ?_) (fun q => ?_)
    · have q := (b2i_z _).mp q
      have K0 := K0.1 q
      refine r_aload_n (pc := 22) dX7_tick_22 rfl ?_
      refine s_VV (pc := 23) mX7_remember (ci := 7) (a := b0) (As := []) dX7_tick_23 lk_X7_333 in_X7_remember mo_X7_remember ⟨by decide, rfl⟩ ⟨by decide, by decide⟩ (Nat.le_of_ble_eq_true rfl) k_b0 (mSV_mono K0 (fun y_3 K0 => ?_))
      refine r_iconst (pc := 26) (v := 1) dX7_tick_26 (by decide) ?_
      refine r_aload_n (pc := 27) dX7_tick_27 rfl ?_
      obtain ⟨g_4, K0⟩ := K0
      refine s_getR (pc := 28) dX7_tick_28 fl_X7_20 rfl k_b0 g_4 ?_
      refine s_getI (pc := 31) dX7_tick_31 fl_X7_103 rfl k_b0_2 ?_
      refine r_ishl (pc := 34) dX7_tick_34 ?_
      refine r_istore_n (pc := 35) dX7_tick_35 (by decide) ?_
      refine r_iconst (pc := 36) (L := [some (.ref b0), some (.int (1 <<< ((gi y_3 b0_2 1) &&& 31))), none]) (v := 0) dX7_tick_36 (by decide) ?_
      refine r_istore_n (pc := 37) dX7_tick_37 (by decide) ?_
      exact r_le (L' := [some (.ref b0), some (.int (1 <<< ((gi y_3 b0_2 1) &&& 31))), some (.int 0)]) ⟨rfl, ⟨rfl, ⟨rfl, trivial⟩⟩⟩ K0
    · have q := b2i_nz q
      have K0 := K0.2 q
      refine r_iconst (pc := 20) (v := (-1)) dX7_tick_20 (by decide) ?_
      exact s_iret rfl dX7_tick_21 K0
  · have q := (b2i_z _).mp q
    have K0 := K0.2 q
    refine r_bipush (pc := 7) (v := (-2)) dX7_tick_7 (by decide) ?_
    exact s_iret rfl dX7_tick_9 K0
set_option maxHeartbeats 2000000 in
theorem v_X7_tick_38 {K : Sh} {x : Cn} {Q : Int32 → Cn → Prop} {b0 : Nat} {l1 : Int32} {l2 : Int32} {b0_2 : Nat} {b0_2_7 : Nat} {n_b0_2_7 : Nat} (k_b0 : kk K b0 = some (7, 0)) (g_b0_2 : gr x b0 2 = some b0_2) (k_b0_2 : kk K b0_2 = some (4, 0)) (g_b0_2_7 : gr x b0_2 7 = some b0_2_7) (k_b0_2_7 : kk K b0_2_7 = some (23, n_b0_2_7)) (K0 : ((gi x b0_2 3) ≤ l2 → (Q (gi (ui x b0_2 1 ((gi x b0_2 1) + 1)) b0_2 1) (ui x b0_2 1 ((gi x b0_2 1) + 1)))) ∧ (¬ (gi x b0_2 3) ≤ l2 → (vp_in l2 n_b0_2_7 ∧ (∃ c_3 : Nat, gr x b0_2_7 ((l2 : Int32).toNatClampNeg) = some c_3 ∧ (kk K c_3 = some (5, 0) ∧ (GI mX7_tick 38 [some (.ref b0), some (.int l1), some (.int (l2 + 1))] [] K (ui x c_3 8 ((gi x c_3 8) ||| ((f_open x c_3) &&& l1))) Q)))))) : GI mX7_tick 38 [some (.ref b0), some (.int l1), some (.int l2)] [] K x Q := by
  show mGM mX7_tick 38 [some (.ref b0), some (.int l1), some (.int l2)] [] (hp K x) (PI K Q)
  refine r_iload_n (pc := 38) dX7_tick_38 rfl ?_
  refine r_aload_n (pc := 39) dX7_tick_39 rfl ?_
  refine s_getR (pc := 40) dX7_tick_40 fl_X7_20 rfl k_b0 g_b0_2 ?_
  refine s_getI (pc := 43) dX7_tick_43 fl_X7_97 rfl k_b0_2 ?_
  refine r_icmp_ge (pc := 46) (tgt := 86) dX7_tick_46 (by decide) (fun q => ?_) (fun q => ?_)
  · have K0 := K0.1 q
    refine r_aload_n (pc := 86) dX7_tick_86 rfl ?_
    refine s_getR (pc := 87) dX7_tick_87 fl_X7_20 rfl k_b0 g_b0_2 ?_
    refine r_dup (pc := 90) dX7_tick_90 rfl ?_
    refine s_getI (pc := 91) dX7_tick_91 fl_X7_103 rfl k_b0_2 ?_
    refine r_iconst (pc := 94) (v := 1) dX7_tick_94 (by decide) ?_
    refine r_iadd (pc := 95) dX7_tick_95 ?_
    refine s_putI (pc := 96) dX7_tick_96 fl_X7_103 rfl rfl k_b0_2 ?_
    refine r_aload_n (pc := 99) dX7_tick_99 rfl ?_
    refine s_getR (pc := 100) dX7_tick_100 fl_X7_20 rfl k_b0 g_b0_2 ?_
    refine s_getI (pc := 103) dX7_tick_103 fl_X7_103 rfl k_b0_2 ?_
    exact s_iret rfl dX7_tick_106 K0
  · have K0 := K0.2 q
    refine r_aload_n (pc := 49) dX7_tick_49 rfl ?_
    refine s_getR (pc := 50) dX7_tick_50 fl_X7_20 rfl k_b0 g_b0_2 ?_
    refine s_getR (pc := 53) dX7_tick_53 fl_X7_135 rfl k_b0_2 g_b0_2_7 ?_
    refine r_iload_n (pc := 56) dX7_tick_56 rfl ?_
    obtain ⟨i_2, K0⟩ := K0
    obtain ⟨c_3, g_4, K0⟩ := K0
    refine s_aald (pc := 57) dX7_tick_57 (by decide) rfl k_b0_2_7 i_2 g_4 ?_
    refine r_dup (pc := 58) dX7_tick_58 rfl ?_
    obtain ⟨e_5, K0⟩ := K0
    refine s_getI (pc := 59) dX7_tick_59 fl_X7_348 rfl e_5 ?_
    refine r_aload_n (pc := 62) dX7_tick_62 rfl ?_
    refine s_getR (pc := 63) dX7_tick_63 fl_X7_20 rfl k_b0 g_b0_2 ?_
    refine s_getR (pc := 66) dX7_tick_66 fl_X7_135 rfl k_b0_2 g_b0_2_7 ?_
    refine r_iload_n (pc := 69) dX7_tick_69 rfl ?_
    refine s_aald (pc := 70) dX7_tick_70 (by decide) rfl k_b0_2_7 i_2 g_4 ?_
    refine s_VI (pc := 71) mX5_openBits (ci := 5) (a := c_3) (As := []) dX7_tick_71 lk_X7_339 in_X5_openBits mo_X5_openBits ⟨by decide, rfl⟩ ⟨by decide, by decide⟩ (Nat.le_of_ble_eq_true rfl) e_5 (sp_X5_openBits e_5 ?_)
    refine r_iload_n (pc := 74) dX7_tick_74 rfl ?_
    refine r_iand (pc := 75) dX7_tick_75 ?_
    refine r_ior (pc := 76) dX7_tick_76 ?_
    refine s_putI (pc := 77) dX7_tick_77 fl_X7_348 rfl rfl e_5 ?_
    refine r_iinc (pc := 80) (v := l2 + 1) dX7_tick_80 rfl rfl (by decide) ?_
    refine r_goto (pc := 83) (L := [some (.ref b0), some (.int l1), some (.int (l2 + 1))]) (tgt := 38) dX7_tick_83 (by decide) ?_
    exact r_le (L' := [some (.ref b0), some (.int l1), some (.int (l2 + 1))]) ⟨rfl, ⟨rfl, ⟨rfl, trivial⟩⟩⟩ K0
set_option maxHeartbeats 2000000 in
theorem v_X8_tick_0 {K : Sh} {x : Cn} {Q : Int32 → Cn → Prop} {b0 : Nat} {b0_1 : Nat} {n_b0_1 : Nat} (k_b0 : kk K b0 = some (8, 0)) (g_b0_1 : gr x b0 1 = some b0_1) (k_b0_1 : kk K b0_1 = some (20, n_b0_1)) (K0 : vp_in 0 n_b0_1 ∧ (((0 < gi x b0_1 0) → (vp_in 4 n_b0_1 ∧ ((¬ (gi x b0_1 4) = (gi x b0_1 0) → (mSV mX8_keeps [.ref b0] K x (fun y_5 => GI mX8_tick 33 [some (.ref b0), some (.int 0)] [] K y_5 Q))) ∧ ((gi x b0_1 4) = (gi x b0_1 0) → (Q (-1) x))))) ∧ (¬ (0 < gi x b0_1 0) → (Q (-2) x)))) : mSI mX8_tick [.ref b0] K x Q := by
  refine s_I (by decide) (by simp [Value.category]) (Nat.le_of_ble_eq_true rfl) ?_
  show mGM mX8_tick 0 [some (.ref b0), none] [] (hp K x) (PI K Q)
  refine r_aload_n (pc := 0) dX8_tick_0 rfl ?_
  obtain ⟨i_1, K0⟩ := K0
  refine s_VI (pc := 1) mX8_isThere (ci := 8) (a := b0) (As := []) dX8_tick_1 lk_X8_49 in_X8_isThere mo_X8_isThere ⟨by decide, rfl⟩ ⟨by decide, by decide⟩ (Nat.le_of_ble_eq_true rfl) k_b0 (sp_X8_isThere k_b0 g_b0_1 k_b0_1 i_1 ?_)
  refine r_if_ne (pc := 4) (tgt := 10) dX8_tick_4 (by decide) (fun q => ?_) (fun q => ?_)
  · have q := b2i_nz q
    have K0 := K0.1 q
    refine r_aload_n (pc := 10) dX8_tick_10 rfl ?_
    refine s_getR (pc := 11) dX8_tick_11 fl_X8_9 rfl k_b0 g_b0_1 ?_
    refine r_iconst (pc := 14) (v := 4) dX8_tick_14 (by decide) ?_
    obtain ⟨i_3, K0⟩ := K0
    refine s_iald (pc := 15) dX8_tick_15 k_b0_1 i_3 ?_
    refine r_aload_n (pc := 16) dX8_tick_16 rfl ?_
    refine s_getR (pc := 17) dX8_tick_17 fl_X8_9 rfl k_b0 g_b0_1 ?_
    refine r_iconst (pc := 20) (v := 0) dX8_tick_20 (by decide) ?_
    refine s_iald (pc := 21) dX8_tick_21 k_b0_1 i_1 ?_
    refine r_icmp_ne (pc := 22) (tgt := 27) dX8_tick_22 (by decide) (fun q => ?_) (fun q => ?_)
    · have K0 := K0.1 q
      refine r_aload_n (pc := 27) dX8_tick_27 rfl ?_
      refine s_VV (pc := 28) mX8_keeps (ci := 8) (a := b0) (As := []) dX8_tick_28 lk_X8_366 in_X8_keeps mo_X8_keeps ⟨by decide, rfl⟩ ⟨by decide, by decide⟩ (Nat.le_of_ble_eq_true rfl) k_b0 (mSV_mono K0 (fun y_5 K0 => ?_))
      refine r_iconst (pc := 31) (v := 0) dX8_tick_31 (by decide) ?_
      refine r_istore_n (pc := 32) dX8_tick_32 (by decide) ?_
      exact r_le (L' := [some (.ref b0), some (.int 0)]) ⟨rfl, ⟨rfl, trivial⟩⟩ K0
    · have K0 := K0.2 q
      refine r_iconst (pc := 25) (v := (-1)) dX8_tick_25 (by decide) ?_
      exact s_iret rfl dX8_tick_26 K0
  · have q := (b2i_z _).mp q
    have K0 := K0.2 q
    refine r_bipush (pc := 7) (v := (-2)) dX8_tick_7 (by decide) ?_
    exact s_iret rfl dX8_tick_9 K0

section
variable {x : Cn} {Q : Int32 → Cn → Prop}
/-- an ask fits -/
abbrev fitA (T : TT) (S N a h : Nat) (wo : Int32) : Prop := fitC T S N (ao T a 1) h (ao T a 3) (f_sb (ao T a 4) (ao T a 5)) wo
end
set_option maxHeartbeats 2000000 in
theorem v_X8_canAsk_0 {K : Sh} {x : Cn} {Q : Int32 → Cn → Prop} {b0 : Nat} {l1 : Int32} {l2 : Int32} {l3 : Int32} {b0_3 : Nat} {n_b0_3 : Nat} (k_b0 : kk K b0 = some (8, 0)) (g_b0_3 : gr x b0 3 = some b0_3) (k_b0_3 : kk K b0_3 = some (20, n_b0_3)) (K0 : (l24 l1 n_b0_3) ∧ (mSI mX8_canBe [.ref b0, .int (f_span (ao (gi x b0_3) (l1 : Int32).toNatClampNeg 4) (ao (gi x b0_3) (l1 : Int32).toNatClampNeg 5) &&& f_span (gi x b0_3 4) (gi x b0_3 0 - 1)), .int (ao (gi x b0_3) (l1 : Int32).toNatClampNeg 1), .int l2, .int (ao (gi x b0_3) (l1 : Int32).toNatClampNeg 3), .int l3] K x (fun r_3 y_2 => (r_3 = 0 ∨ r_3 = 1) ∧ (Q r_3 y_2)))) : mSI mX8_canAsk [.ref b0, .int l1, .int l2, .int l3] K x Q := by
  refine s_I (by decide) (by simp [Value.category]) (Nat.le_of_ble_eq_true rfl) ?_
  show mGM mX8_canAsk 0 [some (.ref b0), some (.int l1), some (.int l2), some (.int l3)] [] (hp K x) (PI K Q)
  refine r_aload_n (pc := 0) dX8_canAsk_0 rfl ?_
  refine r_aload_n (pc := 1) dX8_canAsk_1 rfl ?_
  refine r_iload_n (pc := 2) dX8_canAsk_2 rfl ?_
  obtain ⟨p_1, K0⟩ := K0
  refine s_VI (pc := 3) mX8_weeksOf (ci := 8) (a := b0) (As := [.int l1]) dX8_canAsk_3 lk_X8_326 in_X8_weeksOf mo_X8_weeksOf ⟨by decide, rfl⟩ ⟨by decide, by decide⟩ (Nat.le_of_ble_eq_true rfl) k_b0 (sr_X8_weeksOf k_b0 g_b0_3 k_b0_3 p_1 ?_)
  refine r_aload_n (pc := 6) dX8_canAsk_6 rfl ?_
  refine r_iload_n (pc := 7) dX8_canAsk_7 rfl ?_
  refine r_iconst (pc := 8) (v := 1) dX8_canAsk_8 (by decide) ?_
  refine s_VI (pc := 9) mX8_ask0 (ci := 8) (a := b0) (As := [.int l1, .int 1]) dX8_canAsk_9 lk_X8_284 in_X8_ask0 mo_X8_ask0 ⟨by decide, rfl⟩ ⟨by decide, by decide⟩ (Nat.le_of_ble_eq_true rfl) k_b0 (sr_X8_ask0 k_b0 g_b0_3 k_b0_3 p_1 ⟨by decide, by decide⟩ ?_)
  refine r_iload_n (pc := 12) dX8_canAsk_12 rfl ?_
  refine r_aload_n (pc := 13) dX8_canAsk_13 rfl ?_
  refine r_iload_n (pc := 14) dX8_canAsk_14 rfl ?_
  refine r_iconst (pc := 15) (v := 3) dX8_canAsk_15 (by decide) ?_
  refine s_VI (pc := 16) mX8_ask0 (ci := 8) (a := b0) (As := [.int l1, .int 3]) dX8_canAsk_16 lk_X8_284 in_X8_ask0 mo_X8_ask0 ⟨by decide, rfl⟩ ⟨by decide, by decide⟩ (Nat.le_of_ble_eq_true rfl) k_b0 (sr_X8_ask0 k_b0 g_b0_3 k_b0_3 p_1 ⟨by decide, by decide⟩ ?_)
  refine r_iload_n (pc := 19) dX8_canAsk_19 rfl ?_
  refine s_VI (pc := 20) mX8_canBe (ci := 8) (a := b0) (As := [.int (f_span (ao (gi x b0_3) (l1 : Int32).toNatClampNeg 4) (ao (gi x b0_3) (l1 : Int32).toNatClampNeg 5) &&& f_span (gi x b0_3 4) (gi x b0_3 0 - 1)), .int (ao (gi x b0_3) (l1 : Int32).toNatClampNeg 1), .int l2, .int (ao (gi x b0_3) (l1 : Int32).toNatClampNeg 3), .int l3]) dX8_canAsk_20 lk_X8_90 in_X8_canBe mo_X8_canBe ⟨by decide, rfl⟩ ⟨by decide, by decide⟩ (Nat.le_of_ble_eq_true rfl) k_b0 (mSI_mono K0 (fun r_3 y_2 K0 => ?_))
  obtain ⟨p_4, K0⟩ := K0
  exact s_zret rfl p_4 dX8_canAsk_23 K0
section
variable {x : Cn} {Q : Int32 → Cn → Prop}
theorem sp_X8_canAsk {t : Nat} (M : MRf x t) (ht : kk KW t = some (20, 518)) {W C S A N : Nat} (F : WF (gi x t) W C S A N) {b wo : Int32} {a h : Nat} (ha : a < A) (hh : h < 24) (hwo : ∀ s, s < 24 → (tb wo s = true ↔ nI s = b)) (k : Q (bP (fitA (gi x t) S N a h wo)) x) : mSI mX8_canAsk [.ref 717, .int (nI a), .int (nI h), .int b] KW x Q := by
  have hA : A ≤ 24 := F.2.2.2.2.2.2.2.2.1
  have hW : W ≤ 30 := F.2.2.1
  have hN : N ≤ W := F.2.2.2.2.2.2.2.2.2.2.1
  obtain ⟨-, -, -, a3, ⟨f, l, f1, f2, f3, f4⟩, -⟩ := F.2.2.2.2.2.2.2.2.2.2.2.2.2 a ha
  refine v_X8_canAsk_0 km M.2.2.1 ht ⟨l24_nI (by omega) rfl, ?_⟩
  rw [nI_clamp (by omega), F.1, F.2.2.2.2.2.2.2.2.2.1]
  refine sp_X8_canBe M ht F hh a3 ?_ hwo ⟨bP_01 _, ?_⟩
  · intro i hi z1 z2
    rw [tb_and, Bool.and_eq_true, tb_fn hW hN hi (by omega)] at z1
    exact (of_decide_eq_true z1.2).2
  · rw [bP_congr (fitC_bits (b2 := f_sb (ao (gi x t) a 4) (ao (gi x t) a 5)) (fun i hi h2 => ?_))]
    · exact k
    · rw [tb_and, tb_fn hW hN hi (by omega), f3, f4, sb_span (by omega) (by omega), tb_span0 f (by omega) l (by omega) i hi]
      by_cases c : f ≤ i ∧ i ≤ l
      · rw [decide_eq_true c, decide_eq_true (show N ≤ i ∧ i < W by omega)]; rfl
      · rw [decide_eq_false c]; rfl
end
set_option maxHeartbeats 2000000 in
theorem v_X4_hasPlaceFor_0 {K : Sh} {x : Cn} {Q : Int32 → Cn → Prop} {b0 : Nat} {b1 : Nat} {l2 : Int32} {l3 : Int32}  (k_b1 : kk K b1 = some (0, 0)) (k_b0 : kk K b0 = some (4, 0)) (K0 : mSI mX4_hasPlace [.ref b0, .int (gi x b1 1), .int l2, .int (gi x b1 3), .int (f_sb (gi x b1 4) (gi x b1 5)), .int l3] K x (fun r_2 y_1 => (r_2 = 0 ∨ r_2 = 1) ∧ (Q r_2 y_1))) : mSI mX4_hasPlaceFor [.ref b0, .ref b1, .int l2, .int l3] K x Q := by
  refine s_I (by decide) (by simp [Value.category]) (Nat.le_of_ble_eq_true rfl) ?_
  show mGM mX4_hasPlaceFor 0 [some (.ref b0), some (.ref b1), some (.int l2), some (.int l3)] [] (hp K x) (PI K Q)
  refine r_aload_n (pc := 0) dX4_hasPlaceFor_0 rfl ?_
  refine r_aload_n (pc := 1) dX4_hasPlaceFor_1 rfl ?_
  refine s_getI (pc := 2) dX4_hasPlaceFor_2 fl_X4_100 rfl k_b1 ?_
  refine r_iload_n (pc := 5) dX4_hasPlaceFor_5 rfl ?_
  refine r_aload_n (pc := 6) dX4_hasPlaceFor_6 rfl ?_
  refine s_getI (pc := 7) dX4_hasPlaceFor_7 fl_X4_101 rfl k_b1 ?_
  refine r_aload_n (pc := 10) dX4_hasPlaceFor_10 rfl ?_
  refine s_VI (pc := 11) mX0_wantedBits (ci := 0) (a := b1) (As := []) dX4_hasPlaceFor_11 lk_X4_102 in_X0_wantedBits mo_X0_wantedBits ⟨by decide, rfl⟩ ⟨by decide, by decide⟩ (Nat.le_of_ble_eq_true rfl) k_b1 (sp_X0_wantedBits k_b1 ?_)
  refine r_iload_n (pc := 14) dX4_hasPlaceFor_14 rfl ?_
  refine s_VI (pc := 15) mX4_hasPlace (ci := 4) (a := b0) (As := [.int (gi x b1 1), .int l2, .int (gi x b1 3), .int (f_sb (gi x b1 4) (gi x b1 5)), .int l3]) dX4_hasPlaceFor_15 lk_X4_105 in_X4_hasPlace mo_X4_hasPlace ⟨by decide, rfl⟩ ⟨by decide, by decide⟩ (Nat.le_of_ble_eq_true rfl) k_b0 (mSI_mono K0 (fun r_2 y_1 K0 => ?_))
  obtain ⟨p_3, K0⟩ := K0
  exact s_zret rfl p_3 dX4_hasPlaceFor_18 K0
section
variable {x : Cn} {Q : Int32 → Cn → Prop}
theorem sp_X4_hasPlaceFor {q : Nat} {T : TT} {W C S A N : Nat} (E : SEA x q T W C S A N) {a p h : Nat} {wo : Int32} (hp : kk KW p = some (0, 0)) (hq : ASR x p T a) (hh : h < 24) (k : ∀ y, EQx x y (q + 5) → Q (bP (fitA T S N a h wo)) y) : mSI mX4_hasPlaceFor [.ref q, .ref p, .int (nI h), .int wo] KW x Q := by
  refine v_X4_hasPlaceFor_0 hp (ks0 E.1) ?_
  rw [hq 1 (by decide), hq 3 (by decide), hq 4 (by decide), hq 5 (by decide)]
  exact sp_X4_hasPlace E hh (fun y hy => ⟨bP_01 _, k y hy⟩)
theorem span_and0 {f l N W : Nat} (h1 : f ≤ l) (h2 : l < W) (h3 : W ≤ 30) (h4 : N ≤ W) : (f_span (nI f) (nI l) &&& f_span (nI N) (nI W - 1)) = 0 ↔ l < N := by
  constructor
  · intro z
    by_cases c : l < N
    · exact c
    · have : tb (f_span (nI f) (nI l) &&& f_span (nI N) (nI W - 1)) l = true := by
        rw [tb_and, tb_span0 f (by omega) l (by omega) l (by omega), tb_fn h3 h4 (by omega) (by omega), decide_eq_true (by omega), decide_eq_true (by omega)]; rfl
      rw [z, tb_0] at this
      cases this
  · intro z
    apply tb_ext
    intro i hi
    rw [tb_and, tb_span0 f (by omega) l (by omega) i hi, tb_fn h3 h4 hi (by omega), tb_0]
    by_cases c : f ≤ i ∧ i ≤ l
    · rw [decide_eq_false (show ¬ (N ≤ i ∧ i < W) by omega), Bool.and_false]
    · rw [decide_eq_false c, Bool.false_and]
/-- the row of all is kept by what hasPlace writes -/
theorem Rel.e7 {x y : Cn} (R : Rel x) (h : EQx x y 7) : Rel y ∧ gi y 718 = gi x 718 := ⟨R.keep (Kp.of h (fun _ => Or.inl rfl)), by funext k; exact h.2 718 k (by decide)⟩
def orP (c : Nat → Int32) : Nat → Int32 → Int32 := fun s a => if c s = 0 then a else a ||| (1 <<< (nI s &&& 31))
theorem Rel.wf {x : Cn} {W C S A N : Nat} (E : SEA x 2 (gi x 718) W C S A N) : WF (gi x 718) W C S A N := E.2.2.2
end
set_option maxHeartbeats 2000000 in
theorem v_X7_fits_0 {K : Sh} {x : Cn} {Q : Int32 → Cn → Prop} {b0 : Nat} {l1 : Int32} {b0_2 : Nat} {b0_2_8 : Nat} {n_b0_2_8 : Nat} (k_b0 : kk K b0 = some (7, 0)) (g_b0_2 : gr x b0 2 = some b0_2) (k_b0_2 : kk K b0_2 = some (4, 0)) (g_b0_2_8 : gr x b0_2 8 = some b0_2_8) (k_b0_2_8 : kk K b0_2_8 = some (24, n_b0_2_8)) (K0 : ((0 ≤ l1 ∧ l1 < gi x b0_2 4) → (vp_in l1 n_b0_2_8 ∧ (∃ c_3 : Nat, gr x b0_2_8 ((l1 : Int32).toNatClampNeg) = some c_3 ∧ (kk K c_3 = some (0, 0) ∧ (((gi x b0_2 1) ≤ (gi x c_3 5) → (mSI mX4_hasPlaceFor [.ref b0_2, .ref c_3, .int (gi x c_3 2), .int 0] K x (fun r_8 y_7 => (r_8 = 0 → (Q 0 y_7)) ∧ (¬ r_8 = 0 → (Q 1 y_7))))) ∧ (¬ (gi x b0_2 1) ≤ (gi x c_3 5) → (Q (-1) x))))))) ∧ (¬ (0 ≤ l1 ∧ l1 < gi x b0_2 4) → (Q (-2) x))) : mSI mX7_fits [.ref b0, .int l1] K x Q := by
  refine s_I (by decide) (by simp [Value.category]) (Nat.le_of_ble_eq_true rfl) ?_
  show mGM mX7_fits 0 [some (.ref b0), some (.int l1), none] [] (hp K x) (PI K Q)
  refine r_aload_n (pc := 0) dX7_fits_0 rfl ?_
  refine r_iload_n (pc := 1) dX7_fits_1 rfl ?_
  refine s_VI (pc := 2) mX7_isAsk (ci := 7) (a := b0) (As := [.int l1]) dX7_fits_2 lk_X7_173 in_X7_isAsk mo_X7_isAsk ⟨by decide, rfl⟩ ⟨by decide, by decide⟩ (Nat.le_of_ble_eq_true rfl) k_b0 (sp_X7_isAsk k_b0 g_b0_2 k_b0_2 ?_)
  refine r_if_ne (pc := 5) (tgt := 11) dX7_fits_5 (by decide) (fun q => ?_) (fun q => ?_)
  · have q := b2i_nz q
    have K0 := K0.1 q
    refine r_aload_n (pc := 11) dX7_fits_11 rfl ?_
    refine s_getR (pc := 12) dX7_fits_12 fl_X7_20 rfl k_b0 g_b0_2 ?_
    refine s_getR (pc := 15) dX7_fits_15 fl_X7_176 rfl k_b0_2 g_b0_2_8 ?_
    refine r_iload_n (pc := 18) dX7_fits_18 rfl ?_
    obtain ⟨i_2, K0⟩ := K0
    obtain ⟨c_3, g_4, K0⟩ := K0
    refine s_aald (pc := 19) dX7_fits_19 (by decide) rfl k_b0_2_8 i_2 g_4 ?_
    refine r_astore_n (pc := 20) dX7_fits_20 (by decide) ?_
    refine r_aload_n (pc := 21) (L := [some (.ref b0), some (.int l1), some (.ref c_3)]) dX7_fits_21 rfl ?_
    obtain ⟨e_5, K0⟩ := K0
    refine s_getI (pc := 22) dX7_fits_22 fl_X7_189 rfl e_5 ?_
    refine r_aload_n (pc := 25) dX7_fits_25 rfl ?_
    refine s_getR (pc := 26) dX7_fits_26 fl_X7_20 rfl k_b0 g_b0_2 ?_
    refine s_getI (pc := 29) dX7_fits_29 fl_X7_103 rfl k_b0_2 ?_
    refine r_icmp_ge (pc := 32) (tgt := 37) dX7_fits_32 (by decide) (fun q => ?_) (fun q => ?_)
    · have K0 := K0.1 q
      refine r_aload_n (pc := 37) dX7_fits_37 rfl ?_
      refine s_getR (pc := 38) dX7_fits_38 fl_X7_20 rfl k_b0 g_b0_2 ?_
      refine r_aload_n (pc := 41) dX7_fits_41 rfl ?_
      refine r_aload_n (pc := 42) dX7_fits_42 rfl ?_
      refine s_getI (pc := 43) dX7_fits_43 fl_X7_184 rfl e_5 ?_
      refine r_iconst (pc := 46) (v := 0) dX7_fits_46 (by decide) ?_
      refine s_VI (pc := 47) mX4_hasPlaceFor (ci := 4) (a := b0_2) (As := [.ref c_3, .int (gi x c_3 2), .int 0]) dX7_fits_47 lk_X7_299 in_X4_hasPlaceFor mo_X4_hasPlaceFor ⟨by decide, rfl⟩ ⟨by decide, by decide⟩ (Nat.le_of_ble_eq_true rfl) k_b0_2 (mSI_mono K0 (fun r_8 y_7 K0 => ?_))
      refine r_if_eq (pc := 50) (tgt := 57) dX7_fits_50 (by decide) (fun q => ?_) (fun q => ?_)
      · have K0 := K0.1 q
        refine r_iconst (pc := 57) (v := 0) dX7_fits_57 (by decide) ?_
        exact s_iret rfl dX7_fits_58 K0
      · have K0 := K0.2 q
        refine r_iconst (pc := 53) (v := 1) dX7_fits_53 (by decide) ?_
        refine r_goto (pc := 54) (tgt := 58) dX7_fits_54 (by decide) ?_
        exact s_iret rfl dX7_fits_58 K0
    · have K0 := K0.2 q
      refine r_iconst (pc := 35) (v := (-1)) dX7_fits_35 (by decide) ?_
      exact s_iret rfl dX7_fits_36 K0
  · have q := (b2i_z _).mp q
    have K0 := K0.2 q
    refine r_bipush (pc := 8) (v := (-2)) dX7_fits_8 (by decide) ?_
    exact s_iret rfl dX7_fits_10 K0
set_option maxHeartbeats 2000000 in
theorem v_X8_fits_0 {K : Sh} {x : Cn} {Q : Int32 → Cn → Prop} {b0 : Nat} {l1 : Int32} {b0_1 : Nat} {n_b0_1 : Nat} {b0_3 : Nat} {n_b0_3 : Nat} (k_b0 : kk K b0 = some (8, 0)) (g_b0_1 : gr x b0 1 = some b0_1) (k_b0_1 : kk K b0_1 = some (20, n_b0_1)) (g_b0_3 : gr x b0 3 = some b0_3) (k_b0_3 : kk K b0_3 = some (20, n_b0_3)) (K0 : vp_in 3 n_b0_1 ∧ (((0 ≤ l1 ∧ l1 ≤ gi x b0_1 3 - 1) → ((l24 l1 n_b0_3) ∧ ((¬ (f_span (ao (gi x b0_3) (l1 : Int32).toNatClampNeg 4) (ao (gi x b0_3) (l1 : Int32).toNatClampNeg 5) &&& f_span (gi x b0_3 4) (gi x b0_3 0 - 1)) = 0 → (mSI mX8_canAsk [.ref b0, .int l1, .int (ao (gi x b0_3) (l1 : Int32).toNatClampNeg 2), .int (-1)] K x (fun r_6 y_5 => (r_6 = 0 → (Q 0 y_5)) ∧ (¬ r_6 = 0 → (Q 1 y_5))))) ∧ ((f_span (ao (gi x b0_3) (l1 : Int32).toNatClampNeg 4) (ao (gi x b0_3) (l1 : Int32).toNatClampNeg 5) &&& f_span (gi x b0_3 4) (gi x b0_3 0 - 1)) = 0 → (Q (-1) x))))) ∧ (¬ (0 ≤ l1 ∧ l1 ≤ gi x b0_1 3 - 1) → (Q (-2) x)))) : mSI mX8_fits [.ref b0, .int l1] K x Q := by
  refine s_I (by decide) (by simp [Value.category]) (Nat.le_of_ble_eq_true rfl) ?_
  show mGM mX8_fits 0 [some (.ref b0), some (.int l1)] [] (hp K x) (PI K Q)
  refine r_aload_n (pc := 0) dX8_fits_0 rfl ?_
  refine r_iload_n (pc := 1) dX8_fits_1 rfl ?_
  obtain ⟨i_1, K0⟩ := K0
  refine s_VI (pc := 2) mX8_isAsk (ci := 8) (a := b0) (As := [.int l1]) dX8_fits_2 lk_X8_281 in_X8_isAsk mo_X8_isAsk ⟨by decide, rfl⟩ ⟨by decide, by decide⟩ (Nat.le_of_ble_eq_true rfl) k_b0 (sp_X8_isAsk k_b0 g_b0_1 k_b0_1 i_1 ?_)
  refine r_if_ne (pc := 5) (tgt := 11) dX8_fits_5 (by decide) (fun q => ?_) (fun q => ?_)
  · have q := b2i_nz q
    have K0 := K0.1 q
    refine r_aload_n (pc := 11) dX8_fits_11 rfl ?_
    refine r_iload_n (pc := 12) dX8_fits_12 rfl ?_
    obtain ⟨p_3, K0⟩ := K0
    refine s_VI (pc := 13) mX8_weeksOf (ci := 8) (a := b0) (As := [.int l1]) dX8_fits_13 lk_X8_326 in_X8_weeksOf mo_X8_weeksOf ⟨by decide, rfl⟩ ⟨by decide, by decide⟩ (Nat.le_of_ble_eq_true rfl) k_b0 (sr_X8_weeksOf k_b0 g_b0_3 k_b0_3 p_3 ?_)
    refine r_if_ne (pc := 16) (tgt := 23) dX8_fits_16 (by decide) (fun q => ?_) (fun q => ?_)
    · have K0 := K0.1 q
      refine r_aload_n (pc := 23) dX8_fits_23 rfl ?_
      refine r_iload_n (pc := 24) dX8_fits_24 rfl ?_
      refine r_aload_n (pc := 25) dX8_fits_25 rfl ?_
      refine r_iload_n (pc := 26) dX8_fits_26 rfl ?_
      refine r_iconst (pc := 27) (v := 2) dX8_fits_27 (by decide) ?_
      refine s_VI (pc := 28) mX8_ask0 (ci := 8) (a := b0) (As := [.int l1, .int 2]) dX8_fits_28 lk_X8_284 in_X8_ask0 mo_X8_ask0 ⟨by decide, rfl⟩ ⟨by decide, by decide⟩ (Nat.le_of_ble_eq_true rfl) k_b0 (sr_X8_ask0 k_b0 g_b0_3 k_b0_3 p_3 ⟨by decide, by decide⟩ ?_)
      refine r_iconst (pc := 31) (v := (-1)) dX8_fits_31 (by decide) ?_
      refine s_VI (pc := 32) mX8_canAsk (ci := 8) (a := b0) (As := [.int l1, .int (ao (gi x b0_3) (l1 : Int32).toNatClampNeg 2), .int (-1)]) dX8_fits_32 lk_X8_329 in_X8_canAsk mo_X8_canAsk ⟨by decide, rfl⟩ ⟨by decide, by decide⟩ (Nat.le_of_ble_eq_true rfl) k_b0 (mSI_mono K0 (fun r_6 y_5 K0 => ?_))
      refine r_if_eq (pc := 35) (tgt := 42) dX8_fits_35 (by decide) (fun q => ?_) (fun q => ?_)
      · have K0 := K0.1 q
        refine r_iconst (pc := 42) (v := 0) dX8_fits_42 (by decide) ?_
        exact s_iret rfl dX8_fits_43 K0
      · have K0 := K0.2 q
        refine r_iconst (pc := 38) (v := 1) dX8_fits_38 (by decide) ?_
        refine r_goto (pc := 39) (tgt := 43) dX8_fits_39 (by decide) ?_
        exact s_iret rfl dX8_fits_43 K0
    · have K0 := K0.2 q
      refine r_iconst (pc := 19) (v := (-1)) dX8_fits_19 (by decide) ?_
      refine r_goto (pc := 20) (tgt := 43) dX8_fits_20 (by decide) ?_
      exact s_iret rfl dX8_fits_43 K0
  · have q := (b2i_z _).mp q
    have K0 := K0.2 q
    refine r_bipush (pc := 8) (v := (-2)) dX8_fits_8 (by decide) ?_
    exact s_iret rfl dX8_fits_10 K0

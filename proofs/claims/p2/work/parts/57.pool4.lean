theorem PCr.kp {x y : Cn} (h : PCr x y) : Kp x y := ⟨h.1, fun a k c => h.2 a k (fun u => c (Or.inr (Or.inl (by omega))))⟩
theorem PFr.kp {x y : Cn} (h : PFr x y) : Kp x y := ⟨h.1, fun a k c => h.2 a k (fun u => c (by unfold scr; omega)) (fun u => c (by unfold scr; omega)) (fun u => c (by unfold scr; omega)) (fun u => c (by unfold scr; omega)) (fun u => c (by unfold scr; omega))⟩
theorem CRf.c9 {x : Cn} (h : CRf x) : gr x 0 9 = some 117 := h.2.2.2.2.2.1
theorem mix_pc {x y : Cn} (h : PCr x y) : mixT y = mixT x := by
  funext i
  unfold mixT
  rw [h.2 718 i (by omega), h.2 719 i (by omega)]
theorem mix_lt {x : Cn} {i : Nat} (h : i < 518) : mixT x i = gi x 718 i := if_pos h
theorem pl_wf {x : Cn} {W C S A N : Nat} {T0 : TT} {hp : Int32} (E : SEA x 2 (gi x 718) W C S A N) (hh : (hp = -1 ∧ T0 = mixT x) ∨ ∃ h, h < 24 ∧ hp = nI h ∧ T0 = hlT (mixT x) h) : WFB T0 W C S A N := by
  have F : WFB (mixT x) W C S A N := E.2.2.2.b.cg (fun i hi => mix_lt hi)
  rcases hh with ⟨_, rfl⟩ | ⟨h, h1, _, rfl⟩
  · exact F
  · exact F.hl h1
theorem pl_cls {x y : Cn} {W C S A N : Nat} {T0 : TT} {hp : Int32} {Q : Cn → Prop} (R : Rel x) (E : SEA x 2 (gi x 718) W C S A N) (f : PCr x y) (hh : (hp = -1 ∧ T0 = mixT x) ∨ ∃ h, h < 24 ∧ hp = nI h ∧ T0 = hlT (mixT x) h) (k : ∀ z, PCr x z → CPR z (accT (plS A N) A (pl0 T0 S)) W C A N → Q z) : mSV mX2_serve [.ref 117, .ref 2, .int hp] KW y Q :=
  sp_X2_serve (R.1.keep f.1) (E.mv (y := y) (T' := mixT x) (fun a j _ _ => by unfold gr; rw [f.1]) (fun a j _ _ _ => f.2 a j (by omega)) (fun i hi => mix_lt hi)) hh (fun z fz cz => k z (f.tr fz) cz)
theorem pl_ref {x y : Cn} {W C S A N : Nat} {T0 : TT} {hp : Int32} {z : Cn} {Q : Int32 → Cn → Prop} (R : Rel x) (E : SEA x 2 (gi x 718) W C S A N) (f : PCr x y) (f2 : PFr y z) (hm : mixT z = mixT x) (hh : (hp = -1 ∧ T0 = mixT x) ∨ ∃ h, h < 24 ∧ hp = nI h ∧ T0 = hlT (mixT x) h) (k : ∀ u, PFr y u → mixT u = mixT x → gi u 719 = (accT (plS A N) A (pl0 T0 S)).1 → (∀ a, a < 24 → gi u 722 a = (accT (plS A N) A (pl0 T0 S)).2.2.1 a) → (∀ a, a < 24 → gi u 723 a = (accT (plS A N) A (pl0 T0 S)).2.2.2.1 a) → Q (nI (accT (plS A N) A (pl0 T0 S)).2.2.2.2) u) : mSI mX8_playsAside [.ref 717, .int hp] KW z Q := by
  have M : MRf z 718 := (R.2.1.keep f.1).keep f2.1
  refine sp_X8_playsAside M (T0 := T0) (by rw [hm]; exact hh) (pl_wf E hh) (fun u fu u1 u2 u3 => k u (f2.tr fu) ?_ u1 u2 u3)
  have iv := PIV.run (pl_wf E hh) A (Nat.le_refl _)
  funext i
  unfold mixT
  by_cases c : i < 518
  · rw [if_pos c, if_pos c, fu.2 718 i (by decide) (by decide) (by decide) (by decide) (by omega), f2.2 718 i (by decide) (by decide) (by decide) (by decide) (by omega), f.2 718 i (by omega)]
  · rw [if_neg c, if_neg c, u1, iv.2.2.2.1 i (by omega) (by omega)]
    rcases hh with ⟨_, rfl⟩ | ⟨h, h1, _, rfl⟩
    · unfold mixT; rw [if_neg c]
    · rw [hlT_off h1 (by omega)]; unfold mixT; rw [if_neg c]
theorem CPR.end {y : Cn} {W C S A N : Nat} {T0 : TT} (F : WFB T0 W C S A N) (c : CPR y (accT (plS A N) A (pl0 T0 S)) W C A N) {a : Nat} (ha : a < A) : gi y 173 a = (accT (plS A N) A (pl0 T0 S)).2.2.1 a ∧ gi y 174 a = (accT (plS A N) A (pl0 T0 S)).2.2.2.1 a :=
  c.2.2.2 a (usd_t.mp (cnt_all A (PIV.run F A (Nat.le_refl _)).2.1 a ha))
set_option maxHeartbeats 2000000 in
theorem v_X2_firstOf_0 {K : Sh} {x : Cn} {Q : Int32 → Cn → Prop} {b0 : Nat} {b1 : Nat} {b0_0 : Nat} (k_b0 : kk K b0 = some (2, 0)) (g_b0_0 : gr x b0 0 = some b0_0) (k_b0_0 : kk K b0_0 = some (4, 0)) (K0 : mSV mX4_copyFrom [.ref b0_0, .ref b1] K x (fun y_1 => mSV mX2_countSlots [.ref b0] K y_1 (fun y_2 => mSI mX2_allAsks [.ref b0] K y_2 (fun r_4 y_3 => mSI mX2_chosen [.ref b0, .int r_4, .int 1] K y_3 (fun r_6 y_5 => Q r_6 y_5))))) : mSI mX2_firstOf [.ref b0, .ref b1] K x Q := by
  refine s_I (by decide) (by simp [Value.category]) (Nat.le_of_ble_eq_true rfl) ?_
  show mGM mX2_firstOf 0 [some (.ref b0), some (.ref b1)] [] (hp K x) (PI K Q)
  refine r_aload_n (pc := 0) dX2_firstOf_0 rfl ?_
  refine s_getR (pc := 1) dX2_firstOf_1 fl_X2_12 rfl k_b0 g_b0_0 ?_
  refine r_aload_n (pc := 4) dX2_firstOf_4 rfl ?_
  refine s_VV (pc := 5) mX4_copyFrom (ci := 4) (a := b0_0) (As := [.ref b1]) dX2_firstOf_5 lk_X2_32 in_X4_copyFrom mo_X4_copyFrom ⟨by decide, rfl⟩ ⟨by decide, by decide⟩ (Nat.le_of_ble_eq_true rfl) k_b0_0 (mSV_mono K0 (fun y_1 K0 => ?_))
  refine r_aload_n (pc := 8) dX2_firstOf_8 rfl ?_
  refine s_VV (pc := 9) mX2_countSlots (ci := 2) (a := b0) (As := []) dX2_firstOf_9 lk_X2_36 in_X2_countSlots mo_X2_countSlots ⟨by decide, rfl⟩ ⟨by decide, by decide⟩ (Nat.le_of_ble_eq_true rfl) k_b0 (mSV_mono K0 (fun y_2 K0 => ?_))
  refine r_aload_n (pc := 12) dX2_firstOf_12 rfl ?_
  refine r_aload_n (pc := 13) dX2_firstOf_13 rfl ?_
  refine s_VI (pc := 14) mX2_allAsks (ci := 2) (a := b0) (As := []) dX2_firstOf_14 lk_X2_39 in_X2_allAsks mo_X2_allAsks ⟨by decide, rfl⟩ ⟨by decide, by decide⟩ (Nat.le_of_ble_eq_true rfl) k_b0 (mSI_mono K0 (fun r_4 y_3 K0 => ?_))
  refine r_iconst (pc := 17) (v := 1) dX2_firstOf_17 (by decide) ?_
  refine s_VI (pc := 18) mX2_chosen (ci := 2) (a := b0) (As := [.int r_4, .int 1]) dX2_firstOf_18 lk_X2_43 in_X2_chosen mo_X2_chosen ⟨by decide, rfl⟩ ⟨by decide, by decide⟩ (Nat.le_of_ble_eq_true rfl) k_b0 (mSI_mono K0 (fun r_6 y_5 K0 => ?_))
  exact s_iret rfl dX2_firstOf_21 K0
set_option maxHeartbeats 2000000 in
theorem v_X7_first_0 {K : Sh} {x : Cn} {Q : Int32 → Cn → Prop} {b0 : Nat} {b0_2 : Nat} {b0_9 : Nat} (k_b0 : kk K b0 = some (7, 0)) (g_b0_2 : gr x b0 2 = some b0_2) (k_b0_2 : kk K b0_2 = some (4, 0)) (g_b0_9 : gr x b0 9 = some b0_9) (k_b0_9 : kk K b0_9 = some (2, 0)) (K0 : ((0 < gi x b0_2 0) → (mSI mX2_firstOf [.ref b0_9, .ref b0_2] K x (fun r_3 y_2 => Q r_3 y_2))) ∧ (¬ (0 < gi x b0_2 0) → (Q (-2) x))) : mSI mX7_first [.ref b0] K x Q := by
  refine s_I (by decide) (by simp [Value.category]) (Nat.le_of_ble_eq_true rfl) ?_
  show mGM mX7_first 0 [some (.ref b0)] [] (hp K x) (PI K Q)
  refine r_aload_n (pc := 0) dX7_first_0 rfl ?_
  refine s_VI (pc := 1) mX7_hasText (ci := 7) (a := b0) (As := []) dX7_first_1 lk_X7_121 in_X7_hasText mo_X7_hasText ⟨by decide, rfl⟩ ⟨by decide, by decide⟩ (Nat.le_of_ble_eq_true rfl) k_b0 (sp_X7_hasText k_b0 g_b0_2 k_b0_2 ?_)
  refine r_if_ne (pc := 4) (tgt := 10) dX7_first_4 (by decide) (fun q => ?_) (fun q => ?_)
  · have q := b2i_nz q
    have K0 := K0.1 q
    refine r_aload_n (pc := 10) dX7_first_10 rfl ?_
    refine s_getR (pc := 11) dX7_first_11 fl_X7_54 rfl k_b0 g_b0_9 ?_
    refine r_aload_n (pc := 14) dX7_first_14 rfl ?_
    refine s_getR (pc := 15) dX7_first_15 fl_X7_20 rfl k_b0 g_b0_2 ?_
    refine s_VI (pc := 18) mX2_firstOf (ci := 2) (a := b0_9) (As := [.ref b0_2]) dX7_first_18 lk_X7_310 in_X2_firstOf mo_X2_firstOf ⟨by decide, rfl⟩ ⟨by decide, by decide⟩ (Nat.le_of_ble_eq_true rfl) k_b0_9 (mSI_mono K0 (fun r_3 y_2 K0 => ?_))
    exact s_iret rfl dX7_first_21 K0
  · have q := (b2i_z _).mp q
    have K0 := K0.2 q
    refine r_bipush (pc := 7) (v := (-2)) dX7_first_7 (by decide) ?_
    exact s_iret rfl dX7_first_9 K0
set_option maxHeartbeats 2000000 in
theorem v_X8_first_0 {K : Sh} {x : Cn} {Q : Int32 → Cn → Prop} {b0 : Nat} {b0_1 : Nat} {n_b0_1 : Nat} (k_b0 : kk K b0 = some (8, 0)) (g_b0_1 : gr x b0 1 = some b0_1) (k_b0_1 : kk K b0_1 = some (20, n_b0_1)) (K0 : vp_in 0 n_b0_1 ∧ (((0 < gi x b0_1 0) → (mSV mX8_begins [.ref b0] K x (fun y_3 => mSI mX8_chosen [.ref b0, .int 1] K y_3 (fun r_5 y_4 => (¬ r_5 = (-1) → (Q r_5 y_4)) ∧ (r_5 = (-1) → (mSI mX8_chosen [.ref b0, .int 0] K y_4 (fun r_8 y_7 => Q r_8 y_7))))))) ∧ (¬ (0 < gi x b0_1 0) → (Q (-2) x)))) : mSI mX8_first [.ref b0] K x Q := by
  refine s_I (by decide) (by simp [Value.category]) (Nat.le_of_ble_eq_true rfl) ?_
  show mGM mX8_first 0 [some (.ref b0), none] [] (hp K x) (PI K Q)
  refine r_aload_n (pc := 0) dX8_first_0 rfl ?_
  obtain ⟨i_1, K0⟩ := K0
  refine s_VI (pc := 1) mX8_isThere (ci := 8) (a := b0) (As := []) dX8_first_1 lk_X8_49 in_X8_isThere mo_X8_isThere ⟨by decide, rfl⟩ ⟨by decide, by decide⟩ (Nat.le_of_ble_eq_true rfl) k_b0 (sp_X8_isThere k_b0 g_b0_1 k_b0_1 i_1 ?_)
  refine r_if_ne (pc := 4) (tgt := 10) dX8_first_4 (by decide) (fun q => ?_) (fun q => ?_)
  · have q := b2i_nz q
    have K0 := K0.1 q
    refine r_aload_n (pc := 10) dX8_first_10 rfl ?_
    refine s_VV (pc := 11) mX8_begins (ci := 8) (a := b0) (As := []) dX8_first_11 lk_X8_338 in_X8_begins mo_X8_begins ⟨by decide, rfl⟩ ⟨by decide, by decide⟩ (Nat.le_of_ble_eq_true rfl) k_b0 (mSV_mono K0 (fun y_3 K0 => ?_))
    refine r_aload_n (pc := 14) dX8_first_14 rfl ?_
    refine r_iconst (pc := 15) (v := 1) dX8_first_15 (by decide) ?_
    refine s_VI (pc := 16) mX8_chosen (ci := 8) (a := b0) (As := [.int 1]) dX8_first_16 lk_X8_341 in_X8_chosen mo_X8_chosen ⟨by decide, rfl⟩ ⟨by decide, by decide⟩ (Nat.le_of_ble_eq_true rfl) k_b0 (mSI_mono K0 (fun r_5 y_4 K0 => ?_))
    refine r_istore_n (pc := 19) dX8_first_19 (by decide) ?_
    refine r_iload_n (pc := 20) (L := [some (.ref b0), some (.int r_5)]) dX8_first_20 rfl ?_
    refine r_iconst (pc := 21) (v := (-1)) dX8_first_21 (by decide) ?_
    refine r_icmp_ne (pc := 22) (tgt := 33) dX8_first_22 (by decide) (fun q => ?_) (fun q => ?_)
    · have K0 := K0.1 q
      refine r_iload_n (pc := 33) dX8_first_33 rfl ?_
      exact s_iret rfl dX8_first_34 K0
    · have K0 := K0.2 q
      refine r_aload_n (pc := 25) dX8_first_25 rfl ?_
      refine r_iconst (pc := 26) (v := 0) dX8_first_26 (by decide) ?_
      refine s_VI (pc := 27) mX8_chosen (ci := 8) (a := b0) (As := [.int 0]) dX8_first_27 lk_X8_341 in_X8_chosen mo_X8_chosen ⟨by decide, rfl⟩ ⟨by decide, by decide⟩ (Nat.le_of_ble_eq_true rfl) k_b0 (mSI_mono K0 (fun r_8 y_7 K0 => ?_))
      refine r_goto (pc := 30) (tgt := 34) dX8_first_30 (by decide) ?_
      exact s_iret rfl dX8_first_34 K0
  · have q := (b2i_z _).mp q
    have K0 := K0.2 q
    refine r_bipush (pc := 7) (v := (-2)) dX8_first_7 (by decide) ?_
    exact s_iret rfl dX8_first_9 K0
set_option maxHeartbeats 2000000 in
theorem v_X7_would_0 {K : Sh} {x : Cn} {Q : Int32 → Cn → Prop} {b0 : Nat} {b0_2 : Nat} {b0_9 : Nat} (k_b0 : kk K b0 = some (7, 0)) (g_b0_2 : gr x b0 2 = some b0_2) (k_b0_2 : kk K b0_2 = some (4, 0)) (g_b0_9 : gr x b0 9 = some b0_9) (k_b0_9 : kk K b0_9 = some (2, 0)) (K0 : ((0 < gi x b0_2 0) → (mSV mX2_serve [.ref b0_9, .ref b0_2, .int (-1)] K x (fun y_2 => gr y_2 b0 9 = some b0_9 ∧ (Q (gi y_2 b0_9 4) y_2)))) ∧ (¬ (0 < gi x b0_2 0) → (Q (-2) x))) : mSI mX7_would [.ref b0] K x Q := by
  refine s_I (by decide) (by simp [Value.category]) (Nat.le_of_ble_eq_true rfl) ?_
  show mGM mX7_would 0 [some (.ref b0)] [] (hp K x) (PI K Q)
  refine r_aload_n (pc := 0) dX7_would_0 rfl ?_
  refine s_VI (pc := 1) mX7_hasText (ci := 7) (a := b0) (As := []) dX7_would_1 lk_X7_121 in_X7_hasText mo_X7_hasText ⟨by decide, rfl⟩ ⟨by decide, by decide⟩ (Nat.le_of_ble_eq_true rfl) k_b0 (sp_X7_hasText k_b0 g_b0_2 k_b0_2 ?_)
  refine r_if_ne (pc := 4) (tgt := 10) dX7_would_4 (by decide) (fun q => ?_) (fun q => ?_)
  · have q := b2i_nz q
    have K0 := K0.1 q
    refine r_aload_n (pc := 10) dX7_would_10 rfl ?_
    refine s_getR (pc := 11) dX7_would_11 fl_X7_54 rfl k_b0 g_b0_9 ?_
    refine r_aload_n (pc := 14) dX7_would_14 rfl ?_
    refine s_getR (pc := 15) dX7_would_15 fl_X7_20 rfl k_b0 g_b0_2 ?_
    refine r_iconst (pc := 18) (v := (-1)) dX7_would_18 (by decide) ?_
    refine s_VV (pc := 19) mX2_serve (ci := 2) (a := b0_9) (As := [.ref b0_2, .int (-1)]) dX7_would_19 lk_X7_314 in_X2_serve mo_X2_serve ⟨by decide, rfl⟩ ⟨by decide, by decide⟩ (Nat.le_of_ble_eq_true rfl) k_b0_9 (mSV_mono K0 (fun y_2 K0 => ?_))
    refine r_aload_n (pc := 22) dX7_would_22 rfl ?_
    obtain ⟨g_3, K0⟩ := K0
    refine s_getR (pc := 23) dX7_would_23 fl_X7_54 rfl k_b0 g_3 ?_
    refine s_getI (pc := 26) dX7_would_26 fl_X7_318 rfl k_b0_9 ?_
    exact s_iret rfl dX7_would_29 K0
  · have q := (b2i_z _).mp q
    have K0 := K0.2 q
    refine r_bipush (pc := 7) (v := (-2)) dX7_would_7 (by decide) ?_
    exact s_iret rfl dX7_would_9 K0
set_option maxHeartbeats 2000000 in
theorem v_X8_would_0 {K : Sh} {x : Cn} {Q : Int32 → Cn → Prop} {b0 : Nat} {b0_1 : Nat} {n_b0_1 : Nat} (k_b0 : kk K b0 = some (8, 0)) (g_b0_1 : gr x b0 1 = some b0_1) (k_b0_1 : kk K b0_1 = some (20, n_b0_1)) (K0 : vp_in 0 n_b0_1 ∧ ((¬ (0 < gi x b0_1 0) → (Q (-2) x)) ∧ ((0 < gi x b0_1 0) → (mSI mX8_playsAside [.ref b0, .int (-1)] K x (fun r_4 y_3 => Q r_4 y_3))))) : mSI mX8_would [.ref b0] K x Q := by
  refine s_I (by decide) (by simp [Value.category]) (Nat.le_of_ble_eq_true rfl) ?_
  show mGM mX8_would 0 [some (.ref b0)] [] (hp K x) (PI K Q)
  refine r_aload_n (pc := 0) dX8_would_0 rfl ?_
  obtain ⟨i_1, K0⟩ := K0
  refine s_VI (pc := 1) mX8_isThere (ci := 8) (a := b0) (As := []) dX8_would_1 lk_X8_49 in_X8_isThere mo_X8_isThere ⟨by decide, rfl⟩ ⟨by decide, by decide⟩ (Nat.le_of_ble_eq_true rfl) k_b0 (sp_X8_isThere k_b0 g_b0_1 k_b0_1 i_1 ?_)
  refine r_if_eq (pc := 4) (tgt := 15) dX8_would_4 (by decide) (fun q => ?_) (fun q => ?_)
  · have q := (b2i_z _).mp q
    have K0 := K0.1 q
    refine r_bipush (pc := 15) (v := (-2)) dX8_would_15 (by decide) ?_
    exact s_iret rfl dX8_would_17 K0
  · have q := b2i_nz q
    have K0 := K0.2 q
    refine r_aload_n (pc := 7) dX8_would_7 rfl ?_
    refine r_iconst (pc := 8) (v := (-1)) dX8_would_8 (by decide) ?_
    refine s_VI (pc := 9) mX8_playsAside (ci := 8) (a := b0) (As := [.int (-1)]) dX8_would_9 lk_X8_354 in_X8_playsAside mo_X8_playsAside ⟨by decide, rfl⟩ ⟨by decide, by decide⟩ (Nat.le_of_ble_eq_true rfl) k_b0 (mSI_mono K0 (fun r_4 y_3 K0 => ?_))
    refine r_goto (pc := 12) (tgt := 17) dX8_would_12 (by decide) ?_
    exact s_iret rfl dX8_would_17 K0
set_option maxHeartbeats 2000000 in
theorem v_X7_helps_0 {K : Sh} {x : Cn} {Q : Int32 → Cn → Prop} {b0 : Nat} {l1 : Int32} {b0_2 : Nat} (k_b0 : kk K b0 = some (7, 0)) (g_b0_2 : gr x b0 2 = some b0_2) (k_b0_2 : kk K b0_2 = some (4, 0)) (K0 : (¬ (0 < gi x b0_2 0) → (Q (-2) x)) ∧ ((0 < gi x b0_2 0) → (((0 ≤ l1 ∧ l1 ≤ 1) → (GI mX7_helps 26 [some (.ref b0), some (.int l1), some (.int 0), some (.int (-1)), some (.int 0)] [] K x Q)) ∧ (¬ (0 ≤ l1 ∧ l1 ≤ 1) → (Q (-2) x))))) : mSI mX7_helps [.ref b0, .int l1] K x Q := by
  refine s_I (by decide) (by simp [Value.category]) (Nat.le_of_ble_eq_true rfl) ?_
  show mGM mX7_helps 0 [some (.ref b0), some (.int l1), none, none, none] [] (hp K x) (PI K Q)
  refine r_aload_n (pc := 0) dX7_helps_0 rfl ?_
  refine s_VI (pc := 1) mX7_hasText (ci := 7) (a := b0) (As := []) dX7_helps_1 lk_X7_121 in_X7_hasText mo_X7_hasText ⟨by decide, rfl⟩ ⟨by decide, by decide⟩ (Nat.le_of_ble_eq_true rfl) k_b0 (sp_X7_hasText k_b0 g_b0_2 k_b0_2 ?_)
  refine r_if_eq (pc := 4) (tgt := 16) dX7_helps_4 (by decide) (fun q => ?_) (fun q => ?_)
  · have q := (b2i_z _).mp q
    have K0 := K0.1 q
    refine r_bipush (pc := 16) (v := (-2)) dX7_helps_16 (by decide) ?_
    exact s_iret rfl dX7_helps_18 K0
  · have q := b2i_nz q
    have K0 := K0.2 q
    refine r_iload_n (pc := 7) dX7_helps_7 rfl ?_
    refine r_iconst (pc := 8) (v := 0) dX7_helps_8 (by decide) ?_
    refine r_iconst (pc := 9) (v := 1) dX7_helps_9 (by decide) ?_
    refine s_SI (pc := 10) mX7_isWithin (As := [.int l1, .int 0, .int 1]) dX7_helps_10 lk_X7_113 st_X7_isWithin mo_X7_isWithin ⟨by decide, by decide⟩ (Nat.le_of_ble_eq_true rfl) (sp_X7_isWithin  ?_)
    refine r_if_ne (pc := 13) (tgt := 19) dX7_helps_13 (by decide) (fun q => ?_) (fun q => ?_)
    · have q := b2i_nz q
      have K0 := K0.1 q
      refine r_iconst (pc := 19) (v := 0) dX7_helps_19 (by decide) ?_
      refine r_istore_n (pc := 20) dX7_helps_20 (by decide) ?_
      refine r_iconst (pc := 21) (L := [some (.ref b0), some (.int l1), some (.int 0), none, none]) (v := (-1)) dX7_helps_21 (by decide) ?_
      refine r_istore_n (pc := 22) dX7_helps_22 (by decide) ?_
      refine r_iconst (pc := 23) (L := [some (.ref b0), some (.int l1), some (.int 0), some (.int (-1)), none]) (v := 0) dX7_helps_23 (by decide) ?_
      refine r_istore (pc := 24) dX7_helps_24 (by decide) ?_
      exact r_le (L' := [some (.ref b0), some (.int l1), some (.int 0), some (.int (-1)), some (.int 0)]) ⟨rfl, ⟨rfl, ⟨rfl, ⟨rfl, ⟨rfl, trivial⟩⟩⟩⟩⟩ K0
    · have q := (b2i_z _).mp q
      have K0 := K0.2 q
      refine r_bipush (pc := 16) (v := (-2)) dX7_helps_16 (by decide) ?_
      exact s_iret rfl dX7_helps_18 K0
set_option maxHeartbeats 2000000 in
theorem v_X7_helps_26 {K : Sh} {x : Cn} {Q : Int32 → Cn → Prop} {b0 : Nat} {l1 : Int32} {l2 : Int32} {l3 : Int32} {l4 : Int32} {b0_9 : Nat} {b0_2 : Nat} (k_b0 : kk K b0 = some (7, 0)) (g_b0_9 : gr x b0 9 = some b0_9) (g_b0_2 : gr x b0 2 = some b0_2) (k_b0_9 : kk K b0_9 = some (2, 0)) (K0 : (24 ≤ l4 → ((¬ l1 = 0 → (Q l3 x)) ∧ (l1 = 0 → (Q l2 x)))) ∧ (¬ 24 ≤ l4 → (mSV mX2_serve [.ref b0_9, .ref b0_2, .int l4] K x (fun y_3 => gr y_3 b0 9 = some b0_9 ∧ (((gi y_3 b0_9 4) ≤ l3 → (GI mX7_helps 26 [some (.ref b0), some (.int l1), some (.int l2), some (.int l3), some (.int (l4 + 1))] [] K y_3 Q)) ∧ (¬ (gi y_3 b0_9 4) ≤ l3 → (GI mX7_helps 26 [some (.ref b0), some (.int l1), some (.int l4), some (.int (gi y_3 b0_9 4)), some (.int (l4 + 1))] [] K y_3 Q))))))) : GI mX7_helps 26 [some (.ref b0), some (.int l1), some (.int l2), some (.int l3), some (.int l4)] [] K x Q := by
  show mGM mX7_helps 26 [some (.ref b0), some (.int l1), some (.int l2), some (.int l3), some (.int l4)] [] (hp K x) (PI K Q)
  refine r_iload (pc := 26) dX7_helps_26 rfl ?_
  refine r_bipush (pc := 28) (v := 24) dX7_helps_28 (by decide) ?_
  refine r_icmp_ge (pc := 30) (tgt := 74) dX7_helps_30 (by decide) (fun q => ?_) (fun q => ?_)
  · have K0 := K0.1 q
    refine r_iload_n (pc := 74) dX7_helps_74 rfl ?_
    refine r_if_ne (pc := 75) (tgt := 82) dX7_helps_75 (by decide) (fun q => ?_) (fun q => ?_)
    · have K0 := K0.1 q
      refine r_iload_n (pc := 82) dX7_helps_82 rfl ?_
      exact s_iret rfl dX7_helps_83 K0
    · have K0 := K0.2 q
      refine r_iload_n (pc := 78) dX7_helps_78 rfl ?_
      refine r_goto (pc := 79) (tgt := 83) dX7_helps_79 (by decide) ?_
      exact s_iret rfl dX7_helps_83 K0
  · have K0 := K0.2 q
    refine r_aload_n (pc := 33) dX7_helps_33 rfl ?_
    refine s_getR (pc := 34) dX7_helps_34 fl_X7_54 rfl k_b0 g_b0_9 ?_
    refine r_aload_n (pc := 37) dX7_helps_37 rfl ?_
    refine s_getR (pc := 38) dX7_helps_38 fl_X7_20 rfl k_b0 g_b0_2 ?_
    refine r_iload (pc := 41) dX7_helps_41 rfl ?_
    refine s_VV (pc := 43) mX2_serve (ci := 2) (a := b0_9) (As := [.ref b0_2, .int l4]) dX7_helps_43 lk_X7_314 in_X2_serve mo_X2_serve ⟨by decide, rfl⟩ ⟨by decide, by decide⟩ (Nat.le_of_ble_eq_true rfl) k_b0_9 (mSV_mono K0 (fun y_3 K0 => ?_))
    refine r_aload_n (pc := 46) dX7_helps_46 rfl ?_
    obtain ⟨g_4, K0⟩ := K0
    refine s_getR (pc := 47) dX7_helps_47 fl_X7_54 rfl k_b0 g_4 ?_
    refine s_getI (pc := 50) dX7_helps_50 fl_X7_318 rfl k_b0_9 ?_
    refine r_iload_n (pc := 53) dX7_helps_53 rfl ?_
    refine r_icmp_le (pc := 54) (tgt := 68) dX7_helps_54 (by decide) (fun q => ?_) (fun q => ?_)
    · have K0 := K0.1 q
      refine r_iinc (pc := 68) (v := l4 + 1) dX7_helps_68 rfl rfl (by decide) ?_
      refine r_goto (pc := 71) (L := [some (.ref b0), some (.int l1), some (.int l2), some (.int l3), some (.int (l4 + 1))]) (tgt := 26) dX7_helps_71 (by decide) ?_
      exact r_le (L' := [some (.ref b0), some (.int l1), some (.int l2), some (.int l3), some (.int (l4 + 1))]) ⟨rfl, ⟨rfl, ⟨rfl, ⟨rfl, ⟨rfl, trivial⟩⟩⟩⟩⟩ K0
    · have K0 := K0.2 q
      refine r_aload_n (pc := 57) dX7_helps_57 rfl ?_
      refine s_getR (pc := 58) dX7_helps_58 fl_X7_54 rfl k_b0 g_4 ?_
      refine s_getI (pc := 61) dX7_helps_61 fl_X7_318 rfl k_b0_9 ?_
      refine r_istore_n (pc := 64) dX7_helps_64 (by decide) ?_
      refine r_iload (pc := 65) (L := [some (.ref b0), some (.int l1), some (.int l2), some (.int (gi y_3 b0_9 4)), some (.int l4)]) dX7_helps_65 rfl ?_
      refine r_istore_n (pc := 67) dX7_helps_67 (by decide) ?_
      refine r_iinc (pc := 68) (L := [some (.ref b0), some (.int l1), some (.int l4), some (.int (gi y_3 b0_9 4)), some (.int l4)]) (v := l4 + 1) dX7_helps_68 rfl rfl (by decide) ?_
      refine r_goto (pc := 71) (L := [some (.ref b0), some (.int l1), some (.int l4), some (.int (gi y_3 b0_9 4)), some (.int (l4 + 1))]) (tgt := 26) dX7_helps_71 (by decide) ?_
      exact r_le (L' := [some (.ref b0), some (.int l1), some (.int l4), some (.int (gi y_3 b0_9 4)), some (.int (l4 + 1))]) ⟨rfl, ⟨rfl, ⟨rfl, ⟨rfl, ⟨rfl, trivial⟩⟩⟩⟩⟩ K0
set_option maxHeartbeats 2000000 in
theorem v_X8_helps_0 {K : Sh} {x : Cn} {Q : Int32 → Cn → Prop} {b0 : Nat} {l1 : Int32} {b0_1 : Nat} {n_b0_1 : Nat} (k_b0 : kk K b0 = some (8, 0)) (g_b0_1 : gr x b0 1 = some b0_1) (k_b0_1 : kk K b0_1 = some (20, n_b0_1)) (K0 : vp_in 0 n_b0_1 ∧ ((¬ (0 < gi x b0_1 0) → (Q (-2) x)) ∧ ((0 < gi x b0_1 0) → (((0 ≤ l1 ∧ l1 ≤ 1) → (GI mX8_helps 27 [some (.ref b0), some (.int l1), some (.int 0), some (.int (-1)), some (.int 0), none] [] K x Q)) ∧ (¬ (0 ≤ l1 ∧ l1 ≤ 1) → (Q (-2) x)))))) : mSI mX8_helps [.ref b0, .int l1] K x Q := by
  refine s_I (by decide) (by simp [Value.category]) (Nat.le_of_ble_eq_true rfl) ?_
  show mGM mX8_helps 0 [some (.ref b0), some (.int l1), none, none, none, none] [] (hp K x) (PI K Q)
  refine r_aload_n (pc := 0) dX8_helps_0 rfl ?_
  obtain ⟨i_1, K0⟩ := K0
  refine s_VI (pc := 1) mX8_isThere (ci := 8) (a := b0) (As := []) dX8_helps_1 lk_X8_49 in_X8_isThere mo_X8_isThere ⟨by decide, rfl⟩ ⟨by decide, by decide⟩ (Nat.le_of_ble_eq_true rfl) k_b0 (sp_X8_isThere k_b0 g_b0_1 k_b0_1 i_1 ?_)
  refine r_if_eq (pc := 4) (tgt := 17) dX8_helps_4 (by decide) (fun q => ?_) (fun q => ?_)
  · have q := (b2i_z _).mp q
    have K0 := K0.1 q
    refine r_bipush (pc := 17) (v := (-2)) dX8_helps_17 (by decide) ?_
    exact s_iret rfl dX8_helps_19 K0
  · have q := b2i_nz q
    have K0 := K0.2 q
    refine r_iload_n (pc := 7) dX8_helps_7 rfl ?_
    refine r_i2l (pc := 8) dX8_helps_8 ?_
    refine r_lconst (pc := 9) (v := 0) dX8_helps_9 (by decide) ?_
    refine r_lconst (pc := 10) (v := 1) dX8_helps_10 (by decide) ?_
    refine s_SI (pc := 11) mX8_in (As := [.long ((l1 : Int32).toInt64), .long 0, .long 1]) dX8_helps_11 lk_X8_45 st_X8_in mo_X8_in ⟨by decide, by decide⟩ (Nat.le_of_ble_eq_true rfl) (sq_X8_in (v := l1) (lo := 0) (hi := 1) rfl (by decide) (by decide) ?_)
    refine r_if_ne (pc := 14) (tgt := 20) dX8_helps_14 (by decide) (fun q => ?_) (fun q => ?_)
    · have q := b2i_nz q
      have K0 := K0.1 q
      refine r_iconst (pc := 20) (v := 0) dX8_helps_20 (by decide) ?_
      refine r_istore_n (pc := 21) dX8_helps_21 (by decide) ?_
      refine r_iconst (pc := 22) (L := [some (.ref b0), some (.int l1), some (.int 0), none, none, none]) (v := (-1)) dX8_helps_22 (by decide) ?_
      refine r_istore_n (pc := 23) dX8_helps_23 (by decide) ?_
      refine r_iconst (pc := 24) (L := [some (.ref b0), some (.int l1), some (.int 0), some (.int (-1)), none, none]) (v := 0) dX8_helps_24 (by decide) ?_
      refine r_istore (pc := 25) dX8_helps_25 (by decide) ?_
      exact r_le (L' := [some (.ref b0), some (.int l1), some (.int 0), some (.int (-1)), some (.int 0), none]) ⟨rfl, ⟨rfl, ⟨rfl, ⟨rfl, ⟨rfl, trivial⟩⟩⟩⟩⟩ K0
    · have q := (b2i_z _).mp q
      have K0 := K0.2 q
      refine r_bipush (pc := 17) (v := (-2)) dX8_helps_17 (by decide) ?_
      exact s_iret rfl dX8_helps_19 K0
set_option maxHeartbeats 2000000 in
theorem v_X8_helps_27 {K : Sh} {x : Cn} {Q : Int32 → Cn → Prop} {b0 : Nat} {l1 : Int32} {l2 : Int32} {l3 : Int32} {l4 : Int32}  (k_b0 : kk K b0 = some (8, 0)) (K0 : (24 ≤ l4 → ((¬ l1 = 0 → (Q l3 x)) ∧ (l1 = 0 → (Q l2 x)))) ∧ (¬ 24 ≤ l4 → (mSI mX8_playsAside [.ref b0, .int l4] K x (fun r_4 y_3 => (l3 < r_4 → (GI mX8_helps 27 [some (.ref b0), some (.int l1), some (.int l4), some (.int r_4), some (.int (l4 + 1)), none] [] K y_3 Q)) ∧ (¬ l3 < r_4 → (GI mX8_helps 27 [some (.ref b0), some (.int l1), some (.int l2), some (.int l3), some (.int (l4 + 1)), none] [] K y_3 Q)))))) : GI mX8_helps 27 [some (.ref b0), some (.int l1), some (.int l2), some (.int l3), some (.int l4), none] [] K x Q := by
  show mGM mX8_helps 27 [some (.ref b0), some (.int l1), some (.int l2), some (.int l3), some (.int l4), none] [] (hp K x) (PI K Q)
  refine r_iload (pc := 27) dX8_helps_27 rfl ?_
  refine r_bipush (pc := 29) (v := 24) dX8_helps_29 (by decide) ?_
  refine r_icmp_ge (pc := 31) (tgt := 63) dX8_helps_31 (by decide) (fun q => ?_) (fun q => ?_)
  · have K0 := K0.1 q
    refine r_iload_n (pc := 63) dX8_helps_63 rfl ?_
    refine r_if_ne (pc := 64) (tgt := 71) dX8_helps_64 (by decide) (fun q => ?_) (fun q => ?_)
    · have K0 := K0.1 q
      refine r_iload_n (pc := 71) dX8_helps_71 rfl ?_
      exact s_iret rfl dX8_helps_72 K0
    · have K0 := K0.2 q
      refine r_iload_n (pc := 67) dX8_helps_67 rfl ?_
      refine r_goto (pc := 68) (tgt := 72) dX8_helps_68 (by decide) ?_
      exact s_iret rfl dX8_helps_72 K0
  · have K0 := K0.2 q
    refine r_aload_n (pc := 34) dX8_helps_34 rfl ?_
    refine r_iload (pc := 35) dX8_helps_35 rfl ?_
    refine s_VI (pc := 37) mX8_playsAside (ci := 8) (a := b0) (As := [.int l4]) dX8_helps_37 lk_X8_354 in_X8_playsAside mo_X8_playsAside ⟨by decide, rfl⟩ ⟨by decide, by decide⟩ (Nat.le_of_ble_eq_true rfl) k_b0 (mSI_mono K0 (fun r_4 y_3 K0 => ?_))
    refine r_istore (pc := 40) dX8_helps_40 (by decide) ?_
    refine r_iload (pc := 42) (L := [some (.ref b0), some (.int l1), some (.int l2), some (.int l3), some (.int l4), some (.int r_4)]) dX8_helps_42 rfl ?_
    refine r_iload_n (pc := 44) dX8_helps_44 rfl ?_
    refine r_icmp_gt (pc := 45) (tgt := 51) dX8_helps_45 (by decide) (fun q => ?_) (fun q => ?_)
    · have K0 := K0.1 q
      refine r_iload (pc := 51) dX8_helps_51 rfl ?_
      refine r_istore_n (pc := 53) dX8_helps_53 (by decide) ?_
      refine r_iload (pc := 54) (L := [some (.ref b0), some (.int l1), some (.int l4), some (.int l3), some (.int l4), some (.int r_4)]) dX8_helps_54 rfl ?_
      refine r_istore_n (pc := 56) dX8_helps_56 (by decide) ?_
      refine r_iinc (pc := 57) (L := [some (.ref b0), some (.int l1), some (.int l4), some (.int r_4), some (.int l4), some (.int r_4)]) (v := l4 + 1) dX8_helps_57 rfl rfl (by decide) ?_
      refine r_goto (pc := 60) (L := [some (.ref b0), some (.int l1), some (.int l4), some (.int r_4), some (.int (l4 + 1)), some (.int r_4)]) (tgt := 27) dX8_helps_60 (by decide) ?_
      exact r_le (L' := [some (.ref b0), some (.int l1), some (.int l4), some (.int r_4), some (.int (l4 + 1)), none]) ⟨rfl, ⟨rfl, ⟨rfl, ⟨rfl, ⟨rfl, trivial⟩⟩⟩⟩⟩ K0
    · have K0 := K0.2 q
      refine r_goto (pc := 48) (tgt := 57) dX8_helps_48 (by decide) ?_
      refine r_iinc (pc := 57) (v := l4 + 1) dX8_helps_57 rfl rfl (by decide) ?_
      refine r_goto (pc := 60) (L := [some (.ref b0), some (.int l1), some (.int l2), some (.int l3), some (.int (l4 + 1)), some (.int r_4)]) (tgt := 27) dX8_helps_60 (by decide) ?_
      exact r_le (L' := [some (.ref b0), some (.int l1), some (.int l2), some (.int l3), some (.int (l4 + 1)), none]) ⟨rfl, ⟨rfl, ⟨rfl, ⟨rfl, ⟨rfl, trivial⟩⟩⟩⟩⟩ K0
set_option maxHeartbeats 2000000 in
theorem v_X7_turn_0 {K : Sh} {x : Cn} {Q : Int32 → Cn → Prop} {b0 : Nat} {l1 : Int32} {b0_2 : Nat} {b0_9 : Nat} (k_b0 : kk K b0 = some (7, 0)) (g_b0_2 : gr x b0 2 = some b0_2) (k_b0_2 : kk K b0_2 = some (4, 0)) (g_b0_9 : gr x b0 9 = some b0_9) (k_b0_9 : kk K b0_9 = some (2, 0)) (K0 : ((0 ≤ l1 ∧ l1 < gi x b0_2 4) → (mSV mX2_serve [.ref b0_9, .ref b0_2, .int (-1)] K x (fun y_2 => gr y_2 b0 9 = some b0_9 ∧ (∃ c_4 : Nat, gr y_2 b0_9 2 = some c_4 ∧ (∃ n_7 : Nat, kk K c_4 = some (20, n_7) ∧ (vp_in l1 n_7 ∧ (Q (gi y_2 c_4 (l1 : Int32).toNatClampNeg) y_2))))))) ∧ (¬ (0 ≤ l1 ∧ l1 < gi x b0_2 4) → (Q (-2) x))) : mSI mX7_turn [.ref b0, .int l1] K x Q := by
  refine s_I (by decide) (by simp [Value.category]) (Nat.le_of_ble_eq_true rfl) ?_
  show mGM mX7_turn 0 [some (.ref b0), some (.int l1)] [] (hp K x) (PI K Q)
  refine r_aload_n (pc := 0) dX7_turn_0 rfl ?_
  refine r_iload_n (pc := 1) dX7_turn_1 rfl ?_
  refine s_VI (pc := 2) mX7_isAsk (ci := 7) (a := b0) (As := [.int l1]) dX7_turn_2 lk_X7_173 in_X7_isAsk mo_X7_isAsk ⟨by decide, rfl⟩ ⟨by decide, by decide⟩ (Nat.le_of_ble_eq_true rfl) k_b0 (sp_X7_isAsk k_b0 g_b0_2 k_b0_2 ?_)
  refine r_if_ne (pc := 5) (tgt := 11) dX7_turn_5 (by decide) (fun q => ?_) (fun q => ?_)
  · have q := b2i_nz q
    have K0 := K0.1 q
    refine r_aload_n (pc := 11) dX7_turn_11 rfl ?_
    refine s_getR (pc := 12) dX7_turn_12 fl_X7_54 rfl k_b0 g_b0_9 ?_
    refine r_aload_n (pc := 15) dX7_turn_15 rfl ?_
    refine s_getR (pc := 16) dX7_turn_16 fl_X7_20 rfl k_b0 g_b0_2 ?_
    refine r_iconst (pc := 19) (v := (-1)) dX7_turn_19 (by decide) ?_
    refine s_VV (pc := 20) mX2_serve (ci := 2) (a := b0_9) (As := [.ref b0_2, .int (-1)]) dX7_turn_20 lk_X7_314 in_X2_serve mo_X2_serve ⟨by decide, rfl⟩ ⟨by decide, by decide⟩ (Nat.le_of_ble_eq_true rfl) k_b0_9 (mSV_mono K0 (fun y_2 K0 => ?_))
    refine r_aload_n (pc := 23) dX7_turn_23 rfl ?_
    obtain ⟨g_3, K0⟩ := K0
    refine s_getR (pc := 24) dX7_turn_24 fl_X7_54 rfl k_b0 g_3 ?_
    obtain ⟨c_4, g_5, K0⟩ := K0
    refine s_getR (pc := 27) dX7_turn_27 fl_X7_321 rfl k_b0_9 g_5 ?_
    refine r_iload_n (pc := 30) dX7_turn_30 rfl ?_
    obtain ⟨n_7, e_6, K0⟩ := K0
    obtain ⟨i_8, K0⟩ := K0
    refine s_iald (pc := 31) dX7_turn_31 e_6 i_8 ?_
    exact s_iret rfl dX7_turn_32 K0
  · have q := (b2i_z _).mp q
    have K0 := K0.2 q
    refine r_bipush (pc := 8) (v := (-2)) dX7_turn_8 (by decide) ?_
    exact s_iret rfl dX7_turn_10 K0
set_option maxHeartbeats 2000000 in
theorem v_X8_turn_0 {K : Sh} {x : Cn} {Q : Int32 → Cn → Prop} {b0 : Nat} {l1 : Int32} {b0_1 : Nat} {n_b0_1 : Nat} (k_b0 : kk K b0 = some (8, 0)) (g_b0_1 : gr x b0 1 = some b0_1) (k_b0_1 : kk K b0_1 = some (20, n_b0_1)) (K0 : vp_in 3 n_b0_1 ∧ (((0 ≤ l1 ∧ l1 ≤ gi x b0_1 3 - 1) → (mSI mX8_playsAside [.ref b0, .int (-1)] K x (fun r_4 y_3 => ∃ c_5 : Nat, gr y_3 b0 16 = some c_5 ∧ (∃ n_8 : Nat, kk K c_5 = some (20, n_8) ∧ (vp_in l1 n_8 ∧ (Q (gi y_3 c_5 (l1 : Int32).toNatClampNeg) y_3)))))) ∧ (¬ (0 ≤ l1 ∧ l1 ≤ gi x b0_1 3 - 1) → (Q (-2) x)))) : mSI mX8_turn [.ref b0, .int l1] K x Q := by
  refine s_I (by decide) (by simp [Value.category]) (Nat.le_of_ble_eq_true rfl) ?_
  show mGM mX8_turn 0 [some (.ref b0), some (.int l1), none] [] (hp K x) (PI K Q)
  refine r_aload_n (pc := 0) dX8_turn_0 rfl ?_
  refine r_iload_n (pc := 1) dX8_turn_1 rfl ?_
  obtain ⟨i_1, K0⟩ := K0
  refine s_VI (pc := 2) mX8_isAsk (ci := 8) (a := b0) (As := [.int l1]) dX8_turn_2 lk_X8_281 in_X8_isAsk mo_X8_isAsk ⟨by decide, rfl⟩ ⟨by decide, by decide⟩ (Nat.le_of_ble_eq_true rfl) k_b0 (sp_X8_isAsk k_b0 g_b0_1 k_b0_1 i_1 ?_)
  refine r_if_ne (pc := 5) (tgt := 11) dX8_turn_5 (by decide) (fun q => ?_) (fun q => ?_)
  · have q := b2i_nz q
    have K0 := K0.1 q
    refine r_aload_n (pc := 11) dX8_turn_11 rfl ?_
    refine r_iconst (pc := 12) (v := (-1)) dX8_turn_12 (by decide) ?_
    refine s_VI (pc := 13) mX8_playsAside (ci := 8) (a := b0) (As := [.int (-1)]) dX8_turn_13 lk_X8_354 in_X8_playsAside mo_X8_playsAside ⟨by decide, rfl⟩ ⟨by decide, by decide⟩ (Nat.le_of_ble_eq_true rfl) k_b0 (mSI_mono K0 (fun r_4 y_3 K0 => ?_))
    refine r_istore_n (pc := 16) dX8_turn_16 (by decide) ?_
    refine r_aload_n (pc := 17) (L := [some (.ref b0), some (.int l1), some (.int r_4)]) dX8_turn_17 rfl ?_
    obtain ⟨c_5, g_6, K0⟩ := K0
    refine s_getR (pc := 18) dX8_turn_18 fl_X8_30 rfl k_b0 g_6 ?_
    refine r_iload_n (pc := 21) dX8_turn_21 rfl ?_
    obtain ⟨n_8, e_7, K0⟩ := K0
    obtain ⟨i_9, K0⟩ := K0
    refine s_iald (pc := 22) dX8_turn_22 e_7 i_9 ?_
    exact s_iret rfl dX8_turn_23 K0
  · have q := (b2i_z _).mp q
    have K0 := K0.2 q
    refine r_bipush (pc := 8) (v := (-2)) dX8_turn_8 (by decide) ?_
    exact s_iret rfl dX8_turn_10 K0
set_option maxHeartbeats 2000000 in
theorem v_X7_granted_0 {K : Sh} {x : Cn} {Q : Int32 → Cn → Prop} {b0 : Nat} {l1 : Int32} {b0_2 : Nat} {b0_9 : Nat} (k_b0 : kk K b0 = some (7, 0)) (g_b0_2 : gr x b0 2 = some b0_2) (k_b0_2 : kk K b0_2 = some (4, 0)) (g_b0_9 : gr x b0 9 = some b0_9) (k_b0_9 : kk K b0_9 = some (2, 0)) (K0 : ((0 ≤ l1 ∧ l1 < gi x b0_2 4) → (mSV mX2_serve [.ref b0_9, .ref b0_2, .int (-1)] K x (fun y_2 => gr y_2 b0 9 = some b0_9 ∧ (∃ c_4 : Nat, gr y_2 b0_9 3 = some c_4 ∧ (∃ n_7 : Nat, kk K c_4 = some (20, n_7) ∧ (vp_in l1 n_7 ∧ (Q (gi y_2 c_4 (l1 : Int32).toNatClampNeg) y_2))))))) ∧ (¬ (0 ≤ l1 ∧ l1 < gi x b0_2 4) → (Q (-2) x))) : mSI mX7_granted [.ref b0, .int l1] K x Q := by
  refine s_I (by decide) (by simp [Value.category]) (Nat.le_of_ble_eq_true rfl) ?_
  show mGM mX7_granted 0 [some (.ref b0), some (.int l1)] [] (hp K x) (PI K Q)
  refine r_aload_n (pc := 0) dX7_granted_0 rfl ?_
  refine r_iload_n (pc := 1) dX7_granted_1 rfl ?_
  refine s_VI (pc := 2) mX7_isAsk (ci := 7) (a := b0) (As := [.int l1]) dX7_granted_2 lk_X7_173 in_X7_isAsk mo_X7_isAsk ⟨by decide, rfl⟩ ⟨by decide, by decide⟩ (Nat.le_of_ble_eq_true rfl) k_b0 (sp_X7_isAsk k_b0 g_b0_2 k_b0_2 ?_)
  refine r_if_ne (pc := 5) (tgt := 11) dX7_granted_5 (by decide) (fun q => ?_) (fun q => ?_)
  · have q := b2i_nz q
    have K0 := K0.1 q
    refine r_aload_n (pc := 11) dX7_granted_11 rfl ?_
    refine s_getR (pc := 12) dX7_granted_12 fl_X7_54 rfl k_b0 g_b0_9 ?_
    refine r_aload_n (pc := 15) dX7_granted_15 rfl ?_
    refine s_getR (pc := 16) dX7_granted_16 fl_X7_20 rfl k_b0 g_b0_2 ?_
    refine r_iconst (pc := 19) (v := (-1)) dX7_granted_19 (by decide) ?_
    refine s_VV (pc := 20) mX2_serve (ci := 2) (a := b0_9) (As := [.ref b0_2, .int (-1)]) dX7_granted_20 lk_X7_314 in_X2_serve mo_X2_serve ⟨by decide, rfl⟩ ⟨by decide, by decide⟩ (Nat.le_of_ble_eq_true rfl) k_b0_9 (mSV_mono K0 (fun y_2 K0 => ?_))
    refine r_aload_n (pc := 23) dX7_granted_23 rfl ?_
    obtain ⟨g_3, K0⟩ := K0
    refine s_getR (pc := 24) dX7_granted_24 fl_X7_54 rfl k_b0 g_3 ?_
    obtain ⟨c_4, g_5, K0⟩ := K0
    refine s_getR (pc := 27) dX7_granted_27 fl_X7_324 rfl k_b0_9 g_5 ?_
    refine r_iload_n (pc := 30) dX7_granted_30 rfl ?_
    obtain ⟨n_7, e_6, K0⟩ := K0
    obtain ⟨i_8, K0⟩ := K0
    refine s_iald (pc := 31) dX7_granted_31 e_6 i_8 ?_
    exact s_iret rfl dX7_granted_32 K0
  · have q := (b2i_z _).mp q
    have K0 := K0.2 q
    refine r_bipush (pc := 8) (v := (-2)) dX7_granted_8 (by decide) ?_
    exact s_iret rfl dX7_granted_10 K0
set_option maxHeartbeats 2000000 in
theorem v_X8_granted_0 {K : Sh} {x : Cn} {Q : Int32 → Cn → Prop} {b0 : Nat} {l1 : Int32} {b0_1 : Nat} {n_b0_1 : Nat} (k_b0 : kk K b0 = some (8, 0)) (g_b0_1 : gr x b0 1 = some b0_1) (k_b0_1 : kk K b0_1 = some (20, n_b0_1)) (K0 : vp_in 3 n_b0_1 ∧ (((0 ≤ l1 ∧ l1 ≤ gi x b0_1 3 - 1) → (mSI mX8_playsAside [.ref b0, .int (-1)] K x (fun r_4 y_3 => ∃ c_5 : Nat, gr y_3 b0 17 = some c_5 ∧ (∃ n_8 : Nat, kk K c_5 = some (20, n_8) ∧ (vp_in l1 n_8 ∧ (Q (gi y_3 c_5 (l1 : Int32).toNatClampNeg) y_3)))))) ∧ (¬ (0 ≤ l1 ∧ l1 ≤ gi x b0_1 3 - 1) → (Q (-2) x)))) : mSI mX8_granted [.ref b0, .int l1] K x Q := by
  refine s_I (by decide) (by simp [Value.category]) (Nat.le_of_ble_eq_true rfl) ?_
  show mGM mX8_granted 0 [some (.ref b0), some (.int l1), none] [] (hp K x) (PI K Q)
  refine r_aload_n (pc := 0) dX8_granted_0 rfl ?_
  refine r_iload_n (pc := 1) dX8_granted_1 rfl ?_
  obtain ⟨i_1, K0⟩ := K0
  refine s_VI (pc := 2) mX8_isAsk (ci := 8) (a := b0) (As := [.int l1]) dX8_granted_2 lk_X8_281 in_X8_isAsk mo_X8_isAsk ⟨by decide, rfl⟩ ⟨by decide, by decide⟩ (Nat.le_of_ble_eq_true rfl) k_b0 (sp_X8_isAsk k_b0 g_b0_1 k_b0_1 i_1 ?_)
  refine r_if_ne (pc := 5) (tgt := 11) dX8_granted_5 (by decide) (fun q => ?_) (fun q => ?_)
  · have q := b2i_nz q
    have K0 := K0.1 q
    refine r_aload_n (pc := 11) dX8_granted_11 rfl ?_
    refine r_iconst (pc := 12) (v := (-1)) dX8_granted_12 (by decide) ?_
    refine s_VI (pc := 13) mX8_playsAside (ci := 8) (a := b0) (As := [.int (-1)]) dX8_granted_13 lk_X8_354 in_X8_playsAside mo_X8_playsAside ⟨by decide, rfl⟩ ⟨by decide, by decide⟩ (Nat.le_of_ble_eq_true rfl) k_b0 (mSI_mono K0 (fun r_4 y_3 K0 => ?_))
    refine r_istore_n (pc := 16) dX8_granted_16 (by decide) ?_
    refine r_aload_n (pc := 17) (L := [some (.ref b0), some (.int l1), some (.int r_4)]) dX8_granted_17 rfl ?_
    obtain ⟨c_5, g_6, K0⟩ := K0
    refine s_getR (pc := 18) dX8_granted_18 fl_X8_33 rfl k_b0 g_6 ?_
    refine r_iload_n (pc := 21) dX8_granted_21 rfl ?_
    obtain ⟨n_8, e_7, K0⟩ := K0
    obtain ⟨i_9, K0⟩ := K0
    refine s_iald (pc := 22) dX8_granted_22 e_7 i_9 ?_
    exact s_iret rfl dX8_granted_23 K0
  · have q := (b2i_z _).mp q
    have K0 := K0.2 q
    refine r_bipush (pc := 8) (v := (-2)) dX8_granted_8 (by decide) ?_
    exact s_iret rfl dX8_granted_10 K0
theorem eq_first : Both mX7_first mX8_first [] := by
  intro x R
  obtain ⟨W, C, S, A, N, E, -, -⟩ := R.sea
  have hn := E.nums
  have hA : A ≤ 24 := hn.2.2.2.2.2.2.2.1
  have I118 : Isea 118 := Or.inr (Or.inr (Or.inl rfl))
  refine v_X7_first_0 k0 R.1.2.1 (ks0 E.1) R.1.c9 k117 ?_
  rw [hn.1]
  refine ⟨fun z => ?_, fun z => v_X8_first_0 km R.2.1.1 km1 ⟨v0 (k := 0) (by decide) rfl rfl, fun u => absurd (by rw [(Rel.t2 E).1] at u; exact u) z, fun _ => ⟨rfl, R⟩⟩⟩
  refine v_X2_firstOf_0 k117 R.1.pl.1 (ks0 I118) (sp_X4_copyFrom I118 R.1.2.2.2.2.2.2.2.2.2.2.2.2.2.2.2.2.2.2.1 E (by decide) (fun v fv Ev => ?_))
  refine sp_X2_countSlots (R.1.pl.keep fv.1) Ev.b (fun w hw lw => ?_)
  have fw : PCr x w := fv.pc.tr (hw.pc (by decide))
  have Ew : SEB w 118 (gi x 718) W C S A N := Ev.b.eqx hw (Or.inr (Or.inr (by decide)))
  refine v_X2_allAsks_0 k117 (R.1.pl.keep fw.1).1 (ks0 I118) ?_
  rw [Ew.nums.2.2.2.1]
  refine sp_X2_chosen (R.1.pl.keep fw.1) Ew lw (u := usd (fun _ => -1)) (fun a ha => by rw [tb_alls A (by omega) a (by omega), decide_eq_true ha, usd_f.mpr rfl]; rfl) ?_
  have Rw := R.keep fw.kp
  have e718 : gi w 718 = gi x 718 := funext (fun i => fw.2 718 i (by omega))
  refine v_X8_first_0 km Rw.2.1.1 km1 ⟨v0 (k := 0) (by decide) rfl rfl, fun _ => ?_, fun u => absurd (by rw [e718, (Rel.t2 E).1]; exact z) u⟩
  refine sp_X8_begins Rw.2.1 (fun u u1 u2 u3 u4 => ?_)
  have fu : PFr w u := ⟨u1, fun a j a1 a2 a3 a4 a5 => u2 a j a3 a4 a5⟩
  have e2 : gi u 718 = gi x 718 := (funext (fun i => u2 718 i (by decide) (by decide) (by omega))).trans e718
  have Fu : WFB (gi u 718) W C S A N := by rw [e2]; exact E.2.2.2.b
  have hu : ∀ a, a < 24 → gi u 722 a = (fun _ => (-1 : Int32)) a := fun a ha => (u4 a ha).1
  have Ru : Rel u := Rw.keep fu.kp
  refine sp_X8_chosen Ru.2.1 km1 Fu hu ?_
  rw [e2]
  unfold chC
  refine ⟨fun z2 => ⟨by rw [if_neg z2], Ru⟩, fun z2 => sp_X8_chosen Ru.2.1 km1 Fu hu ⟨?_, Ru⟩⟩
  rw [if_pos z2, if_neg (by decide), e2]
theorem eq_would : Both mX7_would mX8_would [] := by
  intro x R
  obtain ⟨W, C, S, A, N, E, -, -⟩ := R.sea
  have hn := E.nums
  refine v_X7_would_0 k0 R.1.2.1 (ks0 E.1) R.1.c9 k117 ?_
  rw [hn.1]
  refine ⟨fun z => pl_cls R E (PCr.rf x) (Or.inl ⟨rfl, rfl⟩) (fun y fy cy => ⟨(R.1.keep fy.1).c9, ?_⟩), fun z => v_X8_would_0 km R.2.1.1 km1 ⟨v0 (k := 0) (by decide) rfl rfl, fun _ => ⟨rfl, R⟩, fun u => absurd (by rw [(Rel.t2 E).1] at u; exact u) z⟩⟩
  rw [cy.2.2.1]
  have Ry := R.keep fy.kp
  refine v_X8_would_0 km Ry.2.1.1 km1 ⟨v0 (k := 0) (by decide) rfl rfl, fun u => absurd (by rw [fy.2 718 0 (by omega), (Rel.t2 E).1]; exact z) u, fun _ => ?_⟩
  exact pl_ref R E fy (PFr.rf y) (mix_pc fy) (Or.inl ⟨rfl, rfl⟩) (fun u fu u1 u2 u3 u4 => ⟨rfl, Ry.keep fu.kp⟩)
theorem eq_turn (a : Int32) : Both mX7_turn mX8_turn [.int a] := by
  intro x R
  obtain ⟨W, C, S, A, N, E, -, -⟩ := R.sea
  have hn := E.nums
  have hA : A ≤ 24 := hn.2.2.2.2.2.2.2.1
  have t3 := (Rel.t2 E).2.2.2.1
  refine v_X7_turn_0 k0 R.1.2.1 (ks0 E.1) R.1.c9 k117 ?_
  rw [hn.2.2.2.1]
  refine ⟨fun z => ?_, fun z => v_X8_turn_0 km R.2.1.1 km1 ⟨v0 (k := 3) (by decide) rfl rfl, fun u => absurd (by rw [t3, inN' (by omega)] at u; exact u) z, fun _ => ⟨rfl, R⟩⟩⟩
  obtain ⟨b, hb, rfl⟩ := inN (by omega) z
  refine pl_cls R E (PCr.rf x) (Or.inl ⟨rfl, rfl⟩) (fun y fy cy => ⟨(R.1.keep fy.1).c9, 173, (R.1.pl.keep fy.1).2.2.1, 24, k173, vp_in_nI (by omega) (by decide), ?_⟩)
  have Ry := R.keep fy.kp
  refine v_X8_turn_0 km Ry.2.1.1 km1 ⟨v0 (k := 3) (by decide) rfl rfl, fun _ => ?_, fun u => absurd (by rw [fy.2 718 3 (by omega), t3, inN' (by omega)]; exact ⟨nI_pos' (by omega), nI_lt hb (by omega)⟩) u⟩
  refine pl_ref R E fy (PFr.rf y) (mix_pc fy) (Or.inl ⟨rfl, rfl⟩) (fun u fu u1 u2 u3 u4 => ⟨722, (Ry.2.1.keep fu.1).2.2.2.2.2.1, 24, km722, vp_in_nI (by omega) (by decide), ?_, Ry.keep fu.kp⟩)
  rw [nI_clamp (by omega), u3 b (by omega)]
  exact (cy.end (pl_wf E (Or.inl ⟨rfl, rfl⟩)) hb).1
theorem eq_granted (a : Int32) : Both mX7_granted mX8_granted [.int a] := by
  intro x R
  obtain ⟨W, C, S, A, N, E, -, -⟩ := R.sea
  have hn := E.nums
  have hA : A ≤ 24 := hn.2.2.2.2.2.2.2.1
  have t3 := (Rel.t2 E).2.2.2.1
  refine v_X7_granted_0 k0 R.1.2.1 (ks0 E.1) R.1.c9 k117 ?_
  rw [hn.2.2.2.1]
  refine ⟨fun z => ?_, fun z => v_X8_granted_0 km R.2.1.1 km1 ⟨v0 (k := 3) (by decide) rfl rfl, fun u => absurd (by rw [t3, inN' (by omega)] at u; exact u) z, fun _ => ⟨rfl, R⟩⟩⟩
  obtain ⟨b, hb, rfl⟩ := inN (by omega) z
  refine pl_cls R E (PCr.rf x) (Or.inl ⟨rfl, rfl⟩) (fun y fy cy => ⟨(R.1.keep fy.1).c9, 174, (R.1.pl.keep fy.1).2.2.2, 24, k174, vp_in_nI (by omega) (by decide), ?_⟩)
  have Ry := R.keep fy.kp
  refine v_X8_granted_0 km Ry.2.1.1 km1 ⟨v0 (k := 3) (by decide) rfl rfl, fun _ => ?_, fun u => absurd (by rw [fy.2 718 3 (by omega), t3, inN' (by omega)]; exact ⟨nI_pos' (by omega), nI_lt hb (by omega)⟩) u⟩
  refine pl_ref R E fy (PFr.rf y) (mix_pc fy) (Or.inl ⟨rfl, rfl⟩) (fun u fu u1 u2 u3 u4 => ⟨723, (Ry.2.1.keep fu.1).2.2.2.2.2.2.1, 24, km723, vp_in_nI (by omega) (by decide), ?_, Ry.keep fu.kp⟩)
  rw [nI_clamp (by omega), u4 b (by omega)]
  exact (cy.end (pl_wf E (Or.inl ⟨rfl, rfl⟩)) hb).2
theorem eq_helps (a : Int32) : Both mX7_helps mX8_helps [.int a] := by
  intro x R
  obtain ⟨W, C, S, A, N, E, -, -⟩ := R.sea
  have hn := E.nums
  have t0 := (Rel.t2 E).1
  refine v_X7_helps_0 k0 R.1.2.1 (ks0 E.1) ?_
  rw [hn.1]
  refine ⟨fun z => v_X8_helps_0 km R.2.1.1 km1 ⟨v0 (k := 0) (by decide) rfl rfl, fun _ => ⟨rfl, R⟩, fun u => absurd (by rw [t0] at u; exact u) z⟩, fun z1 => ⟨fun z2 => ?_, fun z2 => v_X8_helps_0 km R.2.1.1 km1 ⟨v0 (k := 0) (by decide) rfl rfl, fun _ => ⟨rfl, R⟩, fun _ => ⟨fun u => absurd u z2, fun _ => ⟨rfl, R⟩⟩⟩⟩⟩
  let gn : Nat → Int32 := fun h => nI (accT (plS A N) A (pl0 (hlT (mixT x) h) S)).2.2.2.2
  let st : Nat → Int32 × Int32 → Int32 × Int32 := fun h t => if t.2 < gn h then (nI h, gn h) else t
  refine lp_acc st (fun h t => ∀ y, PCr x y → GI mX7_helps 26 [some (.ref 0), some (.int a), some (.int t.1), some (.int t.2), some (.int (nI h))] [] KW y _) 24 (0, -1) ?_ (fun h t hh n1 => ?_) x (PCr.rf x)
  · intro y fy
    have Ry := R.keep fy.kp
    have ref : ∀ v, v = (if a = 0 then (accT st 24 (0, -1)).1 else (accT st 24 (0, -1)).2) → mSI mX8_helps [.ref 717, .int a] KW y (fun r' z => v = r' ∧ Rel z) := by
      intro v hv
      refine v_X8_helps_0 km Ry.2.1.1 km1 ⟨v0 (k := 0) (by decide) rfl rfl, fun u => absurd (by rw [fy.2 718 0 (by omega), t0]; exact z1) u, fun _ => ⟨fun _ => ?_, fun u => absurd z2 u⟩⟩
      refine lp_acc st (fun h t => ∀ z, PFr y z → mixT z = mixT x → GI mX8_helps 27 [some (.ref 717), some (.int a), some (.int t.1), some (.int t.2), some (.int (nI h)), none] [] KW z _) 24 (0, -1) ?_ (fun h t hh n1 => ?_) y (PFr.rf y) (mix_pc fy)
      · intro z fz hz
        exact v_X8_helps_27 km ⟨fun _ => ⟨fun u => ⟨by rw [hv, if_neg u], Ry.keep fz.kp⟩, fun u => ⟨by rw [hv, if_pos u], Ry.keep fz.kp⟩⟩, fun u => absurd (Int32.le_refl _) u⟩
      · intro z fz hz
        refine v_X8_helps_27 km ⟨fun u => absurd u (nI_ge (b := 24) hh (by decide)), fun _ => ?_⟩
        rw [nI_1]
        refine pl_ref R E fy fz hz (T0 := hlT (mixT x) h) (Or.inr ⟨h, hh, rfl, rfl⟩) (fun u fu hu u1 u2 u3 => ⟨fun c => n1 (nI h, gn h) (if_pos c) u fu hu, fun c => n1 t (if_neg c) u fu hu⟩)
    exact v_X7_helps_26 k0 (R.1.keep fy.1).c9 (R.1.keep fy.1).2.1 k117 ⟨fun _ => ⟨fun u => ref _ (by rw [if_neg u]), fun u => ref _ (by rw [if_pos u])⟩, fun u => absurd (Int32.le_refl _) u⟩
  · intro y fy
    refine v_X7_helps_26 k0 (R.1.keep fy.1).c9 (R.1.keep fy.1).2.1 k117 ⟨fun u => absurd u (nI_ge (b := 24) hh (by decide)), fun _ => ?_⟩
    rw [nI_1]
    refine pl_cls R E fy (T0 := hlT (mixT x) h) (Or.inr ⟨h, hh, rfl, rfl⟩) (fun z fz cz => ⟨(R.1.keep fz.1).c9, ?_⟩)
    rw [cz.2.2.1]
    exact ⟨fun c => n1 t (if_neg (Int32.not_lt.mpr c)) z fz, fun c => n1 (nI h, gn h) (if_pos (Int32.not_le.mp c)) z fz⟩


/-- at each turn, and at the end, it is in order -/
theorem PIV.run {W C S A N : Nat} {T0 : TT} (F : WFB T0 W C S A N) : ∀ k, k ≤ A → PIV W C A N T0 k (accT (plS A N) k (pl0 T0 S)) := by
  intro k
  induction k with
  | zero => intro _; exact PIV.st F
  | succ k ih =>
    intro hk
    have iv := ih (by omega)
    simp only [accT]
    generalize accT (plS A N) k (pl0 T0 S) = p at iv ⊢
    obtain ⟨a, ha, e1, e2, e3⟩ := iv.a (by omega)
    obtain ⟨-, -, ⟨h0, hh0, eh0⟩, -⟩ := iv.1.2.2.2.2.2.2.2.2.2.2.2.2.2 a ha
    rcases hrF_in (S := p.2.1) (N := N) hh0 eh0 with g0 | ⟨h, h1, h2, h3, h4⟩
    · rw [plS_f e1 g0]; exact iv.f ha (by omega) e3
    · rw [plS_t e1 h2 (nI_ne1 (by omega))]
      exact iv.t ha (by omega) e3 h1 (by have := iv.1.2.2.2.2.2.2.1; omega) h4
def CPR (y : Cn) (p : PS) (W C A N : Nat) : Prop := SEB y 118 p.1 W C p.2.1 A N ∧ HLD y p.1 p.2.1 ∧ gi y 117 4 = nI p.2.2.2.2 ∧ ∀ a, ¬ p.2.2.1 a = -1 → gi y 173 a = p.2.2.1 a ∧ gi y 174 a = p.2.2.2.1 a
def hlT (T : TT) (h : Nat) : TT := uT (uT T (6 + 2 * h) (T (6 + 2 * h) + 1)) (7 + 2 * h) (T (7 + 2 * h) + 1)
theorem hlT_off {T : TT} {h i : Nat} (hh : h < 24) (c : i < 6 ∨ 54 ≤ i) : hlT T h i = T i := by
  unfold hlT
  rw [uT_ne _ _ (by omega), uT_ne _ _ (by omega)]
theorem WFB.hl {T : TT} {W C S A N h : Nat} (F : WFB T W C S A N) (hh : h < 24) : WFB (hlT T h) W C S A N := by
  obtain ⟨w1, w2, w3, w4, w5, w6, w7, w8, w9, w10, w11, w12, w13, w14⟩ := F
  have hT : ∀ i, i < 6 ∨ 54 ≤ i → hlT T h i = T i := fun i hi => hlT_off hh hi
  exact ⟨by rw [hT 0 (by omega)]; exact w1, w2, w3, by rw [hT 1 (by omega)]; exact w4, w5, by rw [hT 2 (by omega)]; exact w6, w7, by rw [hT 3 (by omega)]; exact w8, w9, by rw [hT 4 (by omega)]; exact w10, w11, w12, fun s hs => (w13 s hs).cg (fun k hk => hT _ (by omega)), fun a ha => (w14 a ha).cg (fun k hk => hT _ (by omega))⟩
theorem SEB.hl {x : Cn} {q : Nat} {T : TT} {W C S A N h : Nat} (E : SEB x q T W C S A N) (hh : h < 24) : SEB (ui (ui x (q + 1) h (T (6 + 2 * h) + 1)) (q + 2) h (T (7 + 2 * h) + 1)) q (hlT T h) W C S A N := by
  have F := E.2.2.2.hl hh
  obtain ⟨e1, e2, ⟨v0, v1, v2, v3, v4, v5, v6, v7⟩, w1, w2, w3, w4, w5, w6, w7, w8, w9, w10, w11, w12, w13, w14⟩ := E
  obtain ⟨r1, r2, r3, r4, r5, r6, r7, r8, r9⟩ := id e2
  have hT : ∀ i, i < 6 ∨ 54 ≤ i → hlT T h i = T i := fun i hi => hlT_off hh hi
  have eo : ∀ b k, b ≠ q + 1 → b ≠ q + 2 → gi (ui (ui x (q + 1) h (T (6 + 2 * h) + 1)) (q + 2) h (T (7 + 2 * h) + 1)) b k = gi x b k := fun b k b1 b2 => by rw [gi_ui, if_neg (fun u => b2 u.1), gi_ui, if_neg (fun u => b1 u.1)]
  refine ⟨e1, e2.keep rfl, ⟨?_, ?_, ?_, ?_, ?_, ?_, ?_, ?_⟩, F⟩
  · rw [eo q 0 (by omega) (by omega), hT 0 (by omega)]; exact v0
  · rw [eo q 1 (by omega) (by omega), hT 4 (by omega)]; exact v1
  · rw [eo q 2 (by omega) (by omega), hT 5 (by omega)]; exact v2
  · rw [eo q 3 (by omega) (by omega), hT 2 (by omega)]; exact v3
  · rw [eo q 4 (by omega) (by omega), hT 3 (by omega)]; exact v4
  · intro i hi
    by_cases c : i = h
    · subst c
      refine ⟨?_, ?_⟩
      · rw [gi_ui, if_neg (by omega), gi_ui, if_pos ⟨rfl, rfl⟩]
        unfold hlT
        rw [uT_ne _ _ (by omega), uT_at]
      · rw [gi_ui, if_pos ⟨rfl, rfl⟩]
        unfold hlT
        rw [uT_at]
    · refine ⟨?_, ?_⟩
      · rw [gi_ui, if_neg (by omega), gi_ui, if_neg (fun u => c u.2)]
        unfold hlT
        rw [uT_ne _ _ (by omega), uT_ne _ _ (by omega)]
        exact (v5 i hi).1
      · rw [gi_ui, if_neg (fun u => c u.2), gi_ui, if_neg (by omega)]
        unfold hlT
        rw [uT_ne _ _ (by omega), uT_ne _ _ (by omega)]
        exact (v5 i hi).2
  · intro s p hs hp
    obtain ⟨j, hj, ej⟩ := r6 s (by omega)
    have ep : p = q + 6 + j := Option.some.inj ((show gr x (q + 3) s = some p from hp).symm.trans ej)
    exact (v6 s p hs hp).cg (fun k _ => eo p k (by omega) (by omega)) (fun k hk => hT _ (by omega))
  · intro s p hs hp
    obtain ⟨j, hj, ej⟩ := r8 s (by omega)
    have ep : p = q + 30 + j := Option.some.inj ((show gr x (q + 4) s = some p from hp).symm.trans ej)
    exact (v7 s p hs hp).cg (fun k _ => eo p k (by omega) (by omega)) (fun k hk => hT _ (by omega))
set_option maxHeartbeats 2000000 in
theorem v_X2_serve_0 {K : Sh} {x : Cn} {Q : Cn → Prop} {b0 : Nat} {b1 : Nat} {l2 : Int32} {b0_0 : Nat} (k_b0 : kk K b0 = some (2, 0)) (g_b0_0 : gr x b0 0 = some b0_0) (k_b0_0 : kk K b0_0 = some (4, 0)) (K0 : mSV mX4_copyFrom [.ref b0_0, .ref b1] K x (fun y_1 => (l2 < 0 → (mSV mX2_countSlots [.ref b0] K y_1 (fun y_3 => mSI mX2_allAsks [.ref b0] K (ui y_3 b0 4 0) (fun r_5 y_4 => GV mX2_serve 61 [some (.ref b0), some (.ref b1), some (.int l2), some (.int r_5), some (.int 0), none] [] K y_4 Q)))) ∧ (¬ l2 < 0 → ((24 ≤ l2 → (mSV mX2_countSlots [.ref b0] K y_1 (fun y_7 => mSI mX2_allAsks [.ref b0] K (ui y_7 b0 4 0) (fun r_9 y_8 => GV mX2_serve 61 [some (.ref b0), some (.ref b1), some (.int l2), some (.int r_9), some (.int 0), none] [] K y_8 Q)))) ∧ (¬ 24 ≤ l2 → (gr y_1 b0 0 = some b0_0 ∧ (∃ c_11 : Nat, gr y_1 b0_0 5 = some c_11 ∧ (∃ n_14 : Nat, kk K c_11 = some (20, n_14) ∧ (vp_in l2 n_14 ∧ (∃ c_16 : Nat, gr y_1 b0_0 6 = some c_16 ∧ (∃ n_19 : Nat, kk K c_16 = some (20, n_19) ∧ (vp_in l2 n_19 ∧ (mSV mX2_countSlots [.ref b0] K (ui (ui y_1 c_11 (l2 : Int32).toNatClampNeg ((gi y_1 c_11 (l2 : Int32).toNatClampNeg) + 1)) c_16 (l2 : Int32).toNatClampNeg ((gi (ui y_1 c_11 (l2 : Int32).toNatClampNeg ((gi y_1 c_11 (l2 : Int32).toNatClampNeg) + 1)) c_16 (l2 : Int32).toNatClampNeg) + 1)) (fun y_21 => mSI mX2_allAsks [.ref b0] K (ui y_21 b0 4 0) (fun r_23 y_22 => GV mX2_serve 61 [some (.ref b0), some (.ref b1), some (.int l2), some (.int r_23), some (.int 0), none] [] K y_22 Q))))))))))))))) : mSV mX2_serve [.ref b0, .ref b1, .int l2] K x Q := by
  refine s_V (by decide) (by simp [Value.category]) (Nat.le_of_ble_eq_true rfl) ?_
  show mGM mX2_serve 0 [some (.ref b0), some (.ref b1), some (.int l2), none, none, none] [] (hp K x) (PV K Q)
  refine r_aload_n (pc := 0) dX2_serve_0 rfl ?_
  refine s_getR (pc := 1) dX2_serve_1 fl_X2_12 rfl k_b0 g_b0_0 ?_
  refine r_aload_n (pc := 4) dX2_serve_4 rfl ?_
  refine s_VV (pc := 5) mX4_copyFrom (ci := 4) (a := b0_0) (As := [.ref b1]) dX2_serve_5 lk_X2_32 in_X4_copyFrom mo_X4_copyFrom ⟨by decide, rfl⟩ ⟨by decide, by decide⟩ (Nat.le_of_ble_eq_true rfl) k_b0_0 (mSV_mono K0 (fun y_1 K0 => ?_))
  refine r_iload_n (pc := 8) dX2_serve_8 rfl ?_
  refine r_if_lt (pc := 9) (tgt := 44) dX2_serve_9 (by decide) (fun q => ?_) (fun q => ?_)
  · have K0 := K0.1 q
    refine r_aload_n (pc := 44) dX2_serve_44 rfl ?_
    refine s_VV (pc := 45) mX2_countSlots (ci := 2) (a := b0) (As := []) dX2_serve_45 lk_X2_36 in_X2_countSlots mo_X2_countSlots ⟨by decide, rfl⟩ ⟨by decide, by decide⟩ (Nat.le_of_ble_eq_true rfl) k_b0 (mSV_mono K0 (fun y_3 K0 => ?_))
    refine r_aload_n (pc := 48) dX2_serve_48 rfl ?_
    refine r_iconst (pc := 49) (v := 0) dX2_serve_49 (by decide) ?_
    refine s_putI (pc := 50) dX2_serve_50 fl_X2_28 rfl rfl k_b0 ?_
    refine r_aload_n (pc := 53) dX2_serve_53 rfl ?_
    refine s_VI (pc := 54) mX2_allAsks (ci := 2) (a := b0) (As := []) dX2_serve_54 lk_X2_39 in_X2_allAsks mo_X2_allAsks ⟨by decide, rfl⟩ ⟨by decide, by decide⟩ (Nat.le_of_ble_eq_true rfl) k_b0 (mSI_mono K0 (fun r_5 y_4 K0 => ?_))
    refine r_istore_n (pc := 57) dX2_serve_57 (by decide) ?_
    refine r_iconst (pc := 58) (L := [some (.ref b0), some (.ref b1), some (.int l2), some (.int r_5), none, none]) (v := 0) dX2_serve_58 (by decide) ?_
    refine r_istore (pc := 59) dX2_serve_59 (by decide) ?_
    exact r_le (L' := [some (.ref b0), some (.ref b1), some (.int l2), some (.int r_5), some (.int 0), none]) ⟨rfl, ⟨rfl, ⟨rfl, ⟨rfl, ⟨rfl, trivial⟩⟩⟩⟩⟩ K0
  · have K0 := K0.2 q
    refine r_iload_n (pc := 12) dX2_serve_12 rfl ?_
    refine r_bipush (pc := 13) (v := 24) dX2_serve_13 (by decide) ?_
    refine r_icmp_ge (pc := 15) (tgt := 44) dX2_serve_15 (by decide) (fun q => ?_) (fun q => ?_)
    · have K0 := K0.1 q
      refine r_aload_n (pc := 44) dX2_serve_44 rfl ?_
      refine s_VV (pc := 45) mX2_countSlots (ci := 2) (a := b0) (As := []) dX2_serve_45 lk_X2_36 in_X2_countSlots mo_X2_countSlots ⟨by decide, rfl⟩ ⟨by decide, by decide⟩ (Nat.le_of_ble_eq_true rfl) k_b0 (mSV_mono K0 (fun y_7 K0 => ?_))
      refine r_aload_n (pc := 48) dX2_serve_48 rfl ?_
      refine r_iconst (pc := 49) (v := 0) dX2_serve_49 (by decide) ?_
      refine s_putI (pc := 50) dX2_serve_50 fl_X2_28 rfl rfl k_b0 ?_
      refine r_aload_n (pc := 53) dX2_serve_53 rfl ?_
      refine s_VI (pc := 54) mX2_allAsks (ci := 2) (a := b0) (As := []) dX2_serve_54 lk_X2_39 in_X2_allAsks mo_X2_allAsks ⟨by decide, rfl⟩ ⟨by decide, by decide⟩ (Nat.le_of_ble_eq_true rfl) k_b0 (mSI_mono K0 (fun r_9 y_8 K0 => ?_))
      refine r_istore_n (pc := 57) dX2_serve_57 (by decide) ?_
      refine r_iconst (pc := 58) (L := [some (.ref b0), some (.ref b1), some (.int l2), some (.int r_9), none, none]) (v := 0) dX2_serve_58 (by decide) ?_
      refine r_istore (pc := 59) dX2_serve_59 (by decide) ?_
      exact r_le (L' := [some (.ref b0), some (.ref b1), some (.int l2), some (.int r_9), some (.int 0), none]) ⟨rfl, ⟨rfl, ⟨rfl, ⟨rfl, ⟨rfl, trivial⟩⟩⟩⟩⟩ K0
    · have K0 := K0.2 q
      refine r_aload_n (pc := 18) dX2_serve_18 rfl ?_
      obtain ⟨g_10, K0⟩ := K0
      refine s_getR (pc := 19) dX2_serve_19 fl_X2_12 rfl k_b0 g_10 ?_
      obtain ⟨c_11, g_12, K0⟩ := K0
      refine s_getR (pc := 22) dX2_serve_22 fl_X2_47 rfl k_b0_0 g_12 ?_
      refine r_iload_n (pc := 25) dX2_serve_25 rfl ?_
      refine r_dup2 (pc := 26) dX2_serve_26 rfl rfl ?_
      obtain ⟨n_14, e_13, K0⟩ := K0
      obtain ⟨i_15, K0⟩ := K0
      refine s_iald (pc := 27) dX2_serve_27 e_13 i_15 ?_
      refine r_iconst (pc := 28) (v := 1) dX2_serve_28 (by decide) ?_
      refine r_iadd (pc := 29) dX2_serve_29 ?_
      refine s_iast (pc := 30) dX2_serve_30 e_13 i_15 ?_
      refine r_aload_n (pc := 31) dX2_serve_31 rfl ?_
      refine s_getR (pc := 32) dX2_serve_32 fl_X2_12 rfl k_b0 g_10 ?_
      obtain ⟨c_16, g_17, K0⟩ := K0
      refine s_getR (pc := 35) dX2_serve_35 fl_X2_50 rfl k_b0_0 g_17 ?_
      refine r_iload_n (pc := 38) dX2_serve_38 rfl ?_
      refine r_dup2 (pc := 39) dX2_serve_39 rfl rfl ?_
      obtain ⟨n_19, e_18, K0⟩ := K0
      obtain ⟨i_20, K0⟩ := K0
      refine s_iald (pc := 40) dX2_serve_40 e_18 i_20 ?_
      refine r_iconst (pc := 41) (v := 1) dX2_serve_41 (by decide) ?_
      refine r_iadd (pc := 42) dX2_serve_42 ?_
      refine s_iast (pc := 43) dX2_serve_43 e_18 i_20 ?_
      refine r_aload_n (pc := 44) dX2_serve_44 rfl ?_
      refine s_VV (pc := 45) mX2_countSlots (ci := 2) (a := b0) (As := []) dX2_serve_45 lk_X2_36 in_X2_countSlots mo_X2_countSlots ⟨by decide, rfl⟩ ⟨by decide, by decide⟩ (Nat.le_of_ble_eq_true rfl) k_b0 (mSV_mono K0 (fun y_21 K0 => ?_))
      refine r_aload_n (pc := 48) dX2_serve_48 rfl ?_
      refine r_iconst (pc := 49) (v := 0) dX2_serve_49 (by decide) ?_
      refine s_putI (pc := 50) dX2_serve_50 fl_X2_28 rfl rfl k_b0 ?_
      refine r_aload_n (pc := 53) dX2_serve_53 rfl ?_
      refine s_VI (pc := 54) mX2_allAsks (ci := 2) (a := b0) (As := []) dX2_serve_54 lk_X2_39 in_X2_allAsks mo_X2_allAsks ⟨by decide, rfl⟩ ⟨by decide, by decide⟩ (Nat.le_of_ble_eq_true rfl) k_b0 (mSI_mono K0 (fun r_23 y_22 K0 => ?_))
      refine r_istore_n (pc := 57) dX2_serve_57 (by decide) ?_
      refine r_iconst (pc := 58) (L := [some (.ref b0), some (.ref b1), some (.int l2), some (.int r_23), none, none]) (v := 0) dX2_serve_58 (by decide) ?_
      refine r_istore (pc := 59) dX2_serve_59 (by decide) ?_
      exact r_le (L' := [some (.ref b0), some (.ref b1), some (.int l2), some (.int r_23), some (.int 0), none]) ⟨rfl, ⟨rfl, ⟨rfl, ⟨rfl, ⟨rfl, trivial⟩⟩⟩⟩⟩ K0

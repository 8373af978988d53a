theorem ldB_nW0 {T : TT} {w : Nat} {d h b wo : Int32} (hwo : ∀ s, s < 24 → (tb wo s = true ↔ nI s = b)) : ∀ S, S ≤ 24 → ldB T S w d h 0 b = nI (nW T S w d h 0 wo) := by
  intro S
  induction S with
  | zero => intro _; rfl
  | succ S ih =>
    intro hS
    have i1 := ih (by omega)
    have hw := hwo S (by omega)
    unfold nW at i1 ⊢
    simp only [cnt]
    by_cases z : cB T S w d h 0 b
    · rw [ldB_t z, i1, if_pos (by unfold cW; simp [z.2.1, z.2.2.1, z.2.2.2.2, show tb wo S = false from Bool.eq_false_iff.mpr (fun e => z.1 (hw.mp e))]), nI_1]
    · rw [ldB_f z, i1, if_neg, Nat.add_zero]
      intro g
      unfold cW at g
      simp only [Bool.and_eq_true, decide_eq_true_eq] at g
      exact z ⟨fun e => g.1.2.2.1 (hw.mpr e), g.1.1, g.1.2.1, Or.inl (by decide), g.2⟩
theorem ldB_nW1 {T : TT} {w : Nat} {d h b wo : Int32} (hwo : ∀ s, s < 24 → (tb wo s = true ↔ nI s = b)) : ∀ S, S ≤ 24 → ldB T S w d h 1 b = nI (nW T S w d h 1 wo) := by
  intro S
  induction S with
  | zero => intro _; rfl
  | succ S ih =>
    intro hS
    have i1 := ih (by omega)
    have hw := hwo S (by omega)
    unfold nW at i1 ⊢
    simp only [cnt]
    by_cases z : cB T S w d h 1 b
    · have z3 : so T S 3 = 0 := z.2.2.2.1.resolve_left (by decide)
      rw [ldB_t z, i1, if_pos (by unfold cW; simp [z.2.1, z.2.2.1, z.2.2.2.2, z3, show tb wo S = false from Bool.eq_false_iff.mpr (fun e => z.1 (hw.mp e))]), nI_1]
    · rw [ldB_f z, i1, if_neg, Nat.add_zero]
      intro g
      unfold cW at g
      simp only [Bool.and_eq_true, decide_eq_true_eq] at g
      exact z ⟨fun e => g.1.2.2.1 (hw.mpr e), g.1.1, g.1.2.1, Or.inr (g.1.2.2.2.resolve_right (by decide)), g.2⟩
theorem wo_0 : ∀ s, s < 24 → (tb 0 s = true ↔ nI s = -1) := fun s hs => by
  rw [tb_0]
  constructor
  · intro z; cases z
  · intro z
    have := nI_pos (n := s) (by omega)
    rw [z] at this
    exact absurd (by decide) this
theorem wo_1 {t : Nat} (ht : t < 24) : ∀ s, s < 24 → (tb ((1 : Int32) <<< (nI t &&& 31)) s = true ↔ nI s = nI t) := fun s hs => by
  rw [tb_one t (by omega) s (by omega), decide_eq_true_eq, nI_eq (by omega) (by omega)]
theorem fitC_bits {T : TT} {S N : Nat} {d : Int32} {h : Nat} {way b1 b2 wo : Int32} (g : ∀ i, i < 32 → N ≤ i → tb b1 i = tb b2 i) : fitC T S N d h way b1 wo ↔ fitC T S N d h way b2 wo :=
  ⟨fun f i hi h1 h2 => f i hi (by rw [g i hi h2]; exact h1) h2, fun f i hi h1 h2 => f i hi (by rw [← g i hi h2]; exact h1) h2⟩
theorem tb_fn {W N i : Nat} (hW : W ≤ 30) (hN : N ≤ W) (hi : i < 32) (h0 : 0 < W) : tb (f_span (nI N) (nI W - 1)) i = decide (N ≤ i ∧ i < W) := by
  obtain ⟨w, rfl⟩ : ∃ w, W = w + 1 := ⟨W - 1, by omega⟩
  rw [nI_pred, tb_span0 N (by omega) w (by omega) i hi]
  apply decide_eq_decide.mpr
  omega
set_option maxHeartbeats 2000000 in
theorem v_X8_canBe_0 {K : Sh} {x : Cn} {Q : Int32 → Cn → Prop} {b0 : Nat} {l1 : Int32} {l2 : Int32} {l3 : Int32} {l4 : Int32} {l5 : Int32}   (K0 : GI mX8_canBe 3 [some (.ref b0), some (.int l1), some (.int l2), some (.int l3), some (.int l4), some (.int l5), some (.int 0)] [] K x Q) : mSI mX8_canBe [.ref b0, .int l1, .int l2, .int l3, .int l4, .int l5] K x Q := by
  refine s_I (by decide) (by simp [Value.category]) (Nat.le_of_ble_eq_true rfl) ?_
  show mGM mX8_canBe 0 [some (.ref b0), some (.int l1), some (.int l2), some (.int l3), some (.int l4), some (.int l5), none] [] (hp K x) (PI K Q)
  refine r_iconst (pc := 0) (v := 0) dX8_canBe_0 (by decide) ?_
  refine r_istore (pc := 1) dX8_canBe_1 (by decide) ?_
  exact r_le (L' := [some (.ref b0), some (.int l1), some (.int l2), some (.int l3), some (.int l4), some (.int l5), some (.int 0)]) ⟨rfl, ⟨rfl, ⟨rfl, ⟨rfl, ⟨rfl, ⟨rfl, ⟨rfl, trivial⟩⟩⟩⟩⟩⟩⟩ K0
set_option maxHeartbeats 2000000 in
theorem v_X8_canBe_3 {K : Sh} {x : Cn} {Q : Int32 → Cn → Prop} {b0 : Nat} {l1 : Int32} {l2 : Int32} {l3 : Int32} {l4 : Int32} {l5 : Int32} {l6 : Int32} {b0_3 : Nat} {n_b0_3 : Nat} (k_b0 : kk K b0 = some (8, 0)) (g_b0_3 : gr x b0 3 = some b0_3) (k_b0_3 : kk K b0_3 = some (20, n_b0_3)) (K0 : vp_in 0 n_b0_3 ∧ (((gi x b0_3 0) ≤ l6 → (Q 1 x)) ∧ (¬ (gi x b0_3 0) ≤ l6 → (vp_in 4 n_b0_3 ∧ (((f_has (l1 &&& (f_span (gi x b0_3 4) (gi x b0_3 0 - 1))) l6) → (mSI mX8_loadBut [.ref b0, .int l6, .int l2, .int l3, .int 0, .int l5] K x (fun r_6 y_5 => gr y_5 b0 3 = some b0_3 ∧ (vp_in (6 + (2 * l3)) n_b0_3 ∧ ((r_6 < (gi y_5 b0_3 ((6 + (2 * l3)) : Int32).toNatClampNeg) → ((¬ l4 = 0 → (GI mX8_canBe 3 [some (.ref b0), some (.int l1), some (.int l2), some (.int l3), some (.int l4), some (.int l5), some (.int (l6 + 1))] [] K y_5 Q)) ∧ (l4 = 0 → (mSI mX8_loadBut [.ref b0, .int l6, .int l2, .int l3, .int 1, .int l5] K y_5 (fun r_12 y_11 => gr y_11 b0 3 = some b0_3 ∧ (vp_in ((6 + (2 * l3)) + 1) n_b0_3 ∧ ((r_12 < (gi y_11 b0_3 (((6 + (2 * l3)) + 1) : Int32).toNatClampNeg) → (GI mX8_canBe 3 [some (.ref b0), some (.int l1), some (.int l2), some (.int l3), some (.int l4), some (.int l5), some (.int (l6 + 1))] [] K y_11 Q)) ∧ (¬ r_12 < (gi y_11 b0_3 (((6 + (2 * l3)) + 1) : Int32).toNatClampNeg) → (Q 0 y_11))))))))) ∧ (¬ r_6 < (gi y_5 b0_3 ((6 + (2 * l3)) : Int32).toNatClampNeg) → (Q 0 y_5))))))) ∧ (¬ (f_has (l1 &&& (f_span (gi x b0_3 4) (gi x b0_3 0 - 1))) l6) → (GI mX8_canBe 3 [some (.ref b0), some (.int l1), some (.int l2), some (.int l3), some (.int l4), some (.int l5), some (.int (l6 + 1))] [] K x Q))))))) : GI mX8_canBe 3 [some (.ref b0), some (.int l1), some (.int l2), some (.int l3), some (.int l4), some (.int l5), some (.int l6)] [] K x Q := by
  show mGM mX8_canBe 3 [some (.ref b0), some (.int l1), some (.int l2), some (.int l3), some (.int l4), some (.int l5), some (.int l6)] [] (hp K x) (PI K Q)
  refine r_iload (pc := 3) dX8_canBe_3 rfl ?_
  refine r_aload_n (pc := 5) dX8_canBe_5 rfl ?_
  refine s_getR (pc := 6) dX8_canBe_6 fl_X8_16 rfl k_b0 g_b0_3 ?_
  refine r_iconst (pc := 9) (v := 0) dX8_canBe_9 (by decide) ?_
  obtain ⟨i_1, K0⟩ := K0
  refine s_iald (pc := 10) dX8_canBe_10 k_b0_3 i_1 ?_
  refine r_icmp_ge (pc := 11) (tgt := 98) dX8_canBe_11 (by decide) (fun q => ?_) (fun q => ?_)
  · have K0 := K0.1 q
    refine r_iconst (pc := 98) (v := 1) dX8_canBe_98 (by decide) ?_
    exact s_zret rfl (by decide) dX8_canBe_99 K0
  · have K0 := K0.2 q
    refine r_iload_n (pc := 14) dX8_canBe_14 rfl ?_
    refine r_aload_n (pc := 15) dX8_canBe_15 rfl ?_
    obtain ⟨i_3, K0⟩ := K0
    refine s_VI (pc := 16) mX8_fromNow (ci := 8) (a := b0) (As := []) dX8_canBe_16 lk_X8_82 in_X8_fromNow mo_X8_fromNow ⟨by decide, rfl⟩ ⟨by decide, by decide⟩ (Nat.le_of_ble_eq_true rfl) k_b0 (sp_X8_fromNow k_b0 g_b0_3 k_b0_3 i_3 i_1 ?_)
    refine r_iand (pc := 19) dX8_canBe_19 ?_
    refine r_iload (pc := 20) dX8_canBe_20 rfl ?_
    refine s_SI (pc := 22) mX8_has (As := [.int (l1 &&& (f_span (gi x b0_3 4) (gi x b0_3 0 - 1))), .int l6]) dX8_canBe_22 lk_X8_75 st_X8_has mo_X8_has ⟨by decide, by decide⟩ (Nat.le_of_ble_eq_true rfl) (sp_X8_has  ?_)
    refine r_if_ne (pc := 25) (tgt := 31) dX8_canBe_25 (by decide) (fun q => ?_) (fun q => ?_)
    · have q := b2i_nz q
      have K0 := K0.1 q
      refine r_aload_n (pc := 31) dX8_canBe_31 rfl ?_
      refine r_iload (pc := 32) dX8_canBe_32 rfl ?_
      refine r_iload_n (pc := 34) dX8_canBe_34 rfl ?_
      refine r_iload_n (pc := 35) dX8_canBe_35 rfl ?_
      refine r_iconst (pc := 36) (v := 0) dX8_canBe_36 (by decide) ?_
      refine r_iload (pc := 37) dX8_canBe_37 rfl ?_
      refine s_VI (pc := 39) mX8_loadBut (ci := 8) (a := b0) (As := [.int l6, .int l2, .int l3, .int 0, .int l5]) dX8_canBe_39 lk_X8_86 in_X8_loadBut mo_X8_loadBut ⟨by decide, rfl⟩ ⟨by decide, by decide⟩ (Nat.le_of_ble_eq_true rfl) k_b0 (mSI_mono K0 (fun r_6 y_5 K0 => ?_))
      refine r_aload_n (pc := 42) dX8_canBe_42 rfl ?_
      obtain ⟨g_7, K0⟩ := K0
      refine s_getR (pc := 43) dX8_canBe_43 fl_X8_16 rfl k_b0 g_7 ?_
      refine r_bipush (pc := 46) (v := 6) dX8_canBe_46 (by decide) ?_
      refine r_iconst (pc := 48) (v := 2) dX8_canBe_48 (by decide) ?_
      refine r_iload_n (pc := 49) dX8_canBe_49 rfl ?_
      refine r_imul (pc := 50) dX8_canBe_50 ?_
      refine r_iadd (pc := 51) dX8_canBe_51 ?_
      obtain ⟨i_8, K0⟩ := K0
      refine s_iald (pc := 52) dX8_canBe_52 k_b0_3 i_8 ?_
      refine r_icmp_lt (pc := 53) (tgt := 58) dX8_canBe_53 (by decide) (fun q => ?_) (fun q => ?_)
      · have K0 := K0.1 q
        refine r_iload (pc := 58) dX8_canBe_58 rfl ?_
        refine r_if_ne (pc := 60) (tgt := 92) dX8_canBe_60 (by decide) (fun q => ?_) (fun q => ?_)
        · have K0 := K0.1 q
          refine r_iinc (pc := 92) (v := l6 + 1) dX8_canBe_92 rfl rfl (by decide) ?_
          refine r_goto (pc := 95) (L := [some (.ref b0), some (.int l1), some (.int l2), some (.int l3), some (.int l4), some (.int l5), some (.int (l6 + 1))]) (tgt := 3) dX8_canBe_95 (by decide) ?_
          exact r_le (L' := [some (.ref b0), some (.int l1), some (.int l2), some (.int l3), some (.int l4), some (.int l5), some (.int (l6 + 1))]) ⟨rfl, ⟨rfl, ⟨rfl, ⟨rfl, ⟨rfl, ⟨rfl, ⟨rfl, trivial⟩⟩⟩⟩⟩⟩⟩ K0
        · have K0 := K0.2 q
          refine r_aload_n (pc := 63) dX8_canBe_63 rfl ?_
          refine r_iload (pc := 64) dX8_canBe_64 rfl ?_
          refine r_iload_n (pc := 66) dX8_canBe_66 rfl ?_
          refine r_iload_n (pc := 67) dX8_canBe_67 rfl ?_
          refine r_iconst (pc := 68) (v := 1) dX8_canBe_68 (by decide) ?_
          refine r_iload (pc := 69) dX8_canBe_69 rfl ?_
          refine s_VI (pc := 71) mX8_loadBut (ci := 8) (a := b0) (As := [.int l6, .int l2, .int l3, .int 1, .int l5]) dX8_canBe_71 lk_X8_86 in_X8_loadBut mo_X8_loadBut ⟨by decide, rfl⟩ ⟨by decide, by decide⟩ (Nat.le_of_ble_eq_true rfl) k_b0 (mSI_mono K0 (fun r_12 y_11 K0 => ?_))
          refine r_aload_n (pc := 74) dX8_canBe_74 rfl ?_
          obtain ⟨g_13, K0⟩ := K0
          refine s_getR (pc := 75) dX8_canBe_75 fl_X8_16 rfl k_b0 g_13 ?_
          refine r_bipush (pc := 78) (v := 6) dX8_canBe_78 (by decide) ?_
          refine r_iconst (pc := 80) (v := 2) dX8_canBe_80 (by decide) ?_
          refine r_iload_n (pc := 81) dX8_canBe_81 rfl ?_
          refine r_imul (pc := 82) dX8_canBe_82 ?_
          refine r_iadd (pc := 83) dX8_canBe_83 ?_
          refine r_iconst (pc := 84) (v := 1) dX8_canBe_84 (by decide) ?_
          refine r_iadd (pc := 85) dX8_canBe_85 ?_
          obtain ⟨i_14, K0⟩ := K0
          refine s_iald (pc := 86) dX8_canBe_86 k_b0_3 i_14 ?_
          refine r_icmp_lt (pc := 87) (tgt := 92) dX8_canBe_87 (by decide) (fun q => ?_) (fun q => ?_)
          · have K0 := K0.1 q
            refine r_iinc (pc := 92) (v := l6 + 1) dX8_canBe_92 rfl rfl (by decide) ?_
            refine r_goto (pc := 95) (L := [some (.ref b0), some (.int l1), some (.int l2), some (.int l3), some (.int l4), some (.int l5), some (.int (l6 + 1))]) (tgt := 3) dX8_canBe_95 (by decide) ?_
            exact r_le (L' := [some (.ref b0), some (.int l1), some (.int l2), some (.int l3), some (.int l4), some (.int l5), some (.int (l6 + 1))]) ⟨rfl, ⟨rfl, ⟨rfl, ⟨rfl, ⟨rfl, ⟨rfl, ⟨rfl, trivial⟩⟩⟩⟩⟩⟩⟩ K0
          · have K0 := K0.2 q
            refine r_iconst (pc := 90) (v := 0) dX8_canBe_90 (by decide) ?_
            exact s_zret rfl (by decide) dX8_canBe_91 K0
      · have K0 := K0.2 q
        refine r_iconst (pc := 56) (v := 0) dX8_canBe_56 (by decide) ?_
        exact s_zret rfl (by decide) dX8_canBe_57 K0
    · have q := (b2i_z _).mp q
      have K0 := K0.2 q
      refine r_goto (pc := 28) (tgt := 92) dX8_canBe_28 (by decide) ?_
      refine r_iinc (pc := 92) (v := l6 + 1) dX8_canBe_92 rfl rfl (by decide) ?_
      refine r_goto (pc := 95) (L := [some (.ref b0), some (.int l1), some (.int l2), some (.int l3), some (.int l4), some (.int l5), some (.int (l6 + 1))]) (tgt := 3) dX8_canBe_95 (by decide) ?_
      exact r_le (L' := [some (.ref b0), some (.int l1), some (.int l2), some (.int l3), some (.int l4), some (.int l5), some (.int (l6 + 1))]) ⟨rfl, ⟨rfl, ⟨rfl, ⟨rfl, ⟨rfl, ⟨rfl, ⟨rfl, trivial⟩⟩⟩⟩⟩⟩⟩ K0
section
variable {x : Cn} {Q : Int32 → Cn → Prop}
theorem sp_X8_canBe {t : Nat} (M : MRf x t) (ht : kk KW t = some (20, 518)) {W C S A N : Nat} (F : WF (gi x t) W C S A N) {d way bits b wo : Int32} {h : Nat} (hh : h < 24) (hw : way = 0 ∨ way = 1) (hb : ∀ i, i < 32 → tb bits i = true → N ≤ i → i < W) (hwo : ∀ s, s < 24 → (tb wo s = true ↔ nI s = b)) (k : Q (bP (fitC (gi x t) S N d h way bits wo)) x) : mSI mX8_canBe [.ref 717, .int bits, .int d, .int (nI h), .int way, .int b] KW x Q := by
  obtain ⟨t0, t1, hW, t2, t3, t4, hS, t6, t7, t8, hN, hl, -, -⟩ := F
  have key : ∀ n w, w + n = W → (∀ i, i < w → tb bits i = true → N ≤ i → ¬ gi x t (6 + 2 * h) ≤ nI (nW (gi x t) S i d (nI h) 0 wo) ∧ (¬ way = 1 → ¬ gi x t (7 + 2 * h) ≤ nI (nW (gi x t) S i d (nI h) 1 wo))) → GI mX8_canBe 3 [some (.ref 717), some (.int bits), some (.int d), some (.int (nI h)), some (.int way), some (.int b), some (.int (nI w))] [] KW x Q := by
    intro n
    induction n with
    | zero =>
      intro w hw2 g
      refine v_X8_canBe_3 km M.2.2.1 ht ⟨v0 (k := 0) (by decide) rfl rfl, fun _ => ?_, fun z => absurd (by rw [t0]; exact nI_le (by omega) (by omega)) z⟩
      exact (bP_k k).1 (fun i hi h1 h2 => g i (by have := hb i hi h1 h2; omega) h1 h2)
    | succ n ih =>
      intro w hw2 g
      have nx : (tb bits w = true → N ≤ w → ¬ gi x t (6 + 2 * h) ≤ nI (nW (gi x t) S w d (nI h) 0 wo) ∧ (¬ way = 1 → ¬ gi x t (7 + 2 * h) ≤ nI (nW (gi x t) S w d (nI h) 1 wo))) → GI mX8_canBe 3 [some (.ref 717), some (.int bits), some (.int d), some (.int (nI h)), some (.int way), some (.int b), some (.int (nI w + 1))] [] KW x Q := by
        intro gg
        rw [nI_1]
        refine ih (w + 1) (by omega) (fun i hi => ?_)
        by_cases c : i = w
        · rw [c]; exact gg
        · exact g i (by omega)
      refine v_X8_canBe_3 km M.2.2.1 ht ⟨v0 (k := 0) (by decide) rfl rfl, fun z => absurd (by rw [t0] at z; exact z) (nI_ge (by omega) (by omega)), fun _ => ⟨v0 (k := 4) (by decide) rfl rfl, ?_⟩⟩
      rw [f_has_tb _ (by omega), tb_and, t8, t0, tb_fn hW hN (by omega) (by omega)]
      refine ⟨fun z => ?_, fun z => nx (fun z1 z2 => absurd (by rw [z1, decide_eq_true (by omega)]; rfl) z)⟩
      simp only [Bool.and_eq_true, decide_eq_true_eq] at z
      refine sp_X8_loadBut M ht t4 hS (by omega) ⟨M.2.2.1, ?_⟩
      rw [ixh1, ixh, nI_clamp (show 6 + 2 * h < 2 ^ 31 by omega), nI_clamp (show 7 + 2 * h < 2 ^ 31 by omega), ldB_nW0 hwo S hS]
      refine ⟨vp_in_nI (by omega) (by decide), fun z2 => ⟨fun z3 => nx (fun _ _ => ⟨Int32.not_le.mpr z2, fun u => absurd (hw.resolve_left z3) u⟩), fun z3 => ?_⟩, fun z2 => ?_⟩
      · refine sp_X8_loadBut M ht t4 hS (by omega) ⟨M.2.2.1, vp_in_nI (by omega) (by decide), ?_⟩
        rw [ldB_nW1 hwo S hS]
        refine ⟨fun z4 => nx (fun _ _ => ⟨Int32.not_le.mpr z2, fun _ => Int32.not_le.mpr z4⟩), fun z4 => ?_⟩
        exact (bP_k k).2 (fun f => (f w (by omega) z.1 z.2.1).2 (by rw [z3]; decide) (Int32.not_lt.mp z4))
      · exact (bP_k k).2 (fun f => (f w (by omega) z.1 z.2.1).1 (Int32.not_lt.mp z2))
  exact v_X8_canBe_0 (key W 0 (by omega) (fun i hi => absurd hi (by omega)))
end

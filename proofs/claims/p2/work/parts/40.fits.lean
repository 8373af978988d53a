theorem ldB_nW0 {T : TT} {w : Nat} {d h b wo : Int32} (hwo : ∀ s, s < 24 → (tb wo s = true ↔ nI s = b)) : ∀ S, S ≤ 24 → ldB T S w d h 0 b = nI (nW T S w d h 0 wo) := by
  intro S
  induction S with
  | zero => intro _; rfl
  | succ S ih =>
    intro hS
    have i1 := ih (by omega)
    have hw := hwo S (by omega)
    unfold nW at i1 ⊢
    simp only [cnt]
    by_cases z : cB T S w d h 0 b
    · rw [ldB_t z, i1, if_pos (by unfold cW; simp [z.2.1, z.2.2.1, z.2.2.2.2, show tb wo S = false from Bool.eq_false_iff.mpr (fun e => z.1 (hw.mp e))]), nI_1]
    · rw [ldB_f z, i1, if_neg, Nat.add_zero]
      intro g
      unfold cW at g
      simp only [Bool.and_eq_true, decide_eq_true_eq] at g
      exact z ⟨fun e => g.1.2.2.1 (hw.mpr e), g.1.1, g.1.2.1, Or.inl (by decide), g.2⟩
theorem ldB_nW1 {T : TT} {w : Nat} {d h b wo : Int32} (hwo : ∀ s, s < 24 → (tb wo s = true ↔ nI s = b)) : ∀ S, S ≤ 24 → ldB T S w d h 1 b = nI (nW T S w d h 1 wo) := by
  intro S
  induction S with
  | zero => intro _; rfl
  | succ S ih =>
    intro hS
    have i1 := ih (by omega)
    have hw := hwo S (by omega)
    unfold nW at i1 ⊢
    simp only [cnt]
    by_cases z : cB T S w d h 1 b
    · have z3 : so T S 3 = 0 := z.2.2.2.1.resolve_left (by decide)
      rw [ldB_t z, i1, if_pos (by unfold cW; simp [z.2.1, z.2.2.1, z.2.2.2.2, z3, show tb wo S = false from Bool.eq_false_iff.mpr (fun e => z.1 (hw.mp e))]), nI_1]
    · rw [ldB_f z, i1, if_neg, Nat.add_zero]
      intro g
      unfold cW at g
      simp only [Bool.and_eq_true, decide_eq_true_eq] at g
      exact z ⟨fun e => g.1.2.2.1 (hw.mpr e), g.1.1, g.1.2.1, Or.inr (g.1.2.2.2.resolve_right (by decide)), g.2⟩
theorem wo_0 : ∀ s, s < 24 → (tb 0 s = true ↔ nI s = -1) := fun s hs => by
  rw [tb_0]
  constructor
  · intro z; cases z
  · intro z
    have := nI_pos (n := s) (by omega)
    rw [z] at this
    exact absurd (by decide) this
theorem wo_1 {t : Nat} (ht : t < 24) : ∀ s, s < 24 → (tb ((1 : Int32) <<< (nI t &&& 31)) s = true ↔ nI s = nI t) := fun s hs => by
  rw [tb_one t (by omega) s (by omega), decide_eq_true_eq, nI_eq (by omega) (by omega)]
theorem fitC_bits {T : TT} {S N : Nat} {d : Int32} {h : Nat} {way b1 b2 wo : Int32} (g : ∀ i, i < 32 → N ≤ i → tb b1 i = tb b2 i) : fitC T S N d h way b1 wo ↔ fitC T S N d h way b2 wo :=
  ⟨fun f i hi h1 h2 => f i hi (by rw [g i hi h2]; exact h1) h2, fun f i hi h1 h2 => f i hi (by rw [← g i hi h2]; exact h1) h2⟩
theorem tb_fn {W N i : Nat} (hW : W ≤ 30) (hN : N ≤ W) (hi : i < 32) (h0 : 0 < W) : tb (f_span (nI N) (nI W - 1)) i = decide (N ≤ i ∧ i < W) := by
  obtain ⟨w, rfl⟩ : ∃ w, W = w + 1 := ⟨W - 1, by omega⟩
  rw [nI_pred, tb_span0 N (by omega) w (by omega) i hi]
  apply decide_eq_decide.mpr
  omega
set_option maxHeartbeats 2000000 in
theorem v_X8_canBe_0 {K : Sh} {x : Cn} {Q : Int32 → Cn → Prop} {b0 : Nat} {l1 : Int32} {l2 : Int32} {l3 : Int32} {l4 : Int32} {l5 : Int32}   (K0 : GI mX8_canBe 3 [some (.ref b0), some (.int l1), some (.int l2), some (.int l3), some (.int l4), some (.int l5), some (.int 0)] [] K x Q) : mSI mX8_canBe [.ref b0, .int l1, .int l2, .int l3, .int l4, .int l5] K x Q := by
  refine s_I (by decide) (by simp [Value.category]) (Nat.le_of_ble_eq_true rfl) ?_
  show mGM mX8_canBe 0 [some (.ref b0), some (.int l1), some (.int l2), some (.int l3), some (.int l4), some (.int l5), none] [] (hp K x) (PI K Q)
  refine r_iconst (pc := 0) (v := 0) dX8_canBe_0 (by decide) ?_
  refine r_istore (pc := 1) dX8_canBe_1 (by decide) ?_
  exact r_le (L' := [some (.ref b0), some (.int l1), some (.int l2), some (.int l3), some (.int l4), some (.int l5), some (.int 0)]) ⟨rfl, ⟨rfl, ⟨rfl, ⟨rfl, ⟨rfl, ⟨rfl, ⟨rfl, trivial⟩⟩⟩⟩⟩⟩⟩ K0
set_option maxHeartbeats 2000000 in
theorem v_X8_canBe_3 {K : Sh} {x : Cn} {Q : Int32 → Cn → Prop} {b0 : Nat} {l1 : Int32} {l2 : Int32} {l3 : Int32} {l4 : Int32} {l5 : Int32} {l6 : Int32} {b0_3 : Nat} {n_b0_3 : Nat} (k_b0 : kk K b0 = some (8, 0)) (g_b0_3 : gr x b0 3 = some b0_3) (k_b0_3 : kk K b0_3 = some (20, n_b0_3)) (K0 : vp_in 0 n_b0_3 ∧ (((gi x b0_3 0) ≤ l6 → (Q 1 x)) ∧ (¬ (gi x b0_3 0) ≤ l6 → (vp_in 4 n_b0_3 ∧ (((f_has (l1 &&& (f_span (gi x b0_3 4) (gi x b0_3 0 - 1))) l6) → (mSI mX8_loadBut [.ref b0, .int l6, .int l2, .int l3, .int 0, .int l5] K x (fun r_6 y_5 => gr y_5 b0 3 = some b0_3 ∧ (vp_in (6 + (2 * l3)) n_b0_3 ∧ ((r_6 < (gi y_5 b0_3 ((6 + (2 * l3)) : Int32).toNatClampNeg) → ((¬ l4 = 0 → (GI mX8_canBe 3 [some (.ref b0), some (.int l1), some (.int l2), some (.int l3), some (.int l4), some (.int l5), some (.int (l6 + 1))] [] K y_5 Q)) ∧ (l4 = 0 → (mSI mX8_loadBut [.ref b0, .int l6, .int l2, .int l3, .int 1, .int l5] K y_5 (fun r_12 y_11 => gr y_11 b0 3 = some b0_3 ∧ (vp_in ((6 + (2 * l3)) + 1) n_b0_3 ∧ ((r_12 < (gi y_11 b0_3 (((6 + (2 * l3)) + 1) : Int32).toNatClampNeg) → (GI mX8_canBe 3 [some (.ref b0), some (.int l1), some (.int l2), some (.int l3), some (.int l4), some (.int l5), some (.int (l6 + 1))] [] K y_11 Q)) ∧ (¬ r_12 < (gi y_11 b0_3 (((6 + (2 * l3)) + 1) : Int32).toNatClampNeg) → (Q 0 y_11))))))))) ∧ (¬ r_6 < (gi y_5 b0_3 ((6 + (2 * l3)) : Int32).toNatClampNeg) → (Q 0 y_5))))))) ∧ (¬ (f_has (l1 &&& (f_span (gi x b0_3 4) (gi x b0_3 0 - 1))) l6) → (GI mX8_canBe 3 [some (.ref b0), some (.int l1), some (.int l2), some (.int l3), some (.int l4), some (.int l5), some (.int (l6 + 1))] [] K x Q))))))) : GI mX8_canBe 3 [some (.ref b0), some (.int l1), some (.int l2), some (.int l3), some (.int l4), some (.int l5), some (.int l6)] [] K x Q := by
  show mGM mX8_canBe 3 [some (.ref b0), some (.int l1), some (.int l2), some (.int l3), some (.int l4), some (.int l5), some (.int l6)] [] (hp K x) (PI K Q)
  refine r_iload (pc := 3) dX8_canBe_3 rfl ?_
  refine r_aload_n (pc := 5) dX8_canBe_5 rfl ?_
  refine s_getR (pc := 6) dX8_canBe_6 fl_X8_16 rfl k_b0 g_b0_3 ?_
  refine r_iconst (pc := 9) (v := 0) dX8_canBe_9 (by decide) ?_
  obtain ⟨i_1, K0⟩ := K0
  refine s_iald (pc := 10) dX8_canBe_10 k_b0_3 i_1 ?_
  refine r_icmp_ge (pc := 11) (tgt := 98) dX8_canBe_11 (by decide) (fun q => ?_) (fun q => ?_)
  · have K0 := K0.1 q
    refine r_iconst (pc := 98) (v := 1) dX8_canBe_98 (by decide) ?_
    exact s_zret rfl (by decide) dX8_canBe_99 K0
  · have K0 := K0.2 q
    refine r_iload_n (pc := 14) dX8_canBe_14 rfl ?_
    refine r_aload_n (pc := 15) dX8_canBe_15 rfl ?_
    obtain ⟨i_3, K0⟩ := K0
    refine s_VI (pc := 16) mX8_fromNow (ci := 8) (a := b0) (As := []) dX8_canBe_16 lk_X8_82 in_X8_fromNow mo_X8_fromNow ⟨by decide, rfl⟩ ⟨by decide, by decide⟩ (Nat.le_of_ble_eq_true rfl) k_b0 (sp_X8_fromNow k_b0 g_b0_3 k_b0_3 i_3 i_1 ?_)
    refine r_iand (pc := 19) dX8_canBe_19 ?_
    refine r_iload (pc := 20) dX8_canBe_20 rfl ?_
    refine s_SI (pc := 22) mX8_has (As := [.int (l1 &&& (f_span (gi x b0_3 4) (gi x b0_3 0 - 1))), .int l6]) dX8_canBe_22 lk_X8_75 st_X8_has mo_X8_has ⟨by decide, by decide⟩ (Nat.le_of_ble_eq_true rfl) (sp_X8_has  ?_)
    refine r_if_ne (pc := 25) (tgt := 31) dX8_canBe_25 (by decide) (fun q => ?_) (fun q => ?_)
    · have q := b2i_nz q
      have K0 := K0.1 q
      refine r_aload_n (pc := 31) dX8_canBe_31 rfl ?_
      refine r_iload (pc := 32) dX8_canBe_32 rfl ?_
      refine r_iload_n (pc := 34) dX8_canBe_34 rfl ?_
      refine r_iload_n (pc := 35) dX8_canBe_35 rfl ?_
      refine r_iconst (pc := 36) (v := 0) dX8_canBe_36 (by decide) ?_
      refine r_iload (pc := 37) dX8_canBe_37 rfl ?_
      refine s_VI (pc := 39) mX8_loadBut (ci := 8) (a := b0) (As := [.int l6, .int l2, .int l3, .int 0, .int l5]) dX8_canBe_39 lk_X8_86 in_X8_loadBut mo_X8_loadBut ⟨by decide, rfl⟩ ⟨by decide, by decide⟩ (Nat.le_of_ble_eq_true rfl) k_b0 (mSI_mono K0 (fun r_6 y_5 K0 => ?_))
      refine r_aload_n (pc := 42) dX8_canBe_42 rfl ?_
      obtain ⟨g_7, K0⟩ := K0
      refine s_getR (pc := 43) dX8_canBe_43 fl_X8_16 rfl k_b0 g_7 ?_
      refine r_bipush (pc := 46) (v := 6) dX8_canBe_46 (by decide) ?_
      refine r_iconst (pc := 48) (v := 2) dX8_canBe_48 (by decide) ?_
      refine r_iload_n (pc := 49) dX8_canBe_49 rfl ?_
      refine r_imul (pc := 50) dX8_canBe_50 ?_
      refine r_iadd (pc := 51) dX8_canBe_51 ?_
      obtain ⟨i_8, K0⟩ := K0
      refine s_iald (pc := 52) dX8_canBe_52 k_b0_3 i_8 ?_
      refine r_icmp_lt (pc := 53) (tgt := 58) dX8_canBe_53 (by decide) (fun q => ?_) (fun q => ?_)
      · have K0 := K0.1 q
        refine r_iload (pc := 58) dX8_canBe_58 rfl ?_
        refine r_if_ne (pc := 60) (tgt := 92) dX8_canBe_60 (by decide) (fun q => ?_) (fun q => ?_)
        · have K0 := K0.1 q
          refine r_iinc (pc := 92) (v := l6 + 1) dX8_canBe_92 rfl rfl (by decide) ?_
          refine r_goto (pc := 95) (L := [some (.ref b0), some (.int l1), some (.int l2), some (.int l3), some (.int l4), some (.int l5), some (.int (l6 + 1))]) (tgt := 3) dX8_canBe_95 (by decide) ?_
          exact r_le (L' := [some (.ref b0), some (.int l1), some (.int l2), some (.int l3), some (.int l4), some (.int l5), some (.int (l6 + 1))]) ⟨rfl, ⟨rfl, ⟨rfl, ⟨rfl, ⟨rfl, ⟨rfl, ⟨rfl, trivial⟩⟩⟩⟩⟩⟩⟩ K0
        · have K0 := K0.2 q
          refine r_aload_n (pc := 63) dX8_canBe_63 rfl ?_
          refine r_iload (pc := 64) dX8_canBe_64 rfl ?_
          refine r_iload_n (pc := 66) dX8_canBe_66 rfl ?_
          refine r_iload_n (pc := 67) dX8_canBe_67 rfl ?_
          refine r_iconst (pc := 68) (v := 1) dX8_canBe_68 (by decide) ?_
          refine r_iload (pc := 69) dX8_canBe_69 rfl ?_
          refine s_VI (pc := 71) mX8_loadBut (ci := 8) (a := b0) (As := [.int l6, .int l2, .int l3, .int 1, .int l5]) dX8_canBe_71 lk_X8_86 in_X8_loadBut mo_X8_loadBut ⟨by decide, rfl⟩ ⟨by decide, by decide⟩ (Nat.le_of_ble_eq_true rfl) k_b0 (mSI_mono K0 (fun r_12 y_11 K0 => ?_))
          refine r_aload_n (pc := 74) dX8_canBe_74 rfl ?_
          obtain ⟨g_13, K0⟩ := K0
          refine s_getR (pc := 75) dX8_canBe_75 fl_X8_16 rfl k_b0 g_13 ?_
          refine r_bipush (pc := 78) (v := 6) dX8_canBe_78 (by decide) ?_
          refine r_iconst (pc := 80) (v := 2) dX8_canBe_80 (by decide) ?_
          refine r_iload_n (pc := 81) dX8_canBe_81 rfl ?_
          refine r_imul (pc := 82) dX8_canBe_82 ?_
          refine r_iadd (pc := 83) dX8_canBe_83 ?_
          refine r_iconst (pc := 84) (v := 1) dX8_canBe_84 (by decide) ?_
          refine r_iadd (pc := 85) dX8_canBe_85 ?_
          obtain ⟨i_14, K0⟩ := K0
          refine s_iald (pc := 86) dX8_canBe_86 k_b0_3 i_14 ?_
          refine r_icmp_lt (pc := 87) (tgt := 92) dX8_canBe_87 (by decide) (fun q => ?_) (fun q => ?_)
          · have K0 := K0.1 q
            refine r_iinc (pc := 92) (v := l6 + 1) dX8_canBe_92 rfl rfl (by decide) ?_
            refine r_goto (pc := 95) (L := [some (.ref b0), some (.int l1), some (.int l2), some (.int l3), some (.int l4), some (.int l5), some (.int (l6 + 1))]) (tgt := 3) dX8_canBe_95 (by decide) ?_
            exact r_le (L' := [some (.ref b0), some (.int l1), some (.int l2), some (.int l3), some (.int l4), some (.int l5), some (.int (l6 + 1))]) ⟨rfl, ⟨rfl, ⟨rfl, ⟨rfl, ⟨rfl, ⟨rfl, ⟨rfl, trivial⟩⟩⟩⟩⟩⟩⟩ K0
          · have K0 := K0.2 q
            refine r_iconst (pc := 90) (v := 0) dX8_canBe_90 (by decide) ?_
            exact s_zret rfl (by decide) dX8_canBe_91 K0
      · have K0 := K0.2 q
        refine r_iconst (pc := 56) (v := 0) dX8_canBe_56 (by decide) ?_
        exact s_zret rfl (by decide) dX8_canBe_57 K0
    · have q := (b2i_z _).mp q
      have K0 := K0.2 q
      refine r_goto (pc := 28) (tgt := 92) dX8_canBe_28 (by decide) ?_
      refine r_iinc (pc := 92) (v := l6 + 1) dX8_canBe_92 rfl rfl (by decide) ?_
      refine r_goto (pc := 95) (L := [some (.ref b0), some (.int l1), some (.int l2), some (.int l3), some (.int l4), some (.int l5), some (.int (l6 + 1))]) (tgt := 3) dX8_canBe_95 (by decide) ?_
      exact r_le (L' := [some (.ref b0), some (.int l1), some (.int l2), some (.int l3), some (.int l4), some (.int l5), some (.int (l6 + 1))]) ⟨rfl, ⟨rfl, ⟨rfl, ⟨rfl, ⟨rfl, ⟨rfl, ⟨rfl, trivial⟩⟩⟩⟩⟩⟩⟩ K0
section
variable {x : Cn} {Q : Int32 → Cn → Prop}
theorem sp_X8_canBe {t : Nat} (M : MRf x t) (ht : kk KW t = some (20, 518)) {W C S A N : Nat} (F : WF (gi x t) W C S A N) {d way bits b wo : Int32} {h : Nat} (hh : h < 24) (hw : way = 0 ∨ way = 1) (hb : ∀ i, i < 32 → tb bits i = true → N ≤ i → i < W) (hwo : ∀ s, s < 24 → (tb wo s = true ↔ nI s = b)) (k : Q (bP (fitC (gi x t) S N d h way bits wo)) x) : mSI mX8_canBe [.ref 717, .int bits, .int d, .int (nI h), .int way, .int b] KW x Q := by
  obtain ⟨t0, t1, hW, t2, t3, t4, hS, t6, t7, t8, hN, hl, -, -⟩ := F
  have key : ∀ n w, w + n = W → (∀ i, i < w → tb bits i = true → N ≤ i → ¬ gi x t (6 + 2 * h) ≤ nI (nW (gi x t) S i d (nI h) 0 wo) ∧ (¬ way = 1 → ¬ gi x t (7 + 2 * h) ≤ nI (nW (gi x t) S i d (nI h) 1 wo))) → GI mX8_canBe 3 [some (.ref 717), some (.int bits), some (.int d), some (.int (nI h)), some (.int way), some (.int b), some (.int (nI w))] [] KW x Q := by
    intro n
    induction n with
    | zero =>
      intro w hw2 g
      refine v_X8_canBe_3 km M.2.2.1 ht ⟨v0 (k := 0) (by decide) rfl rfl, fun _ => ?_, fun z => absurd (by rw [t0]; exact nI_le (by omega) (by omega)) z⟩
      exact (bP_k k).1 (fun i hi h1 h2 => g i (by have := hb i hi h1 h2; omega) h1 h2)
    | succ n ih =>
      intro w hw2 g
      have nx : (tb bits w = true → N ≤ w → ¬ gi x t (6 + 2 * h) ≤ nI (nW (gi x t) S w d (nI h) 0 wo) ∧ (¬ way = 1 → ¬ gi x t (7 + 2 * h) ≤ nI (nW (gi x t) S w d (nI h) 1 wo))) → GI mX8_canBe 3 [some (.ref 717), some (.int bits), some (.int d), some (.int (nI h)), some (.int way), some (.int b), some (.int (nI w + 1))] [] KW x Q := by
        intro gg
        rw [nI_1]
        refine ih (w + 1) (by omega) (fun i hi => ?_)
        by_cases c : i = w
        · rw [c]; exact gg
        · exact g i (by omega)
      refine v_X8_canBe_3 km M.2.2.1 ht ⟨v0 (k := 0) (by decide) rfl rfl, fun z => absurd (by rw [t0] at z; exact z) (nI_ge (by omega) (by omega)), fun _ => ⟨v0 (k := 4) (by decide) rfl rfl, ?_⟩⟩
      rw [f_has_tb _ (by omega), tb_and, t8, t0, tb_fn hW hN (by omega) (by omega)]
      refine ⟨fun z => ?_, fun z => nx (fun z1 z2 => absurd (by rw [z1, decide_eq_true (by omega)]; rfl) z)⟩
      simp only [Bool.and_eq_true, decide_eq_true_eq] at z
      refine sp_X8_loadBut M ht t4 hS (by omega) ⟨M.2.2.1, ?_⟩
      rw [ixh1, ixh, nI_clamp (show 6 + 2 * h < 2 ^ 31 by omega), nI_clamp (show 7 + 2 * h < 2 ^ 31 by omega), ldB_nW0 hwo S hS]
      refine ⟨vp_in_nI (by omega) (by decide), fun z2 => ⟨fun z3 => nx (fun _ _ => ⟨Int32.not_le.mpr z2, fun u => absurd (hw.resolve_left z3) u⟩), fun z3 => ?_⟩, fun z2 => ?_⟩
      · refine sp_X8_loadBut M ht t4 hS (by omega) ⟨M.2.2.1, vp_in_nI (by omega) (by decide), ?_⟩
        rw [ldB_nW1 hwo S hS]
        refine ⟨fun z4 => nx (fun _ _ => ⟨Int32.not_le.mpr z2, fun _ => Int32.not_le.mpr z4⟩), fun z4 => ?_⟩
        exact (bP_k k).2 (fun f => (f w (by omega) z.1 z.2.1).2 (by rw [z3]; decide) (Int32.not_lt.mp z4))
      · exact (bP_k k).2 (fun f => (f w (by omega) z.1 z.2.1).1 (Int32.not_lt.mp z2))
  exact v_X8_canBe_0 (key W 0 (by omega) (fun i hi => absurd hi (by omega)))
/-- an ask fits -/
abbrev fitA (T : TT) (S N a h : Nat) (wo : Int32) : Prop := fitC T S N (ao T a 1) h (ao T a 3) (f_sb (ao T a 4) (ao T a 5)) wo
end
set_option maxHeartbeats 2000000 in
theorem v_X8_canAsk_0 {K : Sh} {x : Cn} {Q : Int32 → Cn → Prop} {b0 : Nat} {l1 : Int32} {l2 : Int32} {l3 : Int32} {b0_3 : Nat} {n_b0_3 : Nat} (k_b0 : kk K b0 = some (8, 0)) (g_b0_3 : gr x b0 3 = some b0_3) (k_b0_3 : kk K b0_3 = some (20, n_b0_3)) (K0 : (l24 l1 n_b0_3) ∧ (mSI mX8_canBe [.ref b0, .int (f_span (ao (gi x b0_3) (l1 : Int32).toNatClampNeg 4) (ao (gi x b0_3) (l1 : Int32).toNatClampNeg 5) &&& f_span (gi x b0_3 4) (gi x b0_3 0 - 1)), .int (ao (gi x b0_3) (l1 : Int32).toNatClampNeg 1), .int l2, .int (ao (gi x b0_3) (l1 : Int32).toNatClampNeg 3), .int l3] K x (fun r_3 y_2 => (r_3 = 0 ∨ r_3 = 1) ∧ (Q r_3 y_2)))) : mSI mX8_canAsk [.ref b0, .int l1, .int l2, .int l3] K x Q := by
  refine s_I (by decide) (by simp [Value.category]) (Nat.le_of_ble_eq_true rfl) ?_
  show mGM mX8_canAsk 0 [some (.ref b0), some (.int l1), some (.int l2), some (.int l3)] [] (hp K x) (PI K Q)
  refine r_aload_n (pc := 0) dX8_canAsk_0 rfl ?_
  refine r_aload_n (pc := 1) dX8_canAsk_1 rfl ?_
  refine r_iload_n (pc := 2) dX8_canAsk_2 rfl ?_
  obtain ⟨p_1, K0⟩ := K0
  refine s_VI (pc := 3) mX8_weeksOf (ci := 8) (a := b0) (As := [.int l1]) dX8_canAsk_3 lk_X8_326 in_X8_weeksOf mo_X8_weeksOf ⟨by decide, rfl⟩ ⟨by decide, by decide⟩ (Nat.le_of_ble_eq_true rfl) k_b0 (sr_X8_weeksOf k_b0 g_b0_3 k_b0_3 p_1 ?_)
  refine r_aload_n (pc := 6) dX8_canAsk_6 rfl ?_
  refine r_iload_n (pc := 7) dX8_canAsk_7 rfl ?_
  refine r_iconst (pc := 8) (v := 1) dX8_canAsk_8 (by decide) ?_
  refine s_VI (pc := 9) mX8_ask0 (ci := 8) (a := b0) (As := [.int l1, .int 1]) dX8_canAsk_9 lk_X8_284 in_X8_ask0 mo_X8_ask0 ⟨by decide, rfl⟩ ⟨by decide, by decide⟩ (Nat.le_of_ble_eq_true rfl) k_b0 (sr_X8_ask0 k_b0 g_b0_3 k_b0_3 p_1 ⟨by decide, by decide⟩ ?_)
  refine r_iload_n (pc := 12) dX8_canAsk_12 rfl ?_
  refine r_aload_n (pc := 13) dX8_canAsk_13 rfl ?_
  refine r_iload_n (pc := 14) dX8_canAsk_14 rfl ?_
  refine r_iconst (pc := 15) (v := 3) dX8_canAsk_15 (by decide) ?_
  refine s_VI (pc := 16) mX8_ask0 (ci := 8) (a := b0) (As := [.int l1, .int 3]) dX8_canAsk_16 lk_X8_284 in_X8_ask0 mo_X8_ask0 ⟨by decide, rfl⟩ ⟨by decide, by decide⟩ (Nat.le_of_ble_eq_true rfl) k_b0 (sr_X8_ask0 k_b0 g_b0_3 k_b0_3 p_1 ⟨by decide, by decide⟩ ?_)
  refine r_iload_n (pc := 19) dX8_canAsk_19 rfl ?_
  refine s_VI (pc := 20) mX8_canBe (ci := 8) (a := b0) (As := [.int (f_span (ao (gi x b0_3) (l1 : Int32).toNatClampNeg 4) (ao (gi x b0_3) (l1 : Int32).toNatClampNeg 5) &&& f_span (gi x b0_3 4) (gi x b0_3 0 - 1)), .int (ao (gi x b0_3) (l1 : Int32).toNatClampNeg 1), .int l2, .int (ao (gi x b0_3) (l1 : Int32).toNatClampNeg 3), .int l3]) dX8_canAsk_20 lk_X8_90 in_X8_canBe mo_X8_canBe ⟨by decide, rfl⟩ ⟨by decide, by decide⟩ (Nat.le_of_ble_eq_true rfl) k_b0 (mSI_mono K0 (fun r_3 y_2 K0 => ?_))
  obtain ⟨p_4, K0⟩ := K0
  exact s_zret rfl p_4 dX8_canAsk_23 K0
section
variable {x : Cn} {Q : Int32 → Cn → Prop}
theorem sp_X8_canAsk {t : Nat} (M : MRf x t) (ht : kk KW t = some (20, 518)) {W C S A N : Nat} (F : WF (gi x t) W C S A N) {b wo : Int32} {a h : Nat} (ha : a < A) (hh : h < 24) (hwo : ∀ s, s < 24 → (tb wo s = true ↔ nI s = b)) (k : Q (bP (fitA (gi x t) S N a h wo)) x) : mSI mX8_canAsk [.ref 717, .int (nI a), .int (nI h), .int b] KW x Q := by
  have hA : A ≤ 24 := F.2.2.2.2.2.2.2.2.1
  have hW : W ≤ 30 := F.2.2.1
  have hN : N ≤ W := F.2.2.2.2.2.2.2.2.2.2.1
  obtain ⟨-, -, -, a3, ⟨f, l, f1, f2, f3, f4⟩, -⟩ := F.2.2.2.2.2.2.2.2.2.2.2.2.2 a ha
  refine v_X8_canAsk_0 km M.2.2.1 ht ⟨l24_nI (by omega) rfl, ?_⟩
  rw [nI_clamp (by omega), F.1, F.2.2.2.2.2.2.2.2.2.1]
  refine sp_X8_canBe M ht F hh a3 ?_ hwo ⟨bP_01 _, ?_⟩
  · intro i hi z1 z2
    rw [tb_and, Bool.and_eq_true, tb_fn hW hN hi (by omega)] at z1
    exact (of_decide_eq_true z1.2).2
  · rw [bP_congr (fitC_bits (b2 := f_sb (ao (gi x t) a 4) (ao (gi x t) a 5)) (fun i hi h2 => ?_))]
    · exact k
    · rw [tb_and, tb_fn hW hN hi (by omega), f3, f4, sb_span (by omega) (by omega), tb_span0 f (by omega) l (by omega) i hi]
      by_cases c : f ≤ i ∧ i ≤ l
      · rw [decide_eq_true c, decide_eq_true (show N ≤ i ∧ i < W by omega)]; rfl
      · rw [decide_eq_false c]; rfl
end
set_option maxHeartbeats 2000000 in
theorem v_X4_hasPlaceFor_0 {K : Sh} {x : Cn} {Q : Int32 → Cn → Prop} {b0 : Nat} {b1 : Nat} {l2 : Int32} {l3 : Int32}  (k_b1 : kk K b1 = some (0, 0)) (k_b0 : kk K b0 = some (4, 0)) (K0 : mSI mX4_hasPlace [.ref b0, .int (gi x b1 1), .int l2, .int (gi x b1 3), .int (f_sb (gi x b1 4) (gi x b1 5)), .int l3] K x (fun r_2 y_1 => (r_2 = 0 ∨ r_2 = 1) ∧ (Q r_2 y_1))) : mSI mX4_hasPlaceFor [.ref b0, .ref b1, .int l2, .int l3] K x Q := by
  refine s_I (by decide) (by simp [Value.category]) (Nat.le_of_ble_eq_true rfl) ?_
  show mGM mX4_hasPlaceFor 0 [some (.ref b0), some (.ref b1), some (.int l2), some (.int l3)] [] (hp K x) (PI K Q)
  refine r_aload_n (pc := 0) dX4_hasPlaceFor_0 rfl ?_
  refine r_aload_n (pc := 1) dX4_hasPlaceFor_1 rfl ?_
  refine s_getI (pc := 2) dX4_hasPlaceFor_2 fl_X4_100 rfl k_b1 ?_
  refine r_iload_n (pc := 5) dX4_hasPlaceFor_5 rfl ?_
  refine r_aload_n (pc := 6) dX4_hasPlaceFor_6 rfl ?_
  refine s_getI (pc := 7) dX4_hasPlaceFor_7 fl_X4_101 rfl k_b1 ?_
  refine r_aload_n (pc := 10) dX4_hasPlaceFor_10 rfl ?_
  refine s_VI (pc := 11) mX0_wantedBits (ci := 0) (a := b1) (As := []) dX4_hasPlaceFor_11 lk_X4_102 in_X0_wantedBits mo_X0_wantedBits ⟨by decide, rfl⟩ ⟨by decide, by decide⟩ (Nat.le_of_ble_eq_true rfl) k_b1 (sp_X0_wantedBits k_b1 ?_)
  refine r_iload_n (pc := 14) dX4_hasPlaceFor_14 rfl ?_
  refine s_VI (pc := 15) mX4_hasPlace (ci := 4) (a := b0) (As := [.int (gi x b1 1), .int l2, .int (gi x b1 3), .int (f_sb (gi x b1 4) (gi x b1 5)), .int l3]) dX4_hasPlaceFor_15 lk_X4_105 in_X4_hasPlace mo_X4_hasPlace ⟨by decide, rfl⟩ ⟨by decide, by decide⟩ (Nat.le_of_ble_eq_true rfl) k_b0 (mSI_mono K0 (fun r_2 y_1 K0 => ?_))
  obtain ⟨p_3, K0⟩ := K0
  exact s_zret rfl p_3 dX4_hasPlaceFor_18 K0
section
variable {x : Cn} {Q : Int32 → Cn → Prop}
theorem sp_X4_hasPlaceFor {q : Nat} {T : TT} {W C S A N : Nat} (E : SEA x q T W C S A N) {a p h : Nat} {wo : Int32} (hp : kk KW p = some (0, 0)) (hq : ASR x p T a) (hh : h < 24) (k : ∀ y, EQx x y (q + 5) → Q (bP (fitA T S N a h wo)) y) : mSI mX4_hasPlaceFor [.ref q, .ref p, .int (nI h), .int wo] KW x Q := by
  refine v_X4_hasPlaceFor_0 hp (ks0 E.1) ?_
  rw [hq 1 (by decide), hq 3 (by decide), hq 4 (by decide), hq 5 (by decide)]
  exact sp_X4_hasPlace E hh (fun y hy => ⟨bP_01 _, k y hy⟩)
theorem span_and0 {f l N W : Nat} (h1 : f ≤ l) (h2 : l < W) (h3 : W ≤ 30) (h4 : N ≤ W) : (f_span (nI f) (nI l) &&& f_span (nI N) (nI W - 1)) = 0 ↔ l < N := by
  constructor
  · intro z
    by_cases c : l < N
    · exact c
    · have : tb (f_span (nI f) (nI l) &&& f_span (nI N) (nI W - 1)) l = true := by
        rw [tb_and, tb_span0 f (by omega) l (by omega) l (by omega), tb_fn h3 h4 (by omega) (by omega), decide_eq_true (by omega), decide_eq_true (by omega)]; rfl
      rw [z, tb_0] at this
      cases this
  · intro z
    apply tb_ext
    intro i hi
    rw [tb_and, tb_span0 f (by omega) l (by omega) i hi, tb_fn h3 h4 hi (by omega), tb_0]
    by_cases c : f ≤ i ∧ i ≤ l
    · rw [decide_eq_false (show ¬ (N ≤ i ∧ i < W) by omega), Bool.and_false]
    · rw [decide_eq_false c, Bool.false_and]
/-- the row of all is kept by what hasPlace writes -/
theorem Rel.e7 {x y : Cn} (R : Rel x) (h : EQx x y 7) : Rel y ∧ gi y 718 = gi x 718 := ⟨R.keep (Kp.of h (fun _ => Or.inl rfl)), by funext k; exact h.2 718 k (by decide)⟩
def orP (c : Nat → Int32) : Nat → Int32 → Int32 := fun s a => if c s = 0 then a else a ||| (1 <<< (nI s &&& 31))
theorem Rel.wf {x : Cn} {W C S A N : Nat} (E : SEA x 2 (gi x 718) W C S A N) : WF (gi x 718) W C S A N := E.2.2.2
end
set_option maxHeartbeats 2000000 in
theorem v_X7_fits_0 {K : Sh} {x : Cn} {Q : Int32 → Cn → Prop} {b0 : Nat} {l1 : Int32} {b0_2 : Nat} {b0_2_8 : Nat} {n_b0_2_8 : Nat} (k_b0 : kk K b0 = some (7, 0)) (g_b0_2 : gr x b0 2 = some b0_2) (k_b0_2 : kk K b0_2 = some (4, 0)) (g_b0_2_8 : gr x b0_2 8 = some b0_2_8) (k_b0_2_8 : kk K b0_2_8 = some (24, n_b0_2_8)) (K0 : ((0 ≤ l1 ∧ l1 < gi x b0_2 4) → (vp_in l1 n_b0_2_8 ∧ (∃ c_3 : Nat, gr x b0_2_8 ((l1 : Int32).toNatClampNeg) = some c_3 ∧ (kk K c_3 = some (0, 0) ∧ (((gi x b0_2 1) ≤ (gi x c_3 5) → (mSI mX4_hasPlaceFor [.ref b0_2, .ref c_3, .int (gi x c_3 2), .int 0] K x (fun r_8 y_7 => (r_8 = 0 → (Q 0 y_7)) ∧ (¬ r_8 = 0 → (Q 1 y_7))))) ∧ (¬ (gi x b0_2 1) ≤ (gi x c_3 5) → (Q (-1) x))))))) ∧ (¬ (0 ≤ l1 ∧ l1 < gi x b0_2 4) → (Q (-2) x))) : mSI mX7_fits [.ref b0, .int l1] K x Q := by
  refine s_I (by decide) (by simp [Value.category]) (Nat.le_of_ble_eq_true rfl) ?_
  show mGM mX7_fits 0 [some (.ref b0), some (.int l1), none] [] (hp K x) (PI K Q)
  refine r_aload_n (pc := 0) dX7_fits_0 rfl ?_
  refine r_iload_n (pc := 1) dX7_fits_1 rfl ?_
  refine s_VI (pc := 2) mX7_isAsk (ci := 7) (a := b0) (As := [.int l1]) dX7_fits_2 lk_X7_173 in_X7_isAsk mo_X7_isAsk ⟨by decide, rfl⟩ ⟨by decide, by decide⟩ (Nat.le_of_ble_eq_true rfl) k_b0 (sp_X7_isAsk k_b0 g_b0_2 k_b0_2 ?_)
  refine r_if_ne (pc := 5) (tgt := 11) dX7_fits_5 (by decide) (fun q => ?_) (fun q => ?_)
  · have q := b2i_nz q
    have K0 := K0.1 q
    refine r_aload_n (pc := 11) dX7_fits_11 rfl ?_
    refine s_getR (pc := 12) dX7_fits_12 fl_X7_20 rfl k_b0 g_b0_2 ?_
    refine s_getR (pc := 15) dX7_fits_15 fl_X7_176 rfl k_b0_2 g_b0_2_8 ?_
    refine r_iload_n (pc := 18) dX7_fits_18 rfl ?_
    obtain ⟨i_2, K0⟩ := K0
    obtain ⟨c_3, g_4, K0⟩ := K0
    refine s_aald (pc := 19) dX7_fits_19 (by decide) rfl k_b0_2_8 i_2 g_4 ?_
    refine r_astore_n (pc := 20) dX7_fits_20 (by decide) ?_
    refine r_aload_n (pc := 21) (L := [some (.ref b0), some (.int l1), some (.ref c_3)]) dX7_fits_21 rfl ?_
    obtain ⟨e_5, K0⟩ := K0
    refine s_getI (pc := 22) dX7_fits_22 fl_X7_189 rfl e_5 ?_
    refine r_aload_n (pc := 25) dX7_fits_25 rfl ?_
    refine s_getR (pc := 26) dX7_fits_26 fl_X7_20 rfl k_b0 g_b0_2 ?_
    refine s_getI (pc := 29) dX7_fits_29 fl_X7_103 rfl k_b0_2 ?_
    refine r_icmp_ge (pc := 32) (tgt := 37) dX7_fits_32 (by decide) (fun q => ?_) (fun q => ?_)
    · have K0 := K0.1 q
      refine r_aload_n (pc := 37) dX7_fits_37 rfl ?_
      refine s_getR (pc := 38) dX7_fits_38 fl_X7_20 rfl k_b0 g_b0_2 ?_
      refine r_aload_n (pc := 41) dX7_fits_41 rfl ?_
      refine r_aload_n (pc := 42) dX7_fits_42 rfl ?_
      refine s_getI (pc := 43) dX7_fits_43 fl_X7_184 rfl e_5 ?_
      refine r_iconst (pc := 46) (v := 0) dX7_fits_46 (by decide) ?_
      refine s_VI (pc := 47) mX4_hasPlaceFor (ci := 4) (a := b0_2) (As := [.ref c_3, .int (gi x c_3 2), .int 0]) dX7_fits_47 lk_X7_299 in_X4_hasPlaceFor mo_X4_hasPlaceFor ⟨by decide, rfl⟩ ⟨by decide, by decide⟩ (Nat.le_of_ble_eq_true rfl) k_b0_2 (mSI_mono K0 (fun r_8 y_7 K0 => ?_))
      refine r_if_eq (pc := 50) (tgt := 57) dX7_fits_50 (by decide) (fun q => ?_) (fun q => ?_)
      · have K0 := K0.1 q
        refine r_iconst (pc := 57) (v := 0) dX7_fits_57 (by decide) ?_
        exact s_iret rfl dX7_fits_58 K0
      · have K0 := K0.2 q
        refine r_iconst (pc := 53) (v := 1) dX7_fits_53 (by decide) ?_
        refine r_goto (pc := 54) (tgt := 58) dX7_fits_54 (by decide) ?_
        exact s_iret rfl dX7_fits_58 K0
    · have K0 := K0.2 q
      refine r_iconst (pc := 35) (v := (-1)) dX7_fits_35 (by decide) ?_
      exact s_iret rfl dX7_fits_36 K0
  · have q := (b2i_z _).mp q
    have K0 := K0.2 q
    refine r_bipush (pc := 8) (v := (-2)) dX7_fits_8 (by decide) ?_
    exact s_iret rfl dX7_fits_10 K0
set_option maxHeartbeats 2000000 in
theorem v_X8_fits_0 {K : Sh} {x : Cn} {Q : Int32 → Cn → Prop} {b0 : Nat} {l1 : Int32} {b0_1 : Nat} {n_b0_1 : Nat} {b0_3 : Nat} {n_b0_3 : Nat} (k_b0 : kk K b0 = some (8, 0)) (g_b0_1 : gr x b0 1 = some b0_1) (k_b0_1 : kk K b0_1 = some (20, n_b0_1)) (g_b0_3 : gr x b0 3 = some b0_3) (k_b0_3 : kk K b0_3 = some (20, n_b0_3)) (K0 : vp_in 3 n_b0_1 ∧ (((0 ≤ l1 ∧ l1 ≤ gi x b0_1 3 - 1) → ((l24 l1 n_b0_3) ∧ ((¬ (f_span (ao (gi x b0_3) (l1 : Int32).toNatClampNeg 4) (ao (gi x b0_3) (l1 : Int32).toNatClampNeg 5) &&& f_span (gi x b0_3 4) (gi x b0_3 0 - 1)) = 0 → (mSI mX8_canAsk [.ref b0, .int l1, .int (ao (gi x b0_3) (l1 : Int32).toNatClampNeg 2), .int (-1)] K x (fun r_6 y_5 => (r_6 = 0 → (Q 0 y_5)) ∧ (¬ r_6 = 0 → (Q 1 y_5))))) ∧ ((f_span (ao (gi x b0_3) (l1 : Int32).toNatClampNeg 4) (ao (gi x b0_3) (l1 : Int32).toNatClampNeg 5) &&& f_span (gi x b0_3 4) (gi x b0_3 0 - 1)) = 0 → (Q (-1) x))))) ∧ (¬ (0 ≤ l1 ∧ l1 ≤ gi x b0_1 3 - 1) → (Q (-2) x)))) : mSI mX8_fits [.ref b0, .int l1] K x Q := by
  refine s_I (by decide) (by simp [Value.category]) (Nat.le_of_ble_eq_true rfl) ?_
  show mGM mX8_fits 0 [some (.ref b0), some (.int l1)] [] (hp K x) (PI K Q)
  refine r_aload_n (pc := 0) dX8_fits_0 rfl ?_
  refine r_iload_n (pc := 1) dX8_fits_1 rfl ?_
  obtain ⟨i_1, K0⟩ := K0
  refine s_VI (pc := 2) mX8_isAsk (ci := 8) (a := b0) (As := [.int l1]) dX8_fits_2 lk_X8_281 in_X8_isAsk mo_X8_isAsk ⟨by decide, rfl⟩ ⟨by decide, by decide⟩ (Nat.le_of_ble_eq_true rfl) k_b0 (sp_X8_isAsk k_b0 g_b0_1 k_b0_1 i_1 ?_)
  refine r_if_ne (pc := 5) (tgt := 11) dX8_fits_5 (by decide) (fun q => ?_) (fun q => ?_)
  · have q := b2i_nz q
    have K0 := K0.1 q
    refine r_aload_n (pc := 11) dX8_fits_11 rfl ?_
    refine r_iload_n (pc := 12) dX8_fits_12 rfl ?_
    obtain ⟨p_3, K0⟩ := K0
    refine s_VI (pc := 13) mX8_weeksOf (ci := 8) (a := b0) (As := [.int l1]) dX8_fits_13 lk_X8_326 in_X8_weeksOf mo_X8_weeksOf ⟨by decide, rfl⟩ ⟨by decide, by decide⟩ (Nat.le_of_ble_eq_true rfl) k_b0 (sr_X8_weeksOf k_b0 g_b0_3 k_b0_3 p_3 ?_)
    refine r_if_ne (pc := 16) (tgt := 23) dX8_fits_16 (by decide) (fun q => ?_) (fun q => ?_)
    · have K0 := K0.1 q
      refine r_aload_n (pc := 23) dX8_fits_23 rfl ?_
      refine r_iload_n (pc := 24) dX8_fits_24 rfl ?_
      refine r_aload_n (pc := 25) dX8_fits_25 rfl ?_
      refine r_iload_n (pc := 26) dX8_fits_26 rfl ?_
      refine r_iconst (pc := 27) (v := 2) dX8_fits_27 (by decide) ?_
      refine s_VI (pc := 28) mX8_ask0 (ci := 8) (a := b0) (As := [.int l1, .int 2]) dX8_fits_28 lk_X8_284 in_X8_ask0 mo_X8_ask0 ⟨by decide, rfl⟩ ⟨by decide, by decide⟩ (Nat.le_of_ble_eq_true rfl) k_b0 (sr_X8_ask0 k_b0 g_b0_3 k_b0_3 p_3 ⟨by decide, by decide⟩ ?_)
      refine r_iconst (pc := 31) (v := (-1)) dX8_fits_31 (by decide) ?_
      refine s_VI (pc := 32) mX8_canAsk (ci := 8) (a := b0) (As := [.int l1, .int (ao (gi x b0_3) (l1 : Int32).toNatClampNeg 2), .int (-1)]) dX8_fits_32 lk_X8_329 in_X8_canAsk mo_X8_canAsk ⟨by decide, rfl⟩ ⟨by decide, by decide⟩ (Nat.le_of_ble_eq_true rfl) k_b0 (mSI_mono K0 (fun r_6 y_5 K0 => ?_))
      refine r_if_eq (pc := 35) (tgt := 42) dX8_fits_35 (by decide) (fun q => ?_) (fun q => ?_)
      · have K0 := K0.1 q
        refine r_iconst (pc := 42) (v := 0) dX8_fits_42 (by decide) ?_
        exact s_iret rfl dX8_fits_43 K0
      · have K0 := K0.2 q
        refine r_iconst (pc := 38) (v := 1) dX8_fits_38 (by decide) ?_
        refine r_goto (pc := 39) (tgt := 43) dX8_fits_39 (by decide) ?_
        exact s_iret rfl dX8_fits_43 K0
    · have K0 := K0.2 q
      refine r_iconst (pc := 19) (v := (-1)) dX8_fits_19 (by decide) ?_
      refine r_goto (pc := 20) (tgt := 43) dX8_fits_20 (by decide) ?_
      exact s_iret rfl dX8_fits_43 K0
  · have q := (b2i_z _).mp q
    have K0 := K0.2 q
    refine r_bipush (pc := 8) (v := (-2)) dX8_fits_8 (by decide) ?_
    exact s_iret rfl dX8_fits_10 K0
set_option maxHeartbeats 2000000 in
theorem v_X7_fitting_0 {K : Sh} {x : Cn} {Q : Int32 → Cn → Prop} {b0 : Nat} {l1 : Int32} {l2 : Int32} {l3 : Int32} {l4 : Int32} {b0_2 : Nat} (k_b0 : kk K b0 = some (7, 0)) (g_b0_2 : gr x b0 2 = some b0_2) (k_b0_2 : kk K b0_2 = some (4, 0)) (K0 : (¬ (0 < gi x b0_2 0 ∧ 0 ≤ l1 ∧ l1 < 7) → (Q (-2) x)) ∧ ((0 < gi x b0_2 0 ∧ 0 ≤ l1 ∧ l1 < 7) → ((¬ (l2 = 0 ∨ l2 = 1) → (Q (-2) x)) ∧ ((l2 = 0 ∨ l2 = 1) → ((¬ (0 ≤ l3 ∧ l3 < gi x b0_2 0) → (Q (-2) x)) ∧ ((0 ≤ l3 ∧ l3 < gi x b0_2 0) → ((¬ (0 ≤ l4 ∧ l4 < gi x b0_2 0) → (Q (-2) x)) ∧ ((0 ≤ l4 ∧ l4 < gi x b0_2 0) → ((l3 ≤ l4 → (GI mX7_fitting 55 [some (.ref b0), some (.int l1), some (.int l2), some (.int l3), some (.int l4), some (.int (f_sb l3 l4)), some (.int 0), some (.int 0)] [] K x Q)) ∧ (¬ l3 ≤ l4 → (Q (-2) x))))))))))) : mSI mX7_fitting [.ref b0, .int l1, .int l2, .int l3, .int l4] K x Q := by
  refine s_I (by decide) (by simp [Value.category]) (Nat.le_of_ble_eq_true rfl) ?_
  show mGM mX7_fitting 0 [some (.ref b0), some (.int l1), some (.int l2), some (.int l3), some (.int l4), none, none, none] [] (hp K x) (PI K Q)
  refine r_aload_n (pc := 0) dX7_fitting_0 rfl ?_
  refine r_iload_n (pc := 1) dX7_fitting_1 rfl ?_
  refine s_VI (pc := 2) mX7_isDay (ci := 7) (a := b0) (As := [.int l1]) dX7_fitting_2 lk_X7_245 in_X7_isDay mo_X7_isDay ⟨by decide, rfl⟩ ⟨by decide, by decide⟩ (Nat.le_of_ble_eq_true rfl) k_b0 (sp_X7_isDay k_b0 g_b0_2 k_b0_2 ?_)
  refine r_if_eq (pc := 5) (tgt := 38) dX7_fitting_5 (by decide) (fun q => ?_) (fun q => ?_)
  · have q := (b2i_z _).mp q
    have K0 := K0.1 q
    refine r_bipush (pc := 38) (v := (-2)) dX7_fitting_38 (by decide) ?_
    exact s_iret rfl dX7_fitting_40 K0
  · have q := b2i_nz q
    have K0 := K0.2 q
    refine r_iload_n (pc := 8) dX7_fitting_8 rfl ?_
    refine s_SI (pc := 9) mX7_isWay (As := [.int l2]) dX7_fitting_9 lk_X7_218 st_X7_isWay mo_X7_isWay ⟨by decide, by decide⟩ (Nat.le_of_ble_eq_true rfl) (sp_X7_isWay  ?_)
    refine r_if_eq (pc := 12) (tgt := 38) dX7_fitting_12 (by decide) (fun q => ?_) (fun q => ?_)
    · have q := (b2i_z _).mp q
      have K0 := K0.1 q
      refine r_bipush (pc := 38) (v := (-2)) dX7_fitting_38 (by decide) ?_
      exact s_iret rfl dX7_fitting_40 K0
    · have q := b2i_nz q
      have K0 := K0.2 q
      refine r_aload_n (pc := 15) dX7_fitting_15 rfl ?_
      refine r_iload_n (pc := 16) dX7_fitting_16 rfl ?_
      refine s_VI (pc := 17) mX7_isWeek (ci := 7) (a := b0) (As := [.int l3]) dX7_fitting_17 lk_X7_167 in_X7_isWeek mo_X7_isWeek ⟨by decide, rfl⟩ ⟨by decide, by decide⟩ (Nat.le_of_ble_eq_true rfl) k_b0 (sp_X7_isWeek k_b0 g_b0_2 k_b0_2 ?_)
      refine r_if_eq (pc := 20) (tgt := 38) dX7_fitting_20 (by decide) (fun q => ?_) (fun q => ?_)
      · have q := (b2i_z _).mp q
        have K0 := K0.1 q
        refine r_bipush (pc := 38) (v := (-2)) dX7_fitting_38 (by decide) ?_
        exact s_iret rfl dX7_fitting_40 K0
      · have q := b2i_nz q
        have K0 := K0.2 q
        refine r_aload_n (pc := 23) dX7_fitting_23 rfl ?_
        refine r_iload (pc := 24) dX7_fitting_24 rfl ?_
        refine s_VI (pc := 26) mX7_isWeek (ci := 7) (a := b0) (As := [.int l4]) dX7_fitting_26 lk_X7_167 in_X7_isWeek mo_X7_isWeek ⟨by decide, rfl⟩ ⟨by decide, by decide⟩ (Nat.le_of_ble_eq_true rfl) k_b0 (sp_X7_isWeek k_b0 g_b0_2 k_b0_2 ?_)
        refine r_if_eq (pc := 29) (tgt := 38) dX7_fitting_29 (by decide) (fun q => ?_) (fun q => ?_)
        · have q := (b2i_z _).mp q
          have K0 := K0.1 q
          refine r_bipush (pc := 38) (v := (-2)) dX7_fitting_38 (by decide) ?_
          exact s_iret rfl dX7_fitting_40 K0
        · have q := b2i_nz q
          have K0 := K0.2 q
          refine r_iload (pc := 32) dX7_fitting_32 rfl ?_
          refine r_iload_n (pc := 34) dX7_fitting_34 rfl ?_
          refine r_icmp_ge (pc := 35) (tgt := 41) dX7_fitting_35 (by decide) (fun q => ?_) (fun q => ?_)
          · have K0 := K0.1 q
            refine r_iload_n (pc := 41) dX7_fitting_41 rfl ?_
            refine r_iload (pc := 42) dX7_fitting_42 rfl ?_
            refine s_SI (pc := 44) mX7_spanBits (As := [.int l3, .int l4]) dX7_fitting_44 lk_X7_292 st_X7_spanBits mo_X7_spanBits ⟨by decide, by decide⟩ (Nat.le_of_ble_eq_true rfl) (sp_X7_spanBits  ?_)
            refine r_istore (pc := 47) dX7_fitting_47 (by decide) ?_
            refine r_iconst (pc := 49) (L := [some (.ref b0), some (.int l1), some (.int l2), some (.int l3), some (.int l4), some (.int (f_sb l3 l4)), none, none]) (v := 0) dX7_fitting_49 (by decide) ?_
            refine r_istore (pc := 50) dX7_fitting_50 (by decide) ?_
            refine r_iconst (pc := 52) (L := [some (.ref b0), some (.int l1), some (.int l2), some (.int l3), some (.int l4), some (.int (f_sb l3 l4)), some (.int 0), none]) (v := 0) dX7_fitting_52 (by decide) ?_
            refine r_istore (pc := 53) dX7_fitting_53 (by decide) ?_
            exact r_le (L' := [some (.ref b0), some (.int l1), some (.int l2), some (.int l3), some (.int l4), some (.int (f_sb l3 l4)), some (.int 0), some (.int 0)]) ⟨rfl, ⟨rfl, ⟨rfl, ⟨rfl, ⟨rfl, ⟨rfl, ⟨rfl, ⟨rfl, trivial⟩⟩⟩⟩⟩⟩⟩⟩ K0
          · have K0 := K0.2 q
            refine r_bipush (pc := 38) (v := (-2)) dX7_fitting_38 (by decide) ?_
            exact s_iret rfl dX7_fitting_40 K0
set_option maxHeartbeats 2000000 in
theorem v_X7_fitting_55 {K : Sh} {x : Cn} {Q : Int32 → Cn → Prop} {b0 : Nat} {l1 : Int32} {l2 : Int32} {l3 : Int32} {l4 : Int32} {l5 : Int32} {l6 : Int32} {l7 : Int32} {b0_2 : Nat} (k_b0 : kk K b0 = some (7, 0)) (g_b0_2 : gr x b0 2 = some b0_2) (k_b0_2 : kk K b0_2 = some (4, 0)) (K0 : (24 ≤ l7 → (Q l6 x)) ∧ (¬ 24 ≤ l7 → (mSI mX4_hasPlace [.ref b0_2, .int l1, .int l7, .int l2, .int l5, .int 0] K x (fun r_3 y_2 => (r_3 = 0 → (GI mX7_fitting 55 [some (.ref b0), some (.int l1), some (.int l2), some (.int l3), some (.int l4), some (.int l5), some (.int l6), some (.int (l7 + 1))] [] K y_2 Q)) ∧ (¬ r_3 = 0 → (GI mX7_fitting 55 [some (.ref b0), some (.int l1), some (.int l2), some (.int l3), some (.int l4), some (.int l5), some (.int (l6 ||| (1 <<< (l7 &&& 31)))), some (.int (l7 + 1))] [] K y_2 Q)))))) : GI mX7_fitting 55 [some (.ref b0), some (.int l1), some (.int l2), some (.int l3), some (.int l4), some (.int l5), some (.int l6), some (.int l7)] [] K x Q := by
  show mGM mX7_fitting 55 [some (.ref b0), some (.int l1), some (.int l2), some (.int l3), some (.int l4), some (.int l5), some (.int l6), some (.int l7)] [] (hp K x) (PI K Q)
  refine r_iload (pc := 55) dX7_fitting_55 rfl ?_
  refine r_bipush (pc := 57) (v := 24) dX7_fitting_57 (by decide) ?_
  refine r_icmp_ge (pc := 59) (tgt := 94) dX7_fitting_59 (by decide) (fun q => ?_) (fun q => ?_)
  · have K0 := K0.1 q
    refine r_iload (pc := 94) dX7_fitting_94 rfl ?_
    exact s_iret rfl dX7_fitting_96 K0
  · have K0 := K0.2 q
    refine r_aload_n (pc := 62) dX7_fitting_62 rfl ?_
    refine s_getR (pc := 63) dX7_fitting_63 fl_X7_20 rfl k_b0 g_b0_2 ?_
    refine r_iload_n (pc := 66) dX7_fitting_66 rfl ?_
    refine r_iload (pc := 67) dX7_fitting_67 rfl ?_
    refine r_iload_n (pc := 69) dX7_fitting_69 rfl ?_
    refine r_iload (pc := 70) dX7_fitting_70 rfl ?_
    refine r_iconst (pc := 72) (v := 0) dX7_fitting_72 (by decide) ?_
    refine s_VI (pc := 73) mX4_hasPlace (ci := 4) (a := b0_2) (As := [.int l1, .int l7, .int l2, .int l5, .int 0]) dX7_fitting_73 lk_X7_295 in_X4_hasPlace mo_X4_hasPlace ⟨by decide, rfl⟩ ⟨by decide, by decide⟩ (Nat.le_of_ble_eq_true rfl) k_b0_2 (mSI_mono K0 (fun r_3 y_2 K0 => ?_))
    refine r_if_eq (pc := 76) (tgt := 88) dX7_fitting_76 (by decide) (fun q => ?_) (fun q => ?_)
    · have K0 := K0.1 q
      refine r_iinc (pc := 88) (v := l7 + 1) dX7_fitting_88 rfl rfl (by decide) ?_
      refine r_goto (pc := 91) (L := [some (.ref b0), some (.int l1), some (.int l2), some (.int l3), some (.int l4), some (.int l5), some (.int l6), some (.int (l7 + 1))]) (tgt := 55) dX7_fitting_91 (by decide) ?_
      exact r_le (L' := [some (.ref b0), some (.int l1), some (.int l2), some (.int l3), some (.int l4), some (.int l5), some (.int l6), some (.int (l7 + 1))]) ⟨rfl, ⟨rfl, ⟨rfl, ⟨rfl, ⟨rfl, ⟨rfl, ⟨rfl, ⟨rfl, trivial⟩⟩⟩⟩⟩⟩⟩⟩ K0
    · have K0 := K0.2 q
      refine r_iload (pc := 79) dX7_fitting_79 rfl ?_
      refine r_iconst (pc := 81) (v := 1) dX7_fitting_81 (by decide) ?_
      refine r_iload (pc := 82) dX7_fitting_82 rfl ?_
      refine r_ishl (pc := 84) dX7_fitting_84 ?_
      refine r_ior (pc := 85) dX7_fitting_85 ?_
      refine r_istore (pc := 86) dX7_fitting_86 (by decide) ?_
      refine r_iinc (pc := 88) (L := [some (.ref b0), some (.int l1), some (.int l2), some (.int l3), some (.int l4), some (.int l5), some (.int (l6 ||| (1 <<< (l7 &&& 31)))), some (.int l7)]) (v := l7 + 1) dX7_fitting_88 rfl rfl (by decide) ?_
      refine r_goto (pc := 91) (L := [some (.ref b0), some (.int l1), some (.int l2), some (.int l3), some (.int l4), some (.int l5), some (.int (l6 ||| (1 <<< (l7 &&& 31)))), some (.int (l7 + 1))]) (tgt := 55) dX7_fitting_91 (by decide) ?_
      exact r_le (L' := [some (.ref b0), some (.int l1), some (.int l2), some (.int l3), some (.int l4), some (.int l5), some (.int (l6 ||| (1 <<< (l7 &&& 31)))), some (.int (l7 + 1))]) ⟨rfl, ⟨rfl, ⟨rfl, ⟨rfl, ⟨rfl, ⟨rfl, ⟨rfl, ⟨rfl, trivial⟩⟩⟩⟩⟩⟩⟩⟩ K0
set_option maxHeartbeats 2000000 in
theorem v_X8_fitting_0 {K : Sh} {x : Cn} {Q : Int32 → Cn → Prop} {b0 : Nat} {l1 : Int32} {l2 : Int32} {l3 : Int32} {l4 : Int32} {b0_1 : Nat} {n_b0_1 : Nat} (k_b0 : kk K b0 = some (8, 0)) (g_b0_1 : gr x b0 1 = some b0_1) (k_b0_1 : kk K b0_1 = some (20, n_b0_1)) (K0 : vp_in 0 n_b0_1 ∧ ((¬ (0 < gi x b0_1 0 ∧ 0 ≤ l1 ∧ l1 ≤ 6) → (Q (-2) x)) ∧ ((0 < gi x b0_1 0 ∧ 0 ≤ l1 ∧ l1 ≤ 6) → ((¬ (0 ≤ l2 ∧ l2 ≤ 1) → (Q (-2) x)) ∧ ((0 ≤ l2 ∧ l2 ≤ 1) → ((¬ (0 ≤ l3 ∧ l3 ≤ gi x b0_1 0 - 1) → (Q (-2) x)) ∧ ((0 ≤ l3 ∧ l3 ≤ gi x b0_1 0 - 1) → ((¬ (0 ≤ l4 ∧ l4 ≤ gi x b0_1 0 - 1) → (Q (-2) x)) ∧ ((0 ≤ l4 ∧ l4 ≤ gi x b0_1 0 - 1) → ((l3 ≤ l4 → (GI mX8_fitting 50 [some (.ref b0), some (.int l1), some (.int l2), some (.int l3), some (.int l4), some (.int 0), some (.int 0)] [] K x Q)) ∧ (¬ l3 ≤ l4 → (Q (-2) x)))))))))))) : mSI mX8_fitting [.ref b0, .int l1, .int l2, .int l3, .int l4] K x Q := by
  refine s_I (by decide) (by simp [Value.category]) (Nat.le_of_ble_eq_true rfl) ?_
  show mGM mX8_fitting 0 [some (.ref b0), some (.int l1), some (.int l2), some (.int l3), some (.int l4), none, none] [] (hp K x) (PI K Q)
  refine r_aload_n (pc := 0) dX8_fitting_0 rfl ?_
  refine r_iload_n (pc := 1) dX8_fitting_1 rfl ?_
  obtain ⟨i_1, K0⟩ := K0
  refine s_VI (pc := 2) mX8_isDay (ci := 8) (a := b0) (As := [.int l1]) dX8_fitting_2 lk_X8_61 in_X8_isDay mo_X8_isDay ⟨by decide, rfl⟩ ⟨by decide, by decide⟩ (Nat.le_of_ble_eq_true rfl) k_b0 (sp_X8_isDay k_b0 g_b0_1 k_b0_1 i_1 ?_)
  refine r_if_eq (pc := 5) (tgt := 41) dX8_fitting_5 (by decide) (fun q => ?_) (fun q => ?_)
  · have q := (b2i_z _).mp q
    have K0 := K0.1 q
    refine r_bipush (pc := 41) (v := (-2)) dX8_fitting_41 (by decide) ?_
    exact s_iret rfl dX8_fitting_43 K0
  · have q := b2i_nz q
    have K0 := K0.2 q
    refine r_iload_n (pc := 8) dX8_fitting_8 rfl ?_
    refine r_i2l (pc := 9) dX8_fitting_9 ?_
    refine r_lconst (pc := 10) (v := 0) dX8_fitting_10 (by decide) ?_
    refine r_lconst (pc := 11) (v := 1) dX8_fitting_11 (by decide) ?_
    refine s_SI (pc := 12) mX8_in (As := [.long ((l2 : Int32).toInt64), .long 0, .long 1]) dX8_fitting_12 lk_X8_45 st_X8_in mo_X8_in ⟨by decide, by decide⟩ (Nat.le_of_ble_eq_true rfl) (sq_X8_in (v := l2) (lo := 0) (hi := 1) rfl (by decide) (by decide) ?_)
    refine r_if_eq (pc := 15) (tgt := 41) dX8_fitting_15 (by decide) (fun q => ?_) (fun q => ?_)
    · have q := (b2i_z _).mp q
      have K0 := K0.1 q
      refine r_bipush (pc := 41) (v := (-2)) dX8_fitting_41 (by decide) ?_
      exact s_iret rfl dX8_fitting_43 K0
    · have q := b2i_nz q
      have K0 := K0.2 q
      refine r_aload_n (pc := 18) dX8_fitting_18 rfl ?_
      refine r_iload_n (pc := 19) dX8_fitting_19 rfl ?_
      refine s_VI (pc := 20) mX8_isWeek (ci := 8) (a := b0) (As := [.int l3]) dX8_fitting_20 lk_X8_57 in_X8_isWeek mo_X8_isWeek ⟨by decide, rfl⟩ ⟨by decide, by decide⟩ (Nat.le_of_ble_eq_true rfl) k_b0 (sp_X8_isWeek k_b0 g_b0_1 k_b0_1 i_1 ?_)
      refine r_if_eq (pc := 23) (tgt := 41) dX8_fitting_23 (by decide) (fun q => ?_) (fun q => ?_)
      · have q := (b2i_z _).mp q
        have K0 := K0.1 q
        refine r_bipush (pc := 41) (v := (-2)) dX8_fitting_41 (by decide) ?_
        exact s_iret rfl dX8_fitting_43 K0
      · have q := b2i_nz q
        have K0 := K0.2 q
        refine r_aload_n (pc := 26) dX8_fitting_26 rfl ?_
        refine r_iload (pc := 27) dX8_fitting_27 rfl ?_
        refine s_VI (pc := 29) mX8_isWeek (ci := 8) (a := b0) (As := [.int l4]) dX8_fitting_29 lk_X8_57 in_X8_isWeek mo_X8_isWeek ⟨by decide, rfl⟩ ⟨by decide, by decide⟩ (Nat.le_of_ble_eq_true rfl) k_b0 (sp_X8_isWeek k_b0 g_b0_1 k_b0_1 i_1 ?_)
        refine r_if_eq (pc := 32) (tgt := 41) dX8_fitting_32 (by decide) (fun q => ?_) (fun q => ?_)
        · have q := (b2i_z _).mp q
          have K0 := K0.1 q
          refine r_bipush (pc := 41) (v := (-2)) dX8_fitting_41 (by decide) ?_
          exact s_iret rfl dX8_fitting_43 K0
        · have q := b2i_nz q
          have K0 := K0.2 q
          refine r_iload (pc := 35) dX8_fitting_35 rfl ?_
          refine r_iload_n (pc := 37) dX8_fitting_37 rfl ?_
          refine r_icmp_ge (pc := 38) (tgt := 44) dX8_fitting_38 (by decide) (fun q => ?_) (fun q => ?_)
          · have K0 := K0.1 q
            refine r_iconst (pc := 44) (v := 0) dX8_fitting_44 (by decide) ?_
            refine r_istore (pc := 45) dX8_fitting_45 (by decide) ?_
            refine r_iconst (pc := 47) (L := [some (.ref b0), some (.int l1), some (.int l2), some (.int l3), some (.int l4), some (.int 0), none]) (v := 0) dX8_fitting_47 (by decide) ?_
            refine r_istore (pc := 48) dX8_fitting_48 (by decide) ?_
            exact r_le (L' := [some (.ref b0), some (.int l1), some (.int l2), some (.int l3), some (.int l4), some (.int 0), some (.int 0)]) ⟨rfl, ⟨rfl, ⟨rfl, ⟨rfl, ⟨rfl, ⟨rfl, ⟨rfl, trivial⟩⟩⟩⟩⟩⟩⟩ K0
          · have K0 := K0.2 q
            refine r_bipush (pc := 41) (v := (-2)) dX8_fitting_41 (by decide) ?_
            exact s_iret rfl dX8_fitting_43 K0
set_option maxHeartbeats 2000000 in
theorem v_X8_fitting_50 {K : Sh} {x : Cn} {Q : Int32 → Cn → Prop} {b0 : Nat} {l1 : Int32} {l2 : Int32} {l3 : Int32} {l4 : Int32} {l5 : Int32} {l6 : Int32}  (k_b0 : kk K b0 = some (8, 0)) (K0 : (24 ≤ l6 → (Q l5 x)) ∧ (¬ 24 ≤ l6 → (mSI mX8_canBe [.ref b0, .int (f_span l3 l4), .int l1, .int l6, .int l2, .int (-1)] K x (fun r_3 y_2 => (r_3 = 0 → (GI mX8_fitting 50 [some (.ref b0), some (.int l1), some (.int l2), some (.int l3), some (.int l4), some (.int (l5 ||| 0)), some (.int (l6 + 1))] [] K y_2 Q)) ∧ (¬ r_3 = 0 → (GI mX8_fitting 50 [some (.ref b0), some (.int l1), some (.int l2), some (.int l3), some (.int l4), some (.int (l5 ||| (1 <<< (l6 &&& 31)))), some (.int (l6 + 1))] [] K y_2 Q)))))) : GI mX8_fitting 50 [some (.ref b0), some (.int l1), some (.int l2), some (.int l3), some (.int l4), some (.int l5), some (.int l6)] [] K x Q := by
  show mGM mX8_fitting 50 [some (.ref b0), some (.int l1), some (.int l2), some (.int l3), some (.int l4), some (.int l5), some (.int l6)] [] (hp K x) (PI K Q)
  refine r_iload (pc := 50) dX8_fitting_50 rfl ?_
  refine r_bipush (pc := 52) (v := 24) dX8_fitting_52 (by decide) ?_
  refine r_icmp_ge (pc := 54) (tgt := 94) dX8_fitting_54 (by decide) (fun q => ?_) (fun q => ?_)
  · have K0 := K0.1 q
    refine r_iload (pc := 94) dX8_fitting_94 rfl ?_
    exact s_iret rfl dX8_fitting_96 K0
  · have K0 := K0.2 q
    refine r_iload (pc := 57) dX8_fitting_57 rfl ?_
    refine r_aload_n (pc := 59) dX8_fitting_59 rfl ?_
    refine r_iload_n (pc := 60) dX8_fitting_60 rfl ?_
    refine r_iload (pc := 61) dX8_fitting_61 rfl ?_
    refine s_SI (pc := 63) mX8_span (As := [.int l3, .int l4]) dX8_fitting_63 lk_X8_79 st_X8_span mo_X8_span ⟨by decide, by decide⟩ (Nat.le_of_ble_eq_true rfl) (sp_X8_span  ?_)
    refine r_iload_n (pc := 66) dX8_fitting_66 rfl ?_
    refine r_iload (pc := 67) dX8_fitting_67 rfl ?_
    refine r_iload_n (pc := 69) dX8_fitting_69 rfl ?_
    refine r_iconst (pc := 70) (v := (-1)) dX8_fitting_70 (by decide) ?_
    refine s_VI (pc := 71) mX8_canBe (ci := 8) (a := b0) (As := [.int (f_span l3 l4), .int l1, .int l6, .int l2, .int (-1)]) dX8_fitting_71 lk_X8_90 in_X8_canBe mo_X8_canBe ⟨by decide, rfl⟩ ⟨by decide, by decide⟩ (Nat.le_of_ble_eq_true rfl) k_b0 (mSI_mono K0 (fun r_3 y_2 K0 => ?_))
    refine r_if_eq (pc := 74) (tgt := 84) dX8_fitting_74 (by decide) (fun q => ?_) (fun q => ?_)
    · have K0 := K0.1 q
      refine r_iconst (pc := 84) (v := 0) dX8_fitting_84 (by decide) ?_
      refine r_ior (pc := 85) dX8_fitting_85 ?_
      refine r_istore (pc := 86) dX8_fitting_86 (by decide) ?_
      refine r_iinc (pc := 88) (L := [some (.ref b0), some (.int l1), some (.int l2), some (.int l3), some (.int l4), some (.int (l5 ||| 0)), some (.int l6)]) (v := l6 + 1) dX8_fitting_88 rfl rfl (by decide) ?_
      refine r_goto (pc := 91) (L := [some (.ref b0), some (.int l1), some (.int l2), some (.int l3), some (.int l4), some (.int (l5 ||| 0)), some (.int (l6 + 1))]) (tgt := 50) dX8_fitting_91 (by decide) ?_
      exact r_le (L' := [some (.ref b0), some (.int l1), some (.int l2), some (.int l3), some (.int l4), some (.int (l5 ||| 0)), some (.int (l6 + 1))]) ⟨rfl, ⟨rfl, ⟨rfl, ⟨rfl, ⟨rfl, ⟨rfl, ⟨rfl, trivial⟩⟩⟩⟩⟩⟩⟩ K0
    · have K0 := K0.2 q
      refine r_iconst (pc := 77) (v := 1) dX8_fitting_77 (by decide) ?_
      refine r_iload (pc := 78) dX8_fitting_78 rfl ?_
      refine r_ishl (pc := 80) dX8_fitting_80 ?_
      refine r_goto (pc := 81) (tgt := 85) dX8_fitting_81 (by decide) ?_
      refine r_ior (pc := 85) dX8_fitting_85 ?_
      refine r_istore (pc := 86) dX8_fitting_86 (by decide) ?_
      refine r_iinc (pc := 88) (L := [some (.ref b0), some (.int l1), some (.int l2), some (.int l3), some (.int l4), some (.int (l5 ||| (1 <<< (l6 &&& 31)))), some (.int l6)]) (v := l6 + 1) dX8_fitting_88 rfl rfl (by decide) ?_
      refine r_goto (pc := 91) (L := [some (.ref b0), some (.int l1), some (.int l2), some (.int l3), some (.int l4), some (.int (l5 ||| (1 <<< (l6 &&& 31)))), some (.int (l6 + 1))]) (tgt := 50) dX8_fitting_91 (by decide) ?_
      exact r_le (L' := [some (.ref b0), some (.int l1), some (.int l2), some (.int l3), some (.int l4), some (.int (l5 ||| (1 <<< (l6 &&& 31)))), some (.int (l6 + 1))]) ⟨rfl, ⟨rfl, ⟨rfl, ⟨rfl, ⟨rfl, ⟨rfl, ⟨rfl, trivial⟩⟩⟩⟩⟩⟩⟩ K0
set_option maxHeartbeats 2000000 in
theorem v_X7_blocked_0 {K : Sh} {x : Cn} {Q : Int32 → Cn → Prop} {b0 : Nat} {l1 : Int32} {b0_2 : Nat} {b0_2_8 : Nat} {n_b0_2_8 : Nat} (k_b0 : kk K b0 = some (7, 0)) (g_b0_2 : gr x b0 2 = some b0_2) (k_b0_2 : kk K b0_2 = some (4, 0)) (g_b0_2_8 : gr x b0_2 8 = some b0_2_8) (k_b0_2_8 : kk K b0_2_8 = some (24, n_b0_2_8)) (K0 : ((0 ≤ l1 ∧ l1 < gi x b0_2 4) → (vp_in l1 n_b0_2_8 ∧ (∃ c_3 : Nat, gr x b0_2_8 ((l1 : Int32).toNatClampNeg) = some c_3 ∧ (kk K c_3 = some (0, 0) ∧ (mSI mX4_hasPlaceFor [.ref b0_2, .ref c_3, .int (gi x c_3 2), .int 0] K x (fun r_7 y_6 => (r_7 = 0 → (GI mX7_blocked 44 [some (.ref b0), some (.int l1), some (.ref c_3), some (.int 0), some (.int 0)] [] K y_6 Q)) ∧ (¬ r_7 = 0 → (Q 0 y_6)))))))) ∧ (¬ (0 ≤ l1 ∧ l1 < gi x b0_2 4) → (Q (-2) x))) : mSI mX7_blocked [.ref b0, .int l1] K x Q := by
  refine s_I (by decide) (by simp [Value.category]) (Nat.le_of_ble_eq_true rfl) ?_
  show mGM mX7_blocked 0 [some (.ref b0), some (.int l1), none, none, none] [] (hp K x) (PI K Q)
  refine r_aload_n (pc := 0) dX7_blocked_0 rfl ?_
  refine r_iload_n (pc := 1) dX7_blocked_1 rfl ?_
  refine s_VI (pc := 2) mX7_isAsk (ci := 7) (a := b0) (As := [.int l1]) dX7_blocked_2 lk_X7_173 in_X7_isAsk mo_X7_isAsk ⟨by decide, rfl⟩ ⟨by decide, by decide⟩ (Nat.le_of_ble_eq_true rfl) k_b0 (sp_X7_isAsk k_b0 g_b0_2 k_b0_2 ?_)
  refine r_if_ne (pc := 5) (tgt := 11) dX7_blocked_5 (by decide) (fun q => ?_) (fun q => ?_)
  · have q := b2i_nz q
    have K0 := K0.1 q
    refine r_aload_n (pc := 11) dX7_blocked_11 rfl ?_
    refine s_getR (pc := 12) dX7_blocked_12 fl_X7_20 rfl k_b0 g_b0_2 ?_
    refine s_getR (pc := 15) dX7_blocked_15 fl_X7_176 rfl k_b0_2 g_b0_2_8 ?_
    refine r_iload_n (pc := 18) dX7_blocked_18 rfl ?_
    obtain ⟨i_2, K0⟩ := K0
    obtain ⟨c_3, g_4, K0⟩ := K0
    refine s_aald (pc := 19) dX7_blocked_19 (by decide) rfl k_b0_2_8 i_2 g_4 ?_
    refine r_astore_n (pc := 20) dX7_blocked_20 (by decide) ?_
    refine r_aload_n (pc := 21) (L := [some (.ref b0), some (.int l1), some (.ref c_3), none, none]) dX7_blocked_21 rfl ?_
    refine s_getR (pc := 22) dX7_blocked_22 fl_X7_20 rfl k_b0 g_b0_2 ?_
    refine r_aload_n (pc := 25) dX7_blocked_25 rfl ?_
    refine r_aload_n (pc := 26) dX7_blocked_26 rfl ?_
    obtain ⟨e_5, K0⟩ := K0
    refine s_getI (pc := 27) dX7_blocked_27 fl_X7_184 rfl e_5 ?_
    refine r_iconst (pc := 30) (v := 0) dX7_blocked_30 (by decide) ?_
    refine s_VI (pc := 31) mX4_hasPlaceFor (ci := 4) (a := b0_2) (As := [.ref c_3, .int (gi x c_3 2), .int 0]) dX7_blocked_31 lk_X7_299 in_X4_hasPlaceFor mo_X4_hasPlaceFor ⟨by decide, rfl⟩ ⟨by decide, by decide⟩ (Nat.le_of_ble_eq_true rfl) k_b0_2 (mSI_mono K0 (fun r_7 y_6 K0 => ?_))
    refine r_if_eq (pc := 34) (tgt := 39) dX7_blocked_34 (by decide) (fun q => ?_) (fun q => ?_)
    · have K0 := K0.1 q
      refine r_iconst (pc := 39) (v := 0) dX7_blocked_39 (by decide) ?_
      refine r_istore_n (pc := 40) dX7_blocked_40 (by decide) ?_
      refine r_iconst (pc := 41) (L := [some (.ref b0), some (.int l1), some (.ref c_3), some (.int 0), none]) (v := 0) dX7_blocked_41 (by decide) ?_
      refine r_istore (pc := 42) dX7_blocked_42 (by decide) ?_
      exact r_le (L' := [some (.ref b0), some (.int l1), some (.ref c_3), some (.int 0), some (.int 0)]) ⟨rfl, ⟨rfl, ⟨rfl, ⟨rfl, ⟨rfl, trivial⟩⟩⟩⟩⟩ K0
    · have K0 := K0.2 q
      refine r_iconst (pc := 37) (v := 0) dX7_blocked_37 (by decide) ?_
      exact s_iret rfl dX7_blocked_38 K0
  · have q := (b2i_z _).mp q
    have K0 := K0.2 q
    refine r_bipush (pc := 8) (v := (-2)) dX7_blocked_8 (by decide) ?_
    exact s_iret rfl dX7_blocked_10 K0
set_option maxHeartbeats 2000000 in
theorem v_X7_blocked_44 {K : Sh} {x : Cn} {Q : Int32 → Cn → Prop} {b0 : Nat} {l1 : Int32} {b2 : Nat} {l3 : Int32} {l4 : Int32} {b0_2 : Nat} (k_b0 : kk K b0 = some (7, 0)) (g_b0_2 : gr x b0 2 = some b0_2) (k_b0_2 : kk K b0_2 = some (4, 0)) (k_b2 : kk K b2 = some (0, 0)) (K0 : ((gi x b0_2 3) ≤ l4 → (Q l3 x)) ∧ (¬ (gi x b0_2 3) ≤ l4 → (mSI mX4_hasPlaceFor [.ref b0_2, .ref b2, .int (gi x b2 2), .int (1 <<< (l4 &&& 31))] K x (fun r_3 y_2 => (r_3 = 0 → (GI mX7_blocked 44 [some (.ref b0), some (.int l1), some (.ref b2), some (.int l3), some (.int (l4 + 1))] [] K y_2 Q)) ∧ (¬ r_3 = 0 → (GI mX7_blocked 44 [some (.ref b0), some (.int l1), some (.ref b2), some (.int (l3 ||| (1 <<< (l4 &&& 31)))), some (.int (l4 + 1))] [] K y_2 Q)))))) : GI mX7_blocked 44 [some (.ref b0), some (.int l1), some (.ref b2), some (.int l3), some (.int l4)] [] K x Q := by
  show mGM mX7_blocked 44 [some (.ref b0), some (.int l1), some (.ref b2), some (.int l3), some (.int l4)] [] (hp K x) (PI K Q)
  refine r_iload (pc := 44) dX7_blocked_44 rfl ?_
  refine r_aload_n (pc := 46) dX7_blocked_46 rfl ?_
  refine s_getR (pc := 47) dX7_blocked_47 fl_X7_20 rfl k_b0 g_b0_2 ?_
  refine s_getI (pc := 50) dX7_blocked_50 fl_X7_97 rfl k_b0_2 ?_
  refine r_icmp_ge (pc := 53) (tgt := 88) dX7_blocked_53 (by decide) (fun q => ?_) (fun q => ?_)
  · have K0 := K0.1 q
    refine r_iload_n (pc := 88) dX7_blocked_88 rfl ?_
    exact s_iret rfl dX7_blocked_89 K0
  · have K0 := K0.2 q
    refine r_aload_n (pc := 56) dX7_blocked_56 rfl ?_
    refine s_getR (pc := 57) dX7_blocked_57 fl_X7_20 rfl k_b0 g_b0_2 ?_
    refine r_aload_n (pc := 60) dX7_blocked_60 rfl ?_
    refine r_aload_n (pc := 61) dX7_blocked_61 rfl ?_
    refine s_getI (pc := 62) dX7_blocked_62 fl_X7_184 rfl k_b2 ?_
    refine r_iconst (pc := 65) (v := 1) dX7_blocked_65 (by decide) ?_
    refine r_iload (pc := 66) dX7_blocked_66 rfl ?_
    refine r_ishl (pc := 68) dX7_blocked_68 ?_
    refine s_VI (pc := 69) mX4_hasPlaceFor (ci := 4) (a := b0_2) (As := [.ref b2, .int (gi x b2 2), .int (1 <<< (l4 &&& 31))]) dX7_blocked_69 lk_X7_299 in_X4_hasPlaceFor mo_X4_hasPlaceFor ⟨by decide, rfl⟩ ⟨by decide, by decide⟩ (Nat.le_of_ble_eq_true rfl) k_b0_2 (mSI_mono K0 (fun r_3 y_2 K0 => ?_))
    refine r_if_eq (pc := 72) (tgt := 82) dX7_blocked_72 (by decide) (fun q => ?_) (fun q => ?_)
    · have K0 := K0.1 q
      refine r_iinc (pc := 82) (v := l4 + 1) dX7_blocked_82 rfl rfl (by decide) ?_
      refine r_goto (pc := 85) (L := [some (.ref b0), some (.int l1), some (.ref b2), some (.int l3), some (.int (l4 + 1))]) (tgt := 44) dX7_blocked_85 (by decide) ?_
      exact r_le (L' := [some (.ref b0), some (.int l1), some (.ref b2), some (.int l3), some (.int (l4 + 1))]) ⟨rfl, ⟨rfl, ⟨rfl, ⟨rfl, ⟨rfl, trivial⟩⟩⟩⟩⟩ K0
    · have K0 := K0.2 q
      refine r_iload_n (pc := 75) dX7_blocked_75 rfl ?_
      refine r_iconst (pc := 76) (v := 1) dX7_blocked_76 (by decide) ?_
      refine r_iload (pc := 77) dX7_blocked_77 rfl ?_
      refine r_ishl (pc := 79) dX7_blocked_79 ?_
      refine r_ior (pc := 80) dX7_blocked_80 ?_
      refine r_istore_n (pc := 81) dX7_blocked_81 (by decide) ?_
      refine r_iinc (pc := 82) (L := [some (.ref b0), some (.int l1), some (.ref b2), some (.int (l3 ||| (1 <<< (l4 &&& 31)))), some (.int l4)]) (v := l4 + 1) dX7_blocked_82 rfl rfl (by decide) ?_
      refine r_goto (pc := 85) (L := [some (.ref b0), some (.int l1), some (.ref b2), some (.int (l3 ||| (1 <<< (l4 &&& 31)))), some (.int (l4 + 1))]) (tgt := 44) dX7_blocked_85 (by decide) ?_
      exact r_le (L' := [some (.ref b0), some (.int l1), some (.ref b2), some (.int (l3 ||| (1 <<< (l4 &&& 31)))), some (.int (l4 + 1))]) ⟨rfl, ⟨rfl, ⟨rfl, ⟨rfl, ⟨rfl, trivial⟩⟩⟩⟩⟩ K0
set_option maxHeartbeats 2000000 in
theorem v_X8_blocked_0 {K : Sh} {x : Cn} {Q : Int32 → Cn → Prop} {b0 : Nat} {l1 : Int32} {b0_1 : Nat} {n_b0_1 : Nat} {b0_3 : Nat} {n_b0_3 : Nat} (k_b0 : kk K b0 = some (8, 0)) (g_b0_1 : gr x b0 1 = some b0_1) (k_b0_1 : kk K b0_1 = some (20, n_b0_1)) (g_b0_3 : gr x b0 3 = some b0_3) (k_b0_3 : kk K b0_3 = some (20, n_b0_3)) (K0 : vp_in 3 n_b0_1 ∧ (((0 ≤ l1 ∧ l1 ≤ gi x b0_1 3 - 1) → ((l24 l1 n_b0_3) ∧ (((f_span (ao (gi x b0_3) (l1 : Int32).toNatClampNeg 4) (ao (gi x b0_3) (l1 : Int32).toNatClampNeg 5) &&& f_span (gi x b0_3 4) (gi x b0_3 0 - 1)) = 0 → (Q 0 x)) ∧ (¬ (f_span (ao (gi x b0_3) (l1 : Int32).toNatClampNeg 4) (ao (gi x b0_3) (l1 : Int32).toNatClampNeg 5) &&& f_span (gi x b0_3 4) (gi x b0_3 0 - 1)) = 0 → (mSI mX8_canAsk [.ref b0, .int l1, .int (ao (gi x b0_3) (l1 : Int32).toNatClampNeg 2), .int (-1)] K x (fun r_6 y_5 => (r_6 = 0 → (GI mX8_blocked 40 [some (.ref b0), some (.int l1), some (.int 0), some (.int 0)] [] K y_5 Q)) ∧ (¬ r_6 = 0 → (Q 0 y_5)))))))) ∧ (¬ (0 ≤ l1 ∧ l1 ≤ gi x b0_1 3 - 1) → (Q (-2) x)))) : mSI mX8_blocked [.ref b0, .int l1] K x Q := by
  refine s_I (by decide) (by simp [Value.category]) (Nat.le_of_ble_eq_true rfl) ?_
  show mGM mX8_blocked 0 [some (.ref b0), some (.int l1), none, none] [] (hp K x) (PI K Q)
  refine r_aload_n (pc := 0) dX8_blocked_0 rfl ?_
  refine r_iload_n (pc := 1) dX8_blocked_1 rfl ?_
  obtain ⟨i_1, K0⟩ := K0
  refine s_VI (pc := 2) mX8_isAsk (ci := 8) (a := b0) (As := [.int l1]) dX8_blocked_2 lk_X8_281 in_X8_isAsk mo_X8_isAsk ⟨by decide, rfl⟩ ⟨by decide, by decide⟩ (Nat.le_of_ble_eq_true rfl) k_b0 (sp_X8_isAsk k_b0 g_b0_1 k_b0_1 i_1 ?_)
  refine r_if_ne (pc := 5) (tgt := 11) dX8_blocked_5 (by decide) (fun q => ?_) (fun q => ?_)
  · have q := b2i_nz q
    have K0 := K0.1 q
    refine r_aload_n (pc := 11) dX8_blocked_11 rfl ?_
    refine r_iload_n (pc := 12) dX8_blocked_12 rfl ?_
    obtain ⟨p_3, K0⟩ := K0
    refine s_VI (pc := 13) mX8_weeksOf (ci := 8) (a := b0) (As := [.int l1]) dX8_blocked_13 lk_X8_326 in_X8_weeksOf mo_X8_weeksOf ⟨by decide, rfl⟩ ⟨by decide, by decide⟩ (Nat.le_of_ble_eq_true rfl) k_b0 (sr_X8_weeksOf k_b0 g_b0_3 k_b0_3 p_3 ?_)
    refine r_if_eq (pc := 16) (tgt := 34) dX8_blocked_16 (by decide) (fun q => ?_) (fun q => ?_)
    · have K0 := K0.1 q
      refine r_iconst (pc := 34) (v := 0) dX8_blocked_34 (by decide) ?_
      exact s_iret rfl dX8_blocked_35 K0
    · have K0 := K0.2 q
      refine r_aload_n (pc := 19) dX8_blocked_19 rfl ?_
      refine r_iload_n (pc := 20) dX8_blocked_20 rfl ?_
      refine r_aload_n (pc := 21) dX8_blocked_21 rfl ?_
      refine r_iload_n (pc := 22) dX8_blocked_22 rfl ?_
      refine r_iconst (pc := 23) (v := 2) dX8_blocked_23 (by decide) ?_
      refine s_VI (pc := 24) mX8_ask0 (ci := 8) (a := b0) (As := [.int l1, .int 2]) dX8_blocked_24 lk_X8_284 in_X8_ask0 mo_X8_ask0 ⟨by decide, rfl⟩ ⟨by decide, by decide⟩ (Nat.le_of_ble_eq_true rfl) k_b0 (sr_X8_ask0 k_b0 g_b0_3 k_b0_3 p_3 ⟨by decide, by decide⟩ ?_)
      refine r_iconst (pc := 27) (v := (-1)) dX8_blocked_27 (by decide) ?_
      refine s_VI (pc := 28) mX8_canAsk (ci := 8) (a := b0) (As := [.int l1, .int (ao (gi x b0_3) (l1 : Int32).toNatClampNeg 2), .int (-1)]) dX8_blocked_28 lk_X8_329 in_X8_canAsk mo_X8_canAsk ⟨by decide, rfl⟩ ⟨by decide, by decide⟩ (Nat.le_of_ble_eq_true rfl) k_b0 (mSI_mono K0 (fun r_6 y_5 K0 => ?_))
      refine r_if_eq (pc := 31) (tgt := 36) dX8_blocked_31 (by decide) (fun q => ?_) (fun q => ?_)
      · have K0 := K0.1 q
        refine r_iconst (pc := 36) (v := 0) dX8_blocked_36 (by decide) ?_
        refine r_istore_n (pc := 37) dX8_blocked_37 (by decide) ?_
        refine r_iconst (pc := 38) (L := [some (.ref b0), some (.int l1), some (.int 0), none]) (v := 0) dX8_blocked_38 (by decide) ?_
        refine r_istore_n (pc := 39) dX8_blocked_39 (by decide) ?_
        exact r_le (L' := [some (.ref b0), some (.int l1), some (.int 0), some (.int 0)]) ⟨rfl, ⟨rfl, ⟨rfl, ⟨rfl, trivial⟩⟩⟩⟩ K0
      · have K0 := K0.2 q
        refine r_iconst (pc := 34) (v := 0) dX8_blocked_34 (by decide) ?_
        exact s_iret rfl dX8_blocked_35 K0
  · have q := (b2i_z _).mp q
    have K0 := K0.2 q
    refine r_bipush (pc := 8) (v := (-2)) dX8_blocked_8 (by decide) ?_
    exact s_iret rfl dX8_blocked_10 K0
set_option maxHeartbeats 2000000 in
theorem v_X8_blocked_40 {K : Sh} {x : Cn} {Q : Int32 → Cn → Prop} {b0 : Nat} {l1 : Int32} {l2 : Int32} {l3 : Int32} {b0_1 : Nat} {n_b0_1 : Nat} {b0_3 : Nat} {n_b0_3 : Nat} (k_b0 : kk K b0 = some (8, 0)) (g_b0_1 : gr x b0 1 = some b0_1) (k_b0_1 : kk K b0_1 = some (20, n_b0_1)) (g_b0_3 : gr x b0 3 = some b0_3) (k_b0_3 : kk K b0_3 = some (20, n_b0_3)) (K0 : vp_in 2 n_b0_1 ∧ (((gi x b0_1 2) ≤ l3 → (Q l2 x)) ∧ (¬ (gi x b0_1 2) ≤ l3 → ((l24 l1 n_b0_3) ∧ (mSI mX8_canAsk [.ref b0, .int l1, .int (ao (gi x b0_3) (l1 : Int32).toNatClampNeg 2), .int l3] K x (fun r_5 y_4 => (r_5 = 0 → (GI mX8_blocked 40 [some (.ref b0), some (.int l1), some (.int (l2 ||| 0)), some (.int (l3 + 1))] [] K y_4 Q)) ∧ (¬ r_5 = 0 → (GI mX8_blocked 40 [some (.ref b0), some (.int l1), some (.int (l2 ||| (1 <<< (l3 &&& 31)))), some (.int (l3 + 1))] [] K y_4 Q)))))))) : GI mX8_blocked 40 [some (.ref b0), some (.int l1), some (.int l2), some (.int l3)] [] K x Q := by
  show mGM mX8_blocked 40 [some (.ref b0), some (.int l1), some (.int l2), some (.int l3)] [] (hp K x) (PI K Q)
  refine r_iload_n (pc := 40) dX8_blocked_40 rfl ?_
  refine r_aload_n (pc := 41) dX8_blocked_41 rfl ?_
  refine s_getR (pc := 42) dX8_blocked_42 fl_X8_9 rfl k_b0 g_b0_1 ?_
  refine r_iconst (pc := 45) (v := 2) dX8_blocked_45 (by decide) ?_
  obtain ⟨i_1, K0⟩ := K0
  refine s_iald (pc := 46) dX8_blocked_46 k_b0_1 i_1 ?_
  refine r_icmp_ge (pc := 47) (tgt := 81) dX8_blocked_47 (by decide) (fun q => ?_) (fun q => ?_)
  · have K0 := K0.1 q
    refine r_iload_n (pc := 81) dX8_blocked_81 rfl ?_
    exact s_iret rfl dX8_blocked_82 K0
  · have K0 := K0.2 q
    refine r_iload_n (pc := 50) dX8_blocked_50 rfl ?_
    refine r_aload_n (pc := 51) dX8_blocked_51 rfl ?_
    refine r_iload_n (pc := 52) dX8_blocked_52 rfl ?_
    refine r_aload_n (pc := 53) dX8_blocked_53 rfl ?_
    refine r_iload_n (pc := 54) dX8_blocked_54 rfl ?_
    refine r_iconst (pc := 55) (v := 2) dX8_blocked_55 (by decide) ?_
    obtain ⟨p_3, K0⟩ := K0
    refine s_VI (pc := 56) mX8_ask0 (ci := 8) (a := b0) (As := [.int l1, .int 2]) dX8_blocked_56 lk_X8_284 in_X8_ask0 mo_X8_ask0 ⟨by decide, rfl⟩ ⟨by decide, by decide⟩ (Nat.le_of_ble_eq_true rfl) k_b0 (sr_X8_ask0 k_b0 g_b0_3 k_b0_3 p_3 ⟨by decide, by decide⟩ ?_)
    refine r_iload_n (pc := 59) dX8_blocked_59 rfl ?_
    refine s_VI (pc := 60) mX8_canAsk (ci := 8) (a := b0) (As := [.int l1, .int (ao (gi x b0_3) (l1 : Int32).toNatClampNeg 2), .int l3]) dX8_blocked_60 lk_X8_329 in_X8_canAsk mo_X8_canAsk ⟨by decide, rfl⟩ ⟨by decide, by decide⟩ (Nat.le_of_ble_eq_true rfl) k_b0 (mSI_mono K0 (fun r_5 y_4 K0 => ?_))
    refine r_if_eq (pc := 63) (tgt := 72) dX8_blocked_63 (by decide) (fun q => ?_) (fun q => ?_)
    · have K0 := K0.1 q
      refine r_iconst (pc := 72) (v := 0) dX8_blocked_72 (by decide) ?_
      refine r_ior (pc := 73) dX8_blocked_73 ?_
      refine r_istore_n (pc := 74) dX8_blocked_74 (by decide) ?_
      refine r_iinc (pc := 75) (L := [some (.ref b0), some (.int l1), some (.int (l2 ||| 0)), some (.int l3)]) (v := l3 + 1) dX8_blocked_75 rfl rfl (by decide) ?_
      refine r_goto (pc := 78) (L := [some (.ref b0), some (.int l1), some (.int (l2 ||| 0)), some (.int (l3 + 1))]) (tgt := 40) dX8_blocked_78 (by decide) ?_
      exact r_le (L' := [some (.ref b0), some (.int l1), some (.int (l2 ||| 0)), some (.int (l3 + 1))]) ⟨rfl, ⟨rfl, ⟨rfl, ⟨rfl, trivial⟩⟩⟩⟩ K0
    · have K0 := K0.2 q
      refine r_iconst (pc := 66) (v := 1) dX8_blocked_66 (by decide) ?_
      refine r_iload_n (pc := 67) dX8_blocked_67 rfl ?_
      refine r_ishl (pc := 68) dX8_blocked_68 ?_
      refine r_goto (pc := 69) (tgt := 73) dX8_blocked_69 (by decide) ?_
      refine r_ior (pc := 73) dX8_blocked_73 ?_
      refine r_istore_n (pc := 74) dX8_blocked_74 (by decide) ?_
      refine r_iinc (pc := 75) (L := [some (.ref b0), some (.int l1), some (.int (l2 ||| (1 <<< (l3 &&& 31)))), some (.int l3)]) (v := l3 + 1) dX8_blocked_75 rfl rfl (by decide) ?_
      refine r_goto (pc := 78) (L := [some (.ref b0), some (.int l1), some (.int (l2 ||| (1 <<< (l3 &&& 31)))), some (.int (l3 + 1))]) (tgt := 40) dX8_blocked_78 (by decide) ?_
      exact r_le (L' := [some (.ref b0), some (.int l1), some (.int (l2 ||| (1 <<< (l3 &&& 31)))), some (.int (l3 + 1))]) ⟨rfl, ⟨rfl, ⟨rfl, ⟨rfl, trivial⟩⟩⟩⟩ K0
theorem eq_fits (a : Int32) : Both mX7_fits mX8_fits [.int a] := by
  intro x R
  obtain ⟨W, C, S, A, N, E, -, -⟩ := R.sea
  have hn := E.nums
  have hA : A ≤ 24 := hn.2.2.2.2.2.2.2.1
  have hW : W ≤ 30 := hn.2.2.2.2.1
  have hN : N ≤ W := hn.2.2.2.2.2.2.2.2
  have ia := inN' (v := a) (n := A) (by omega)
  let F : TT → Int32 := fun T => if 0 ≤ a ∧ a < nI A then (if nI N ≤ ao T a.toNatClampNeg 5 then bP (fitA T S N a.toNatClampNeg (ao T a.toNatClampNeg 2).toNatClampNeg 0) else -1) else -2
  have rf : ∀ y, EQx x y 7 → mSI mX8_fits [.ref 717, .int a] KW y (fun r' z => F (gi x 718) = r' ∧ Rel z) := by
    intro y hy
    obtain ⟨R2, eT⟩ := R.e7 hy
    have E2 := E.eqx hy (Or.inl rfl)
    rw [← eT] at E2 ⊢
    have ht := Rel.t2 E2
    refine v_X8_fits_0 km R2.2.1.1 km1 R2.2.1.2.2.1 km1 ⟨v0 (k := 3) (by decide) rfl rfl, ?_⟩
    rw [ht.2.2.2.1, ia]
    refine ⟨fun z => ?_, fun z => ⟨if_neg z, R2⟩⟩
    have eF : F (gi y 718) = (if nI N ≤ ao (gi y 718) a.toNatClampNeg 5 then bP (fitA (gi y 718) S N a.toNatClampNeg (ao (gi y 718) a.toNatClampNeg 2).toNatClampNeg 0) else -1) := if_pos z
    rw [eF]
    obtain ⟨i, hi, rfl⟩ := inN (by omega) z
    rw [nI_clamp (show i < 2 ^ 31 by omega)]
    obtain ⟨-, -, ⟨h, h1, h2⟩, -, ⟨f, l, f1, f2, f3, f4⟩, -⟩ := E2.2.2.2.2.2.2.2.2.2.2.2.2.2.2.2.2 i hi
    refine ⟨l24_nI (by omega) rfl, ?_⟩
    rw [f3, f4, ht.2.2.2.2, ht.1, span_and0 (by omega) f2 hW hN, h2, nI_clamp (show h < 2 ^ 31 by omega)]
    refine ⟨fun w => ?_, fun w => ⟨if_neg (nI_ge w (by omega)), R2⟩⟩
    rw [if_pos (nI_le (by omega) (by omega))]
    exact sp_X8_canAsk R2.2.1 km1 E2.2.2.2 hi h1 wo_0 ⟨fun g => ⟨g, R2⟩, fun g => ⟨(bP_01 _).resolve_left g, R2⟩⟩
  refine v_X7_fits_0 k0 R.1.2.1 (ks0 E.1) E.2.1.2.2.2.1 (ks4 E.1) ?_
  rw [hn.2.2.2.1, hn.2.1]
  refine ⟨fun z => ?_, fun z => ?_⟩
  · have eF : F (gi x 718) = (if nI N ≤ ao (gi x 718) a.toNatClampNeg 5 then bP (fitA (gi x 718) S N a.toNatClampNeg (ao (gi x 718) a.toNatClampNeg 2).toNatClampNeg 0) else -1) := if_pos z
    rw [eF] at rf
    obtain ⟨i, hi, rfl⟩ := inN (by omega) z
    rw [nI_clamp (show i < 2 ^ 31 by omega)] at rf ⊢
    obtain ⟨p, e1, e2, e3, e4⟩ := E.ask hi
    obtain ⟨-, -, ⟨h, h1, h2⟩, -⟩ := e4
    refine ⟨vp_in_nI (by omega) (by decide), p, e1, e2, ?_⟩
    rw [e3 5 (by decide), e3 2 (by decide), h2]
    rw [h2, nI_clamp (show h < 2 ^ 31 by omega)] at rf
    refine ⟨fun w => ?_, fun w => ?_⟩
    · rw [if_pos w] at rf
      exact sp_X4_hasPlaceFor E e2 e3 h1 (fun y hy => ⟨fun g => by have := rf y hy; rwa [g] at this, fun g => by have := rf y hy; rwa [(bP_01 _).resolve_left g] at this⟩)
    · have := rf x (EQx.rf _ _)
      rwa [if_neg w] at this
  · have eF : F (gi x 718) = -2 := if_neg z
    have := rf x (EQx.rf _ _)
    rwa [eF] at this
theorem eq_fitting (a b c d : Int32) : Both mX7_fitting mX8_fitting [.int a, .int b, .int c, .int d] := by
  intro x R
  obtain ⟨W, C, S, A, N, E, -, -⟩ := R.sea
  have hn := E.nums
  have hW : W ≤ 30 := hn.2.2.2.2.1
  have hN : N ≤ W := hn.2.2.2.2.2.2.2.2
  have ic := inN' (v := c) (n := W) (by omega)
  have id := inN' (v := d) (n := W) (by omega)
  have ib : (0 ≤ b ∧ b ≤ 1) ↔ (b = 0 ∨ b = 1) := by
    constructor
    · intro z
      obtain ⟨j, hj, rfl⟩ := nI_of2 (M := 1) (n := 1) (by decide) (Int32.not_lt.mpr z.1) z.2
      have : j = 0 ∨ j = 1 := by omega
      rcases this with rfl | rfl
      · exact Or.inl rfl
      · exact Or.inr rfl
    · rintro (rfl | rfl) <;> decide
  let OK : Prop := (0 < nI W ∧ 0 ≤ a ∧ a < 7) ∧ (b = 0 ∨ b = 1) ∧ (0 ≤ c ∧ c < nI W) ∧ (0 ≤ d ∧ d < nI W) ∧ c ≤ d
  let g : TT → Nat → Int32 → Int32 := fun T => orP (fun h => bP (fitC T S N a h b (f_sb c d) 0))
  have rf : ∀ y, EQx x y 7 → mSI mX8_fitting [.ref 717, .int a, .int b, .int c, .int d] KW y (fun r' z => ((OK → accT (g (gi x 718)) 24 0 = r') ∧ (¬ OK → -2 = r')) ∧ Rel z) := by
    intro y hy
    obtain ⟨R2, eT⟩ := R.e7 hy
    have E2 := E.eqx hy (Or.inl rfl)
    rw [← eT] at E2 ⊢
    have ht := Rel.t2 E2
    refine v_X8_fitting_0 km R2.2.1.1 km1 ⟨v0 (k := 0) (by decide) rfl rfl, ?_⟩
    rw [ht.1, d7, ib, ic, id]
    have no : ¬ OK → ((OK → accT (g (gi y 718)) 24 0 = -2) ∧ (¬ OK → (-2 : Int32) = -2)) ∧ Rel y := fun z => ⟨⟨fun w => absurd w z, fun _ => rfl⟩, R2⟩
    refine ⟨fun z => no (fun w => z w.1), fun z1 => ⟨fun z => no (fun w => z w.2.1), fun z2 => ⟨fun z => no (fun w => z w.2.2.1), fun z3 => ⟨fun z => no (fun w => z w.2.2.2.1), fun z4 => ⟨fun z5 => ?_, fun z => no (fun w => z w.2.2.2.2)⟩⟩⟩⟩⟩
    have ok : OK := ⟨z1, z2, z3, z4, z5⟩
    obtain ⟨f, hf, rfl⟩ := inN (by omega) z3
    obtain ⟨l, hl, rfl⟩ := inN (by omega) z4
    have hfl : f ≤ l := (nI_leI (by omega) (by omega)).mp z5
    refine lp_acc (g (gi y 718)) (fun h n => GI mX8_fitting 50 [some (.ref 717), some (.int a), some (.int b), some (.int (nI f)), some (.int (nI l)), some (.int n), some (.int (nI h))] [] KW y _) 24 0 ?_ (fun h n hh n1 => ?_)
    · exact v_X8_fitting_50 km ⟨fun _ => ⟨⟨fun _ => rfl, fun w => absurd ok w⟩, R2⟩, fun z => absurd (Int32.le_refl _) z⟩
    · refine v_X8_fitting_50 km ⟨fun z => absurd z (nI_ge (b := 24) hh (by decide)), fun _ => ?_⟩
      refine sp_X8_canBe R2.2.1 km1 E2.2.2.2 hh z2 ?_ wo_0 ?_
      · intro i hi w1 _
        rw [tb_span0 f (by omega) l (by omega) i hi] at w1
        have := of_decide_eq_true w1
        omega
      · rw [nI_1, Int32.or_zero, ← sb_span hfl (by omega)]
        exact ⟨fun w => n1 _ (if_pos w), fun w => n1 _ (if_neg w)⟩
  have rfn : ¬ OK → mSI mX8_fitting [.ref 717, .int a, .int b, .int c, .int d] KW x (fun r' z => -2 = r' ∧ Rel z) := fun z => mSI_mono (rf x (EQx.rf _ _)) (fun r y w => ⟨w.1.2 z, w.2⟩)
  refine v_X7_fitting_0 k0 R.1.2.1 (ks0 E.1) ?_
  rw [hn.1]
  refine ⟨fun z => rfn (fun w => z w.1), fun z1 => ⟨fun z => rfn (fun w => z w.2.1), fun z2 => ⟨fun z => rfn (fun w => z w.2.2.1), fun z3 => ⟨fun z => rfn (fun w => z w.2.2.2.1), fun z4 => ⟨fun z5 => ?_, fun z => rfn (fun w => z w.2.2.2.2)⟩⟩⟩⟩⟩
  have ok : OK := ⟨z1, z2, z3, z4, z5⟩
  refine lp_acc (g (gi x 718)) (fun h n => ∀ y, EQx x y 7 → GI mX7_fitting 55 [some (.ref 0), some (.int a), some (.int b), some (.int c), some (.int d), some (.int (f_sb c d)), some (.int n), some (.int (nI h))] [] KW y _) 24 0 ?_ (fun h n hh n1 => ?_) x (EQx.rf _ _)
  · intro y hy
    have c1 := R.1.keep hy.1
    exact v_X7_fitting_55 k0 c1.2.1 (ks0 E.1) ⟨fun _ => mSI_mono (rf y hy) (fun r z w => ⟨w.1.1 ok, w.2⟩), fun z => absurd (Int32.le_refl _) z⟩
  · intro y hy
    have c1 := R.1.keep hy.1
    have E2 := E.eqx hy (Or.inl rfl)
    refine v_X7_fitting_55 k0 c1.2.1 (ks0 E.1) ⟨fun z => absurd z (nI_ge (b := 24) hh (by decide)), fun _ => ?_⟩
    refine sp_X4_hasPlace E2 hh (fun z hz => ?_)
    rw [nI_1]
    exact ⟨fun w => n1 _ (if_pos w) z (hy.tr hz), fun w => n1 _ (if_neg w) z (hy.tr hz)⟩
theorem eq_blocked (a : Int32) : Both mX7_blocked mX8_blocked [.int a] := by
  intro x R
  obtain ⟨W, C, S, A, N, E, -, -⟩ := R.sea
  have hn := E.nums
  have hA : A ≤ 24 := hn.2.2.2.2.2.2.2.1
  have hS : S ≤ 24 := hn.2.2.2.2.2.2.1
  have hW : W ≤ 30 := hn.2.2.2.2.1
  have hN : N ≤ W := hn.2.2.2.2.2.2.2.2
  have ia := inN' (v := a) (n := A) (by omega)
  let g : TT → Nat → Nat → Nat → Int32 → Int32 := fun T i h => orP (fun s => bP (fitA T S N i h (1 <<< (nI s &&& 31))))
  let F : TT → Int32 := fun T => if 0 ≤ a ∧ a < nI A then (if bP (fitA T S N a.toNatClampNeg (ao T a.toNatClampNeg 2).toNatClampNeg 0) = 0 then accT (g T a.toNatClampNeg (ao T a.toNatClampNeg 2).toNatClampNeg) S 0 else 0) else -2
  have rf : ∀ y, EQx x y 7 → mSI mX8_blocked [.ref 717, .int a] KW y (fun r' z => F (gi x 718) = r' ∧ Rel z) := by
    intro y hy
    obtain ⟨R2, eT⟩ := R.e7 hy
    have E2 := E.eqx hy (Or.inl rfl)
    rw [← eT] at E2 ⊢
    have ht := Rel.t2 E2
    refine v_X8_blocked_0 km R2.2.1.1 km1 R2.2.1.2.2.1 km1 ⟨v0 (k := 3) (by decide) rfl rfl, ?_⟩
    rw [ht.2.2.2.1, ia]
    refine ⟨fun z => ?_, fun z => ⟨if_neg z, R2⟩⟩
    have eF : F (gi y 718) = (if bP (fitA (gi y 718) S N a.toNatClampNeg (ao (gi y 718) a.toNatClampNeg 2).toNatClampNeg 0) = 0 then accT (g (gi y 718) a.toNatClampNeg (ao (gi y 718) a.toNatClampNeg 2).toNatClampNeg) S 0 else 0) := if_pos z
    rw [eF]
    obtain ⟨i, hi, rfl⟩ := inN (by omega) z
    rw [nI_clamp (show i < 2 ^ 31 by omega)]
    obtain ⟨-, -, ⟨h, h1, h2⟩, -, ⟨f, l, f1, f2, f3, f4⟩, -⟩ := E2.2.2.2.2.2.2.2.2.2.2.2.2.2.2.2.2 i hi
    refine ⟨l24_nI (by omega) rfl, ?_⟩
    rw [h2, nI_clamp (show h < 2 ^ 31 by omega)]
    refine ⟨fun w => ?_, fun _ => sp_X8_canAsk R2.2.1 km1 E2.2.2.2 hi h1 wo_0 ⟨fun w => ?_, fun w => ⟨if_neg w, R2⟩⟩⟩
    · rw [f3, f4, ht.2.2.2.2, ht.1, span_and0 (by omega) f2 hW hN] at w
      rw [if_neg]
      · exact ⟨rfl, R2⟩
      · rw [bP_t]
        · decide
        · intro j hj w1 w2
          rw [f3, f4, tb_sb0 f (by omega) l (by omega) (by omega) j hj] at w1
          have := of_decide_eq_true w1
          omega
    · rw [if_pos w]
      refine lp_acc (g (gi y 718) i h) (fun s n => GI mX8_blocked 40 [some (.ref 717), some (.int (nI i)), some (.int n), some (.int (nI s))] [] KW y _) S 0 ?_ (fun s n hs n1 => ?_)
      · exact v_X8_blocked_40 km R2.2.1.1 km1 R2.2.1.2.2.1 km1 ⟨v0 (k := 2) (by decide) rfl rfl, fun _ => ⟨rfl, R2⟩, fun z => absurd (by rw [ht.2.2.1]; exact Int32.le_refl _) z⟩
      · refine v_X8_blocked_40 km R2.2.1.1 km1 R2.2.1.2.2.1 km1 ⟨v0 (k := 2) (by decide) rfl rfl, fun z => absurd (by rw [ht.2.2.1] at z; exact z) (nI_ge hs (by omega)), fun _ => ⟨l24_nI (by omega) rfl, ?_⟩⟩
        rw [nI_clamp (show i < 2 ^ 31 by omega), h2, nI_1, Int32.or_zero]
        exact sp_X8_canAsk R2.2.1 km1 E2.2.2.2 hi h1 (wo_1 (by omega)) ⟨fun w => n1 _ (if_pos w), fun w => n1 _ (if_neg w)⟩
  refine v_X7_blocked_0 k0 R.1.2.1 (ks0 E.1) E.2.1.2.2.2.1 (ks4 E.1) ?_
  rw [hn.2.2.2.1]
  refine ⟨fun z => ?_, fun z => ?_⟩
  · have eF : F (gi x 718) = (if bP (fitA (gi x 718) S N a.toNatClampNeg (ao (gi x 718) a.toNatClampNeg 2).toNatClampNeg 0) = 0 then accT (g (gi x 718) a.toNatClampNeg (ao (gi x 718) a.toNatClampNeg 2).toNatClampNeg) S 0 else 0) := if_pos z
    rw [eF] at rf
    obtain ⟨i, hi, rfl⟩ := inN (by omega) z
    rw [nI_clamp (show i < 2 ^ 31 by omega)] at rf ⊢
    obtain ⟨p, e1, e2, e3, e4⟩ := E.ask hi
    obtain ⟨-, -, ⟨h, h1, h2⟩, -⟩ := e4
    refine ⟨vp_in_nI (by omega) (by decide), p, e1, e2, ?_⟩
    rw [e3 2 (by decide), h2]
    rw [h2, nI_clamp (show h < 2 ^ 31 by omega)] at rf
    refine sp_X4_hasPlaceFor E e2 e3 h1 (fun y hy => ⟨fun w => ?_, fun w => by have := rf y hy; rwa [if_neg w] at this⟩)
    rw [if_pos w] at rf
    refine lp_acc (g (gi x 718) i h) (fun s n => ∀ y, EQx x y 7 → GI mX7_blocked 44 [some (.ref 0), some (.int (nI i)), some (.ref p), some (.int n), some (.int (nI s))] [] KW y _) S 0 ?_ (fun s n hs n1 => ?_) y hy
    · intro y hy
      have c1 := R.1.keep hy.1
      have hn2 := (E.eqx hy (Or.inl rfl)).nums
      exact v_X7_blocked_44 k0 c1.2.1 (ks0 E.1) e2 ⟨fun _ => rf y hy, fun z => absurd (by rw [hn2.2.2.1]; exact Int32.le_refl _) z⟩
    · intro y hy
      have c1 := R.1.keep hy.1
      have E2 := E.eqx hy (Or.inl rfl)
      have hn2 := E2.nums
      have ep : gr y 6 i = some p := by unfold gr; rw [hy.1]; exact e1
      have e3' := E2.2.2.1.2.2.2.2.2.2.2 i p hi ep
      refine v_X7_blocked_44 k0 c1.2.1 (ks0 E.1) e2 ⟨fun z => absurd (by rw [hn2.2.2.1] at z; exact z) (nI_ge hs (by omega)), fun _ => ?_⟩
      rw [e3' 2 (by decide), h2, nI_1]
      exact sp_X4_hasPlaceFor E2 e2 e3' h1 (fun z hz => ⟨fun w => n1 _ (if_pos w) z (hy.tr hz), fun w => n1 _ (if_neg w) z (hy.tr hz)⟩)
  · have eF : F (gi x 718) = -2 := if_neg z
    have := rf x (EQx.rf _ _)
    rwa [eF] at this


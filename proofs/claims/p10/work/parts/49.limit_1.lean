set_option maxHeartbeats 2000000 in
theorem v_X8_isAbove_0 {K : Sh} {x : Cn} {Q : Int32 → Cn → Prop} {b0 : Nat} {l1 : Int32} {l2 : Int32} {l3 : Int32} {b0_1 : Nat} {n_b0_1 : Nat} (k_b0 : kk K b0 = some (8, 0)) (g_b0_1 : gr x b0 1 = some b0_1) (k_b0_1 : kk K b0_1 = some (20, n_b0_1)) (K0 : vp_in 4 n_b0_1 ∧ (GI mX8_isAbove 8 [some (.ref b0), some (.int l1), some (.int l2), some (.int l3), some (.int (gi x b0_1 4)), none] [] K x Q)) : mSI mX8_isAbove [.ref b0, .int l1, .int l2, .int l3] K x Q := by
  refine s_I (by decide) (by simp [Value.category]) (Nat.le_of_ble_eq_true rfl) ?_
  show mGM mX8_isAbove 0 [some (.ref b0), some (.int l1), some (.int l2), some (.int l3), none, none] [] (hp K x) (PI K Q)
  refine r_aload_n (pc := 0) dX8_isAbove_0 rfl ?_
  refine s_getR (pc := 1) dX8_isAbove_1 fl_X8_9 rfl k_b0 g_b0_1 ?_
  refine r_iconst (pc := 4) (v := 4) dX8_isAbove_4 (by decide) ?_
  obtain ⟨i_1, K0⟩ := K0
  refine s_iald (pc := 5) dX8_isAbove_5 k_b0_1 i_1 ?_
  refine r_istore (pc := 6) dX8_isAbove_6 (by decide) ?_
  exact r_le (L' := [some (.ref b0), some (.int l1), some (.int l2), some (.int l3), some (.int (gi x b0_1 4)), none]) ⟨rfl, ⟨rfl, ⟨rfl, ⟨rfl, ⟨rfl, trivial⟩⟩⟩⟩⟩ K0
set_option maxHeartbeats 2000000 in
theorem v_X8_isAbove_8 {K : Sh} {x : Cn} {Q : Int32 → Cn → Prop} {b0 : Nat} {l1 : Int32} {l2 : Int32} {l3 : Int32} {l4 : Int32} {b0_1 : Nat} {n_b0_1 : Nat} (k_b0 : kk K b0 = some (8, 0)) (g_b0_1 : gr x b0 1 = some b0_1) (k_b0_1 : kk K b0_1 = some (20, n_b0_1)) (K0 : vp_in 0 n_b0_1 ∧ (((gi x b0_1 0) ≤ l4 → (Q 0 x)) ∧ (¬ (gi x b0_1 0) ≤ l4 → (GI mX8_isAbove 22 [some (.ref b0), some (.int l1), some (.int l2), some (.int l3), some (.int l4), some (.int 0)] [] K x Q)))) : GI mX8_isAbove 8 [some (.ref b0), some (.int l1), some (.int l2), some (.int l3), some (.int l4), none] [] K x Q := by
  show mGM mX8_isAbove 8 [some (.ref b0), some (.int l1), some (.int l2), some (.int l3), some (.int l4), none] [] (hp K x) (PI K Q)
  refine r_iload (pc := 8) dX8_isAbove_8 rfl ?_
  refine r_aload_n (pc := 10) dX8_isAbove_10 rfl ?_
  refine s_getR (pc := 11) dX8_isAbove_11 fl_X8_9 rfl k_b0 g_b0_1 ?_
  refine r_iconst (pc := 14) (v := 0) dX8_isAbove_14 (by decide) ?_
  obtain ⟨i_1, K0⟩ := K0
  refine s_iald (pc := 15) dX8_isAbove_15 k_b0_1 i_1 ?_
  refine r_icmp_ge (pc := 16) (tgt := 73) dX8_isAbove_16 (by decide) (fun q => ?_) (fun q => ?_)
  · have K0 := K0.1 q
    refine r_iconst (pc := 73) (v := 0) dX8_isAbove_73 (by decide) ?_
    exact s_zret rfl (by decide) dX8_isAbove_74 K0
  · have K0 := K0.2 q
    refine r_iconst (pc := 19) (v := 0) dX8_isAbove_19 (by decide) ?_
    refine r_istore (pc := 20) dX8_isAbove_20 (by decide) ?_
    exact r_le (L' := [some (.ref b0), some (.int l1), some (.int l2), some (.int l3), some (.int l4), some (.int 0)]) ⟨rfl, ⟨rfl, ⟨rfl, ⟨rfl, ⟨rfl, ⟨rfl, trivial⟩⟩⟩⟩⟩⟩ K0
set_option maxHeartbeats 2000000 in
theorem v_X8_isAbove_22 {K : Sh} {x : Cn} {Q : Int32 → Cn → Prop} {b0 : Nat} {l1 : Int32} {l2 : Int32} {l3 : Int32} {l4 : Int32} {l5 : Int32}  (k_b0 : kk K b0 = some (8, 0)) (K0 : (7 ≤ l5 → (GI mX8_isAbove 8 [some (.ref b0), some (.int l1), some (.int l2), some (.int l3), some (.int (l4 + 1)), none] [] K x Q)) ∧ (¬ 7 ≤ l5 → (mSI mX8_loadBut [.ref b0, .int l4, .int l5, .int l1, .int 0, .int (-1)] K x (fun r_3 y_2 => (l2 < r_3 → (Q 1 y_2)) ∧ (¬ l2 < r_3 → (mSI mX8_loadBut [.ref b0, .int l4, .int l5, .int l1, .int 1, .int (-1)] K y_2 (fun r_6 y_5 => (r_6 ≤ l3 → (GI mX8_isAbove 22 [some (.ref b0), some (.int l1), some (.int l2), some (.int l3), some (.int l4), some (.int (l5 + 1))] [] K y_5 Q)) ∧ (¬ r_6 ≤ l3 → (Q 1 y_5))))))))) : GI mX8_isAbove 22 [some (.ref b0), some (.int l1), some (.int l2), some (.int l3), some (.int l4), some (.int l5)] [] K x Q := by
  show mGM mX8_isAbove 22 [some (.ref b0), some (.int l1), some (.int l2), some (.int l3), some (.int l4), some (.int l5)] [] (hp K x) (PI K Q)
  refine r_iload (pc := 22) dX8_isAbove_22 rfl ?_
  refine r_bipush (pc := 24) (v := 7) dX8_isAbove_24 (by decide) ?_
  refine r_icmp_ge (pc := 26) (tgt := 67) dX8_isAbove_26 (by decide) (fun q => ?_) (fun q => ?_)
  · have K0 := K0.1 q
    refine r_iinc (pc := 67) (v := l4 + 1) dX8_isAbove_67 rfl rfl (by decide) ?_
    refine r_goto (pc := 70) (L := [some (.ref b0), some (.int l1), some (.int l2), some (.int l3), some (.int (l4 + 1)), some (.int l5)]) (tgt := 8) dX8_isAbove_70 (by decide) ?_
    exact r_le (L' := [some (.ref b0), some (.int l1), some (.int l2), some (.int l3), some (.int (l4 + 1)), none]) ⟨rfl, ⟨rfl, ⟨rfl, ⟨rfl, ⟨rfl, trivial⟩⟩⟩⟩⟩ K0
  · have K0 := K0.2 q
    refine r_aload_n (pc := 29) dX8_isAbove_29 rfl ?_
    refine r_iload (pc := 30) dX8_isAbove_30 rfl ?_
    refine r_iload (pc := 32) dX8_isAbove_32 rfl ?_
    refine r_iload_n (pc := 34) dX8_isAbove_34 rfl ?_
    refine r_iconst (pc := 35) (v := 0) dX8_isAbove_35 (by decide) ?_
    refine r_iconst (pc := 36) (v := (-1)) dX8_isAbove_36 (by decide) ?_
    refine s_VI (pc := 37) mX8_loadBut (ci := 8) (a := b0) (As := [.int l4, .int l5, .int l1, .int 0, .int (-1)]) dX8_isAbove_37 lk_X8_86 in_X8_loadBut mo_X8_loadBut ⟨by decide, rfl⟩ ⟨by decide, by decide⟩ (Nat.le_of_ble_eq_true rfl) k_b0 (mSI_mono K0 (fun r_3 y_2 K0 => ?_))
    refine r_iload_n (pc := 40) dX8_isAbove_40 rfl ?_
    refine r_icmp_gt (pc := 41) (tgt := 59) dX8_isAbove_41 (by decide) (fun q => ?_) (fun q => ?_)
    · have K0 := K0.1 q
      refine r_iconst (pc := 59) (v := 1) dX8_isAbove_59 (by decide) ?_
      exact s_zret rfl (by decide) dX8_isAbove_60 K0
    · have K0 := K0.2 q
      refine r_aload_n (pc := 44) dX8_isAbove_44 rfl ?_
      refine r_iload (pc := 45) dX8_isAbove_45 rfl ?_
      refine r_iload (pc := 47) dX8_isAbove_47 rfl ?_
      refine r_iload_n (pc := 49) dX8_isAbove_49 rfl ?_
      refine r_iconst (pc := 50) (v := 1) dX8_isAbove_50 (by decide) ?_
      refine r_iconst (pc := 51) (v := (-1)) dX8_isAbove_51 (by decide) ?_
      refine s_VI (pc := 52) mX8_loadBut (ci := 8) (a := b0) (As := [.int l4, .int l5, .int l1, .int 1, .int (-1)]) dX8_isAbove_52 lk_X8_86 in_X8_loadBut mo_X8_loadBut ⟨by decide, rfl⟩ ⟨by decide, by decide⟩ (Nat.le_of_ble_eq_true rfl) k_b0 (mSI_mono K0 (fun r_6 y_5 K0 => ?_))
      refine r_iload_n (pc := 55) dX8_isAbove_55 rfl ?_
      refine r_icmp_le (pc := 56) (tgt := 61) dX8_isAbove_56 (by decide) (fun q => ?_) (fun q => ?_)
      · have K0 := K0.1 q
        refine r_iinc (pc := 61) (v := l5 + 1) dX8_isAbove_61 rfl rfl (by decide) ?_
        refine r_goto (pc := 64) (L := [some (.ref b0), some (.int l1), some (.int l2), some (.int l3), some (.int l4), some (.int (l5 + 1))]) (tgt := 22) dX8_isAbove_64 (by decide) ?_
        exact r_le (L' := [some (.ref b0), some (.int l1), some (.int l2), some (.int l3), some (.int l4), some (.int (l5 + 1))]) ⟨rfl, ⟨rfl, ⟨rfl, ⟨rfl, ⟨rfl, ⟨rfl, trivial⟩⟩⟩⟩⟩⟩ K0
      · have K0 := K0.2 q
        refine r_iconst (pc := 59) (v := 1) dX8_isAbove_59 (by decide) ?_
        exact s_zret rfl (by decide) dX8_isAbove_60 K0
section
variable {x : Cn} {Q : Int32 → Cn → Prop}
theorem sp_X8_isAbove (M : MRf x 718) {W C S A N : Nat} (F : WF (gi x 718) W C S A N) {h n m : Nat} (hh : h < 24) (hn9 : n ≤ 9) (hm9 : m ≤ 9) (k : Q (bP (abv (gi x 718) S W N h n m)) x) : mSI mX8_isAbove [.ref 717, .int (nI h), .int (nI n), .int (nI m)] KW x Q := by
  have hS : S ≤ 24 := F.2.2.2.2.2.2.1
  have hW : W ≤ 30 := F.2.2.1
  have hN : N ≤ W := F.2.2.2.2.2.2.2.2.2.2.1
  have t2 := F.2.2.2.2.2.1
  have key : ∀ c w, w + c = W → N ≤ w → (∀ i d, N ≤ i → i < w → d < 7 → ¬ (n < nW (gi x 718) S i (nI d) (nI h) 0 0 ∨ m < nW (gi x 718) S i (nI d) (nI h) 1 0)) → GI mX8_isAbove 8 [some (.ref 717), some (.int (nI h)), some (.int (nI n)), some (.int (nI m)), some (.int (nI w)), none] [] KW x Q := by
    intro c
    induction c with
    | zero =>
      intro w hw h1 g
      have : w = W := by omega
      subst this
      refine v_X8_isAbove_8 km M.1 km1 ⟨v0 (k := 0) (by decide) rfl rfl, fun _ => (bP_k k).2 ?_, fun z => absurd (by rw [F.1]; exact Int32.le_refl _) z⟩
      rintro ⟨i, d, h2, h3, h4, h5⟩
      exact g i d h2 h3 h4 h5
    | succ c ih =>
      intro w hw h1 g
      refine v_X8_isAbove_8 km M.1 km1 ⟨v0 (k := 0) (by decide) rfl rfl, fun z => absurd (by rw [F.1] at z; exact z) (nI_ge (by omega) (by omega)), fun _ => ?_⟩
      have key2 : ∀ c2 d, d + c2 = 7 → (∀ d', d' < d → ¬ (n < nW (gi x 718) S w (nI d') (nI h) 0 0 ∨ m < nW (gi x 718) S w (nI d') (nI h) 1 0)) → GI mX8_isAbove 22 [some (.ref 717), some (.int (nI h)), some (.int (nI n)), some (.int (nI m)), some (.int (nI w)), some (.int (nI d))] [] KW x Q := by
        intro c2
        induction c2 with
        | zero =>
          intro d hd g2
          have : d = 7 := by omega
          subst this
          refine v_X8_isAbove_22 km ⟨fun _ => ?_, fun z => absurd (Int32.le_refl _) z⟩
          rw [nI_1]
          refine ih (w + 1) (by omega) (by omega) (fun i d i1 i2 i3 => ?_)
          by_cases e : i = w
          · rw [e]; exact g2 d i3
          · exact g i d i1 (by omega) i3
        | succ c2 ih2 =>
          intro d hd g2
          have b1 := nW_le (gi x 718) hS w (nI d) (nI h) 0 0
          have b2 := nW_le (gi x 718) hS w (nI d) (nI h) 1 0
          refine v_X8_isAbove_22 km ⟨fun z => absurd z (nI_ge (b := 7) (by omega) (by decide)), fun _ => ?_⟩
          refine sp_X8_loadBut M km1 t2 hS (by omega) ?_
          rw [ldB_nW0 wo_0 S hS, nI_ltI (by omega) (by omega)]
          refine ⟨fun z => (bP_k k).1 ⟨w, d, h1, by omega, by omega, Or.inl z⟩, fun z => sp_X8_loadBut M km1 t2 hS (by omega) ?_⟩
          rw [ldB_nW1 wo_0 S hS, nI_leI (by omega) (by omega), nI_1]
          refine ⟨fun z2 => ih2 (d + 1) (by omega) (fun d' hd' => ?_), fun z2 => (bP_k k).1 ⟨w, d, h1, by omega, by omega, Or.inr (by omega)⟩⟩
          by_cases e : d' = d
          · rw [e]; omega
          · exact g2 d' (by omega)
      exact key2 7 0 (by omega) (fun d' hd' => by omega)
  refine v_X8_isAbove_0 km M.1 km1 ⟨v0 (k := 4) (by decide) rfl rfl, ?_⟩
  rw [F.2.2.2.2.2.2.2.2.2.1]
  exact key (W - N) N (by omega) (Nat.le_refl _) (fun i d i1 i2 => by omega)
end

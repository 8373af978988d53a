/-- an hour would have more than so many -/
def abv (T : TT) (S W N h n m : Nat) : Prop := ∃ i d, N ≤ i ∧ i < W ∧ d < 7 ∧ (n < nW T S i (nI d) (nI h) 0 0 ∨ m < nW T S i (nI d) (nI h) 1 0)
theorem nW_le (T : TT) {S : Nat} (hS : S ≤ 24) (i : Nat) (d h io wo : Int32) : nW T S i d h io wo ≤ 24 := Nat.le_trans (cnt_le _ _) hS
set_option maxHeartbeats 2000000 in
theorem v_X4_holdsMore_0 {K : Sh} {x : Cn} {Q : Int32 → Cn → Prop} {b0 : Nat} {l1 : Int32} {l2 : Int32} {l3 : Int32}   (K0 : GI mX4_holdsMore 6 [some (.ref b0), some (.int l1), some (.int l2), some (.int l3), some (.int 0), some (.int 0)] [] K x Q) : mSI mX4_holdsMore [.ref b0, .int l1, .int l2, .int l3] K x Q := by
  refine s_I (by decide) (by simp [Value.category]) (Nat.le_of_ble_eq_true rfl) ?_
  show mGM mX4_holdsMore 0 [some (.ref b0), some (.int l1), some (.int l2), some (.int l3), none, none] [] (hp K x) (PI K Q)
  refine r_iconst (pc := 0) (v := 0) dX4_holdsMore_0 (by decide) ?_
  refine r_istore (pc := 1) dX4_holdsMore_1 (by decide) ?_
  refine r_iconst (pc := 3) (L := [some (.ref b0), some (.int l1), some (.int l2), some (.int l3), some (.int 0), none]) (v := 0) dX4_holdsMore_3 (by decide) ?_
  refine r_istore (pc := 4) dX4_holdsMore_4 (by decide) ?_
  exact r_le (L' := [some (.ref b0), some (.int l1), some (.int l2), some (.int l3), some (.int 0), some (.int 0)]) ⟨rfl, ⟨rfl, ⟨rfl, ⟨rfl, ⟨rfl, ⟨rfl, trivial⟩⟩⟩⟩⟩⟩ K0
set_option maxHeartbeats 2000000 in
theorem v_X4_holdsMore_6 {K : Sh} {x : Cn} {Q : Int32 → Cn → Prop} {b0 : Nat} {l1 : Int32} {l2 : Int32} {l3 : Int32} {l4 : Int32} {l5 : Int32}  (k_b0 : kk K b0 = some (4, 0)) (K0 : (7 ≤ l5 → (((l4 &&& (f_wtc (gi x b0 1) (gi x b0 0))) = 0 → (Q 0 x)) ∧ (¬ (l4 &&& (f_wtc (gi x b0 1) (gi x b0 0))) = 0 → (Q 1 x)))) ∧ (¬ 7 ≤ l5 → (mSI mX4_weeksLoaded [.ref b0, .int l5, .int l1, .int (l2 + 1), .int 0, .int 0] K x (fun r_4 y_3 => mSI mX4_weeksLoaded [.ref b0, .int l5, .int l1, .int (l3 + 1), .int 1, .int 0] K y_3 (fun r_6 y_5 => GI mX4_holdsMore 6 [some (.ref b0), some (.int l1), some (.int l2), some (.int l3), some (.int ((l4 ||| r_4) ||| r_6)), some (.int (l5 + 1))] [] K y_5 Q))))) : GI mX4_holdsMore 6 [some (.ref b0), some (.int l1), some (.int l2), some (.int l3), some (.int l4), some (.int l5)] [] K x Q := by
  show mGM mX4_holdsMore 6 [some (.ref b0), some (.int l1), some (.int l2), some (.int l3), some (.int l4), some (.int l5)] [] (hp K x) (PI K Q)
  refine r_iload (pc := 6) dX4_holdsMore_6 rfl ?_
  refine r_bipush (pc := 8) (v := 7) dX4_holdsMore_8 (by decide) ?_
  refine r_icmp_ge (pc := 10) (tgt := 53) dX4_holdsMore_10 (by decide) (fun q => ?_) (fun q => ?_)
  · have K0 := K0.1 q
    refine r_iload (pc := 53) dX4_holdsMore_53 rfl ?_
    refine r_aload_n (pc := 55) dX4_holdsMore_55 rfl ?_
    refine s_VI (pc := 56) mX4_weeksToCome (ci := 4) (a := b0) (As := []) dX4_holdsMore_56 lk_X4_141 in_X4_weeksToCome mo_X4_weeksToCome ⟨by decide, rfl⟩ ⟨by decide, by decide⟩ (Nat.le_of_ble_eq_true rfl) k_b0 (sp_X4_weeksToCome k_b0 ?_)
    refine r_iand (pc := 59) dX4_holdsMore_59 ?_
    refine r_if_eq (pc := 60) (tgt := 67) dX4_holdsMore_60 (by decide) (fun q => ?_) (fun q => ?_)
    · have K0 := K0.1 q
      refine r_iconst (pc := 67) (v := 0) dX4_holdsMore_67 (by decide) ?_
      exact s_zret rfl (by decide) dX4_holdsMore_68 K0
    · have K0 := K0.2 q
      refine r_iconst (pc := 63) (v := 1) dX4_holdsMore_63 (by decide) ?_
      refine r_goto (pc := 64) (tgt := 68) dX4_holdsMore_64 (by decide) ?_
      exact s_zret rfl (by decide) dX4_holdsMore_68 K0
  · have K0 := K0.2 q
    refine r_iload (pc := 13) dX4_holdsMore_13 rfl ?_
    refine r_aload_n (pc := 15) dX4_holdsMore_15 rfl ?_
    refine r_iload (pc := 16) dX4_holdsMore_16 rfl ?_
    refine r_iload_n (pc := 18) dX4_holdsMore_18 rfl ?_
    refine r_iload_n (pc := 19) dX4_holdsMore_19 rfl ?_
    refine r_iconst (pc := 20) (v := 1) dX4_holdsMore_20 (by decide) ?_
    refine r_iadd (pc := 21) dX4_holdsMore_21 ?_
    refine r_iconst (pc := 22) (v := 0) dX4_holdsMore_22 (by decide) ?_
    refine r_iconst (pc := 23) (v := 0) dX4_holdsMore_23 (by decide) ?_
    refine s_VI (pc := 24) mX4_weeksLoaded (ci := 4) (a := b0) (As := [.int l5, .int l1, .int (l2 + 1), .int 0, .int 0]) dX4_holdsMore_24 lk_X4_96 in_X4_weeksLoaded mo_X4_weeksLoaded ⟨by decide, rfl⟩ ⟨by decide, by decide⟩ (Nat.le_of_ble_eq_true rfl) k_b0 (mSI_mono K0 (fun r_4 y_3 K0 => ?_))
    refine r_ior (pc := 27) dX4_holdsMore_27 ?_
    refine r_istore (pc := 28) dX4_holdsMore_28 (by decide) ?_
    refine r_iload (pc := 30) (L := [some (.ref b0), some (.int l1), some (.int l2), some (.int l3), some (.int (l4 ||| r_4)), some (.int l5)]) dX4_holdsMore_30 rfl ?_
    refine r_aload_n (pc := 32) dX4_holdsMore_32 rfl ?_
    refine r_iload (pc := 33) dX4_holdsMore_33 rfl ?_
    refine r_iload_n (pc := 35) dX4_holdsMore_35 rfl ?_
    refine r_iload_n (pc := 36) dX4_holdsMore_36 rfl ?_
    refine r_iconst (pc := 37) (v := 1) dX4_holdsMore_37 (by decide) ?_
    refine r_iadd (pc := 38) dX4_holdsMore_38 ?_
    refine r_iconst (pc := 39) (v := 1) dX4_holdsMore_39 (by decide) ?_
    refine r_iconst (pc := 40) (v := 0) dX4_holdsMore_40 (by decide) ?_
    refine s_VI (pc := 41) mX4_weeksLoaded (ci := 4) (a := b0) (As := [.int l5, .int l1, .int (l3 + 1), .int 1, .int 0]) dX4_holdsMore_41 lk_X4_96 in_X4_weeksLoaded mo_X4_weeksLoaded ⟨by decide, rfl⟩ ⟨by decide, by decide⟩ (Nat.le_of_ble_eq_true rfl) k_b0 (mSI_mono K0 (fun r_6 y_5 K0 => ?_))
    refine r_ior (pc := 44) dX4_holdsMore_44 ?_
    refine r_istore (pc := 45) dX4_holdsMore_45 (by decide) ?_
    refine r_iinc (pc := 47) (L := [some (.ref b0), some (.int l1), some (.int l2), some (.int l3), some (.int ((l4 ||| r_4) ||| r_6)), some (.int l5)]) (v := l5 + 1) dX4_holdsMore_47 rfl rfl (by decide) ?_
    refine r_goto (pc := 50) (L := [some (.ref b0), some (.int l1), some (.int l2), some (.int l3), some (.int ((l4 ||| r_4) ||| r_6)), some (.int (l5 + 1))]) (tgt := 6) dX4_holdsMore_50 (by decide) ?_
    exact r_le (L' := [some (.ref b0), some (.int l1), some (.int l2), some (.int l3), some (.int ((l4 ||| r_4) ||| r_6)), some (.int (l5 + 1))]) ⟨rfl, ⟨rfl, ⟨rfl, ⟨rfl, ⟨rfl, ⟨rfl, trivial⟩⟩⟩⟩⟩⟩ K0
section
variable {x : Cn} {Q : Int32 → Cn → Prop}
theorem sp_X4_holdsMore {q : Nat} {T : TT} {W C S A N : Nat} (E : SEA x q T W C S A N) {h n m : Nat} (hh : h < 24) (hn9 : n ≤ 9) (hm9 : m ≤ 9) (k : ∀ y, EQx x y (q + 5) → Q (bP (abv T S W N h n m)) y) : mSI mX4_holdsMore [.ref q, .int (nI h), .int (nI n), .int (nI m)] KW x Q := by
  have hn := E.nums
  have hS : S ≤ 24 := hn.2.2.2.2.2.2.1
  have hW : W ≤ 30 := hn.2.2.2.2.1
  have hN : N ≤ W := hn.2.2.2.2.2.2.2.2
  have key : ∀ c d l y, d + c = 7 → EQx x y (q + 5) → (∀ i, i < 32 → (tb l i = true ↔ ∃ d', d' < d ∧ (n < nW T S i (nI d') (nI h) 0 0 ∨ m < nW T S i (nI d') (nI h) 1 0))) → GI mX4_holdsMore 6 [some (.ref q), some (.int (nI h)), some (.int (nI n)), some (.int (nI m)), some (.int l), some (.int (nI d))] [] KW y Q := by
    intro c
    induction c with
    | zero =>
      intro d l y hd hy hl
      have : d = 7 := by omega
      subst this
      have hy2 := (E.eqx hy (Or.inl rfl)).nums
      refine v_X4_holdsMore_6 (ks0 E.1) ⟨fun _ => ?_, fun z => absurd (Int32.le_refl _) z⟩
      rw [hy2.1, hy2.2.1]
      have iff : (l &&& f_wtc (nI N) (nI W)) = 0 ↔ ¬ abv T S W N h n m := by
        constructor
        · rintro u ⟨i, d, h1, h2, h3, h4⟩
          have v := congrArg (fun v => tb v i) u
          simp only [tb_0, tb_and, tb_wtc hW hN (show i < 32 by omega), decide_eq_true (show N ≤ i ∧ i < W from ⟨h1, h2⟩), Bool.and_true] at v
          have := (hl i (by omega)).mpr ⟨d, h3, h4⟩
          rw [v] at this
          cases this
        · intro u
          apply tb_ext
          intro i hi
          rw [tb_0, tb_and, tb_wtc hW hN hi]
          by_cases e : N ≤ i ∧ i < W
          · have : ¬ tb l i = true := fun g => by
              obtain ⟨d', h3, h4⟩ := (hl i hi).mp g
              exact u ⟨i, d', e.1, e.2, h3, h4⟩
            rw [Bool.eq_false_iff.mpr this, Bool.false_and]
          · rw [decide_eq_false e, Bool.and_false]
      rw [iff]
      exact ⟨fun u => (bP_k (k y hy)).2 u, fun u => (bP_k (k y hy)).1 (Classical.byContradiction u)⟩
    | succ c ih =>
      intro d l y hd hy hl
      refine v_X4_holdsMore_6 (ks0 E.1) ⟨fun z => absurd z (nI_ge (b := 7) (by omega) (by decide)), fun _ => ?_⟩
      rw [nI_1, nI_1, nI_1]
      have E2 := E.eqx hy (Or.inl rfl)
      refine sp_X4_weeksLoaded E2 (fun r1 y1 hy1 hr1 => ?_)
      refine sp_X4_weeksLoaded (E2.eqx hy1 (Or.inl rfl)) (fun r2 y2 hy2 hr2 => ?_)
      refine ih (d + 1) _ y2 (by omega) ((hy.tr hy1).tr hy2) (fun i hi => ?_)
      have b1 := nW_le T hS i (nI d) (nI h) 0 0
      have b2 := nW_le T hS i (nI d) (nI h) 1 0
      have u1 := hr1 i hi
      have u2 := hr2 i hi
      rw [nI_leI (by omega) (by omega)] at u1 u2
      rw [tb_or, tb_or, Bool.or_eq_true, Bool.or_eq_true, hl i hi, u1, u2]
      constructor
      · rintro ((⟨d', g1, g2⟩ | g) | g)
        · exact ⟨d', by omega, g2⟩
        · exact ⟨d, by omega, Or.inl (by omega)⟩
        · exact ⟨d, by omega, Or.inr (by omega)⟩
      · rintro ⟨d', g1, g2⟩
        by_cases e : d' = d
        · rw [e] at g2
          rcases g2 with g | g
          · exact Or.inl (Or.inr (by omega))
          · exact Or.inr (by omega)
        · exact Or.inl (Or.inl ⟨d', by omega, g2⟩)
  exact v_X4_holdsMore_0 (key 7 0 0 x (by omega) (EQx.rf _ _) (fun i hi => by
    rw [tb_0]
    exact ⟨fun z => (by cases z), fun ⟨d', g, _⟩ => by omega⟩))
end
set_option maxHeartbeats 2000000 in
theorem v_X8_isAbove_0 {K : Sh} {x : Cn} {Q : Int32 → Cn → Prop} {b0 : Nat} {l1 : Int32} {l2 : Int32} {l3 : Int32} {b0_1 : Nat} {n_b0_1 : Nat} (k_b0 : kk K b0 = some (8, 0)) (g_b0_1 : gr x b0 1 = some b0_1) (k_b0_1 : kk K b0_1 = some (20, n_b0_1)) (K0 : vp_in 4 n_b0_1 ∧ (GI mX8_isAbove 8 [some (.ref b0), some (.int l1), some (.int l2), some (.int l3), some (.int (gi x b0_1 4)), none] [] K x Q)) : mSI mX8_isAbove [.ref b0, .int l1, .int l2, .int l3] K x Q := by
  refine s_I (by decide) (by simp [Value.category]) (Nat.le_of_ble_eq_true rfl) ?_
  show mGM mX8_isAbove 0 [some (.ref b0), some (.int l1), some (.int l2), some (.int l3), none, none] [] (hp K x) (PI K Q)
  refine r_aload_n (pc := 0) dX8_isAbove_0 rfl ?_
  refine s_getR (pc := 1) dX8_isAbove_1 fl_X8_9 rfl k_b0 g_b0_1 ?_
  refine r_iconst (pc := 4) (v := 4) dX8_isAbove_4 (by decide) ?_
  obtain ⟨i_1, K0⟩ := K0
  refine s_iald (pc := 5) dX8_isAbove_5 k_b0_1 i_1 ?_
  refine r_istore (pc := 6) dX8_isAbove_6 (by decide) ?_
  exact r_le (L' := [some (.ref b0), some (.int l1), some (.int l2), some (.int l3), some (.int (gi x b0_1 4)), none]) ⟨rfl, ⟨rfl, ⟨rfl, ⟨rfl, ⟨rfl, trivial⟩⟩⟩⟩⟩ K0
set_option maxHeartbeats 2000000 in
theorem v_X8_isAbove_8 {K : Sh} {x : Cn} {Q : Int32 → Cn → Prop} {b0 : Nat} {l1 : Int32} {l2 : Int32} {l3 : Int32} {l4 : Int32} {b0_1 : Nat} {n_b0_1 : Nat} (k_b0 : kk K b0 = some (8, 0)) (g_b0_1 : gr x b0 1 = some b0_1) (k_b0_1 : kk K b0_1 = some (20, n_b0_1)) (K0 : vp_in 0 n_b0_1 ∧ (((gi x b0_1 0) ≤ l4 → (Q 0 x)) ∧ (¬ (gi x b0_1 0) ≤ l4 → (GI mX8_isAbove 22 [some (.ref b0), some (.int l1), some (.int l2), some (.int l3), some (.int l4), some (.int 0)] [] K x Q)))) : GI mX8_isAbove 8 [some (.ref b0), some (.int l1), some (.int l2), some (.int l3), some (.int l4), none] [] K x Q := by
  show mGM mX8_isAbove 8 [some (.ref b0), some (.int l1), some (.int l2), some (.int l3), some (.int l4), none] [] (hp K x) (PI K Q)
  refine r_iload (pc := 8) dX8_isAbove_8 rfl ?_
  refine r_aload_n (pc := 10) dX8_isAbove_10 rfl ?_
  refine s_getR (pc := 11) dX8_isAbove_11 fl_X8_9 rfl k_b0 g_b0_1 ?_
  refine r_iconst (pc := 14) (v := 0) dX8_isAbove_14 (by decide) ?_
  obtain ⟨i_1, K0⟩ := K0
  refine s_iald (pc := 15) dX8_isAbove_15 k_b0_1 i_1 ?_
  refine r_icmp_ge (pc := 16) (tgt := 73) dX8_isAbove_16 (by decide) (fun q => ?_) (fun q => ?_)
  · have K0 := K0.1 q
    refine r_iconst (pc := 73) (v := 0) dX8_isAbove_73 (by decide) ?_
    exact s_zret rfl (by decide) dX8_isAbove_74 K0
  · have K0 := K0.2 q
    refine r_iconst (pc := 19) (v := 0) dX8_isAbove_19 (by decide) ?_
    refine r_istore (pc := 20) dX8_isAbove_20 (by decide) ?_
    exact r_le (L' := [some (.ref b0), some (.int l1), some (.int l2), some (.int l3), some (.int l4), some (.int 0)]) ⟨rfl, ⟨rfl, ⟨rfl, ⟨rfl, ⟨rfl, ⟨rfl, trivial⟩⟩⟩⟩⟩⟩ K0
set_option maxHeartbeats 2000000 in
theorem v_X8_isAbove_22 {K : Sh} {x : Cn} {Q : Int32 → Cn → Prop} {b0 : Nat} {l1 : Int32} {l2 : Int32} {l3 : Int32} {l4 : Int32} {l5 : Int32}  (k_b0 : kk K b0 = some (8, 0)) (K0 : (7 ≤ l5 → (GI mX8_isAbove 8 [some (.ref b0), some (.int l1), some (.int l2), some (.int l3), some (.int (l4 + 1)), none] [] K x Q)) ∧ (¬ 7 ≤ l5 → (mSI mX8_loadBut [.ref b0, .int l4, .int l5, .int l1, .int 0, .int (-1)] K x (fun r_3 y_2 => (l2 < r_3 → (Q 1 y_2)) ∧ (¬ l2 < r_3 → (mSI mX8_loadBut [.ref b0, .int l4, .int l5, .int l1, .int 1, .int (-1)] K y_2 (fun r_6 y_5 => (r_6 ≤ l3 → (GI mX8_isAbove 22 [some (.ref b0), some (.int l1), some (.int l2), some (.int l3), some (.int l4), some (.int (l5 + 1))] [] K y_5 Q)) ∧ (¬ r_6 ≤ l3 → (Q 1 y_5))))))))) : GI mX8_isAbove 22 [some (.ref b0), some (.int l1), some (.int l2), some (.int l3), some (.int l4), some (.int l5)] [] K x Q := by
  show mGM mX8_isAbove 22 [some (.ref b0), some (.int l1), some (.int l2), some (.int l3), some (.int l4), some (.int l5)] [] (hp K x) (PI K Q)
  refine r_iload (pc := 22) dX8_isAbove_22 rfl ?_
  refine r_bipush (pc := 24) (v := 7) dX8_isAbove_24 (by decide) ?_
  refine r_icmp_ge (pc := 26) (tgt := 67) dX8_isAbove_26 (by decide) (fun q => ?_) (fun q => ?_)
  · have K0 := K0.1 q
    refine r_iinc (pc := 67) (v := l4 + 1) dX8_isAbove_67 rfl rfl (by decide) ?_
    refine r_goto (pc := 70) (L := [some (.ref b0), some (.int l1), some (.int l2), some (.int l3), some (.int (l4 + 1)), some (.int l5)]) (tgt := 8) dX8_isAbove_70 (by decide) ?_
    exact r_le (L' := [some (.ref b0), some (.int l1), some (.int l2), some (.int l3), some (.int (l4 + 1)), none]) ⟨rfl, ⟨rfl, ⟨rfl, ⟨rfl, ⟨rfl, trivial⟩⟩⟩⟩⟩ K0
  · have K0 := K0.2 q
    refine r_aload_n (pc := 29) dX8_isAbove_29 rfl ?_
    refine r_iload (pc := 30) dX8_isAbove_30 rfl ?_
    refine r_iload (pc := 32) dX8_isAbove_32 rfl ?_
    refine r_iload_n (pc := 34) dX8_isAbove_34 rfl ?_
    refine r_iconst (pc := 35) (v := 0) dX8_isAbove_35 (by decide) ?_
    refine r_iconst (pc := 36) (v := (-1)) dX8_isAbove_36 (by decide) ?_
    refine s_VI (pc := 37) mX8_loadBut (ci := 8) (a := b0) (As := [.int l4, .int l5, .int l1, .int 0, .int (-1)]) dX8_isAbove_37 lk_X8_86 in_X8_loadBut mo_X8_loadBut ⟨by decide, rfl⟩ ⟨by decide, by decide⟩ (Nat.le_of_ble_eq_true rfl) k_b0 (mSI_mono K0 (fun r_3 y_2 K0 => ?_))
    refine r_iload_n (pc := 40) dX8_isAbove_40 rfl ?_
    refine r_icmp_gt (pc := 41) (tgt := 59) dX8_isAbove_41 (by decide) (fun q => ?_) (fun q => ?_)
    · have K0 := K0.1 q
      refine r_iconst (pc := 59) (v := 1) dX8_isAbove_59 (by decide) ?_
      exact s_zret rfl (by decide) dX8_isAbove_60 K0
    · have K0 := K0.2 q
      refine r_aload_n (pc := 44) dX8_isAbove_44 rfl ?_
      refine r_iload (pc := 45) dX8_isAbove_45 rfl ?_
      refine r_iload (pc := 47) dX8_isAbove_47 rfl ?_
      refine r_iload_n (pc := 49) dX8_isAbove_49 rfl ?_
      refine r_iconst (pc := 50) (v := 1) dX8_isAbove_50 (by decide) ?_
      refine r_iconst (pc := 51) (v := (-1)) dX8_isAbove_51 (by decide) ?_
      refine s_VI (pc := 52) mX8_loadBut (ci := 8) (a := b0) (As := [.int l4, .int l5, .int l1, .int 1, .int (-1)]) dX8_isAbove_52 lk_X8_86 in_X8_loadBut mo_X8_loadBut ⟨by decide, rfl⟩ ⟨by decide, by decide⟩ (Nat.le_of_ble_eq_true rfl) k_b0 (mSI_mono K0 (fun r_6 y_5 K0 => ?_))
      refine r_iload_n (pc := 55) dX8_isAbove_55 rfl ?_
      refine r_icmp_le (pc := 56) (tgt := 61) dX8_isAbove_56 (by decide) (fun q => ?_) (fun q => ?_)
      · have K0 := K0.1 q
        refine r_iinc (pc := 61) (v := l5 + 1) dX8_isAbove_61 rfl rfl (by decide) ?_
        refine r_goto (pc := 64) (L := [some (.ref b0), some (.int l1), some (.int l2), some (.int l3), some (.int l4), some (.int (l5 + 1))]) (tgt := 22) dX8_isAbove_64 (by decide) ?_
        exact r_le (L' := [some (.ref b0), some (.int l1), some (.int l2), some (.int l3), some (.int l4), some (.int (l5 + 1))]) ⟨rfl, ⟨rfl, ⟨rfl, ⟨rfl, ⟨rfl, ⟨rfl, trivial⟩⟩⟩⟩⟩⟩ K0
      · have K0 := K0.2 q
        refine r_iconst (pc := 59) (v := 1) dX8_isAbove_59 (by decide) ?_
        exact s_zret rfl (by decide) dX8_isAbove_60 K0
section
variable {x : Cn} {Q : Int32 → Cn → Prop}
theorem sp_X8_isAbove (M : MRf x 718) {W C S A N : Nat} (F : WF (gi x 718) W C S A N) {h n m : Nat} (hh : h < 24) (hn9 : n ≤ 9) (hm9 : m ≤ 9) (k : Q (bP (abv (gi x 718) S W N h n m)) x) : mSI mX8_isAbove [.ref 717, .int (nI h), .int (nI n), .int (nI m)] KW x Q := by
  have hS : S ≤ 24 := F.2.2.2.2.2.2.1
  have hW : W ≤ 30 := F.2.2.1
  have hN : N ≤ W := F.2.2.2.2.2.2.2.2.2.2.1
  have t2 := F.2.2.2.2.2.1
  have key : ∀ c w, w + c = W → N ≤ w → (∀ i d, N ≤ i → i < w → d < 7 → ¬ (n < nW (gi x 718) S i (nI d) (nI h) 0 0 ∨ m < nW (gi x 718) S i (nI d) (nI h) 1 0)) → GI mX8_isAbove 8 [some (.ref 717), some (.int (nI h)), some (.int (nI n)), some (.int (nI m)), some (.int (nI w)), none] [] KW x Q := by
    intro c
    induction c with
    | zero =>
      intro w hw h1 g
      have : w = W := by omega
      subst this
      refine v_X8_isAbove_8 km M.1 km1 ⟨v0 (k := 0) (by decide) rfl rfl, fun _ => (bP_k k).2 ?_, fun z => absurd (by rw [F.1]; exact Int32.le_refl _) z⟩
      rintro ⟨i, d, h2, h3, h4, h5⟩
      exact g i d h2 h3 h4 h5
    | succ c ih =>
      intro w hw h1 g
      refine v_X8_isAbove_8 km M.1 km1 ⟨v0 (k := 0) (by decide) rfl rfl, fun z => absurd (by rw [F.1] at z; exact z) (nI_ge (by omega) (by omega)), fun _ => ?_⟩
      have key2 : ∀ c2 d, d + c2 = 7 → (∀ d', d' < d → ¬ (n < nW (gi x 718) S w (nI d') (nI h) 0 0 ∨ m < nW (gi x 718) S w (nI d') (nI h) 1 0)) → GI mX8_isAbove 22 [some (.ref 717), some (.int (nI h)), some (.int (nI n)), some (.int (nI m)), some (.int (nI w)), some (.int (nI d))] [] KW x Q := by
        intro c2
        induction c2 with
        | zero =>
          intro d hd g2
          have : d = 7 := by omega
          subst this
          refine v_X8_isAbove_22 km ⟨fun _ => ?_, fun z => absurd (Int32.le_refl _) z⟩
          rw [nI_1]
          refine ih (w + 1) (by omega) (by omega) (fun i d i1 i2 i3 => ?_)
          by_cases e : i = w
          · rw [e]; exact g2 d i3
          · exact g i d i1 (by omega) i3
        | succ c2 ih2 =>
          intro d hd g2
          have b1 := nW_le (gi x 718) hS w (nI d) (nI h) 0 0
          have b2 := nW_le (gi x 718) hS w (nI d) (nI h) 1 0
          refine v_X8_isAbove_22 km ⟨fun z => absurd z (nI_ge (b := 7) (by omega) (by decide)), fun _ => ?_⟩
          refine sp_X8_loadBut M km1 t2 hS (by omega) ?_
          rw [ldB_nW0 wo_0 S hS, nI_ltI (by omega) (by omega)]
          refine ⟨fun z => (bP_k k).1 ⟨w, d, h1, by omega, by omega, Or.inl z⟩, fun z => sp_X8_loadBut M km1 t2 hS (by omega) ?_⟩
          rw [ldB_nW1 wo_0 S hS, nI_leI (by omega) (by omega), nI_1]
          refine ⟨fun z2 => ih2 (d + 1) (by omega) (fun d' hd' => ?_), fun z2 => (bP_k k).1 ⟨w, d, h1, by omega, by omega, Or.inr (by omega)⟩⟩
          by_cases e : d' = d
          · rw [e]; omega
          · exact g2 d' (by omega)
      exact key2 7 0 (by omega) (fun d' hd' => by omega)
  refine v_X8_isAbove_0 km M.1 km1 ⟨v0 (k := 4) (by decide) rfl rfl, ?_⟩
  rw [F.2.2.2.2.2.2.2.2.2.1]
  exact key (W - N) N (by omega) (Nat.le_refl _) (fun i d i1 i2 => by omega)
def lmT (T : TT) (h : Nat) (n m : Int32) : TT := uT (uT T (6 + 2 * h) n) (7 + 2 * h) m
end
set_option maxHeartbeats 2000000 in
theorem v_X7_limit_0 {K : Sh} {x : Cn} {Q : Int32 → Cn → Prop} {b0 : Nat} {l1 : Int32} {l2 : Int32} {l3 : Int32} {b0_2 : Nat} (k_b0 : kk K b0 = some (7, 0)) (g_b0_2 : gr x b0 2 = some b0_2) (k_b0_2 : kk K b0_2 = some (4, 0)) (K0 : (¬ (0 < gi x b0_2 0 ∧ 0 ≤ l1 ∧ l1 < 24) → (Q (-2) x)) ∧ ((0 < gi x b0_2 0 ∧ 0 ≤ l1 ∧ l1 < 24) → ((¬ (0 ≤ l2 ∧ l2 ≤ 9) → (Q (-2) x)) ∧ ((0 ≤ l2 ∧ l2 ≤ 9) → (((0 ≤ l3 ∧ l3 ≤ l2) → (mSI mX4_holdsMore [.ref b0_2, .int l1, .int l2, .int l3] K x (fun r_5 y_4 => (r_5 = 0 → (gr y_4 b0 2 = some b0_2 ∧ (∃ c_8 : Nat, gr y_4 b0_2 5 = some c_8 ∧ (∃ n_11 : Nat, kk K c_8 = some (20, n_11) ∧ (vp_in l1 n_11 ∧ (∃ c_13 : Nat, gr y_4 b0_2 6 = some c_13 ∧ (∃ n_16 : Nat, kk K c_13 = some (20, n_16) ∧ (vp_in l1 n_16 ∧ ((¬ (gi y_4 c_8 (l1 : Int32).toNatClampNeg) = l2 → (mSV mX7_remember [.ref b0] K y_4 (fun y_19 => gr y_19 b0 2 = some b0_2 ∧ (∃ c_21 : Nat, gr y_19 b0_2 5 = some c_21 ∧ (∃ n_24 : Nat, kk K c_21 = some (20, n_24) ∧ (vp_in l1 n_24 ∧ (∃ c_26 : Nat, gr y_19 b0_2 6 = some c_26 ∧ (∃ n_29 : Nat, kk K c_26 = some (20, n_29) ∧ (vp_in l1 n_29 ∧ (Q ((10 * (gi y_4 c_8 (l1 : Int32).toNatClampNeg)) + (gi y_4 c_13 (l1 : Int32).toNatClampNeg)) (ui (ui y_19 c_21 (l1 : Int32).toNatClampNeg l2) c_26 (l1 : Int32).toNatClampNeg l3))))))))))) ∧ ((gi y_4 c_8 (l1 : Int32).toNatClampNeg) = l2 → (((gi y_4 c_13 (l1 : Int32).toNatClampNeg) = l3 → (Q ((10 * (gi y_4 c_8 (l1 : Int32).toNatClampNeg)) + (gi y_4 c_13 (l1 : Int32).toNatClampNeg)) y_4)) ∧ (¬ (gi y_4 c_13 (l1 : Int32).toNatClampNeg) = l3 → (mSV mX7_remember [.ref b0] K y_4 (fun y_32 => gr y_32 b0 2 = some b0_2 ∧ (∃ c_34 : Nat, gr y_32 b0_2 5 = some c_34 ∧ (∃ n_37 : Nat, kk K c_34 = some (20, n_37) ∧ (vp_in l1 n_37 ∧ (∃ c_39 : Nat, gr y_32 b0_2 6 = some c_39 ∧ (∃ n_42 : Nat, kk K c_39 = some (20, n_42) ∧ (vp_in l1 n_42 ∧ (Q ((10 * (gi y_4 c_8 (l1 : Int32).toNatClampNeg)) + (gi y_4 c_13 (l1 : Int32).toNatClampNeg)) (ui (ui y_32 c_34 (l1 : Int32).toNatClampNeg l2) c_39 (l1 : Int32).toNatClampNeg l3)))))))))))))))))))))) ∧ (¬ r_5 = 0 → (Q (-6) y_4))))) ∧ (¬ (0 ≤ l3 ∧ l3 ≤ l2) → (Q (-2) x))))))) : mSI mX7_limit [.ref b0, .int l1, .int l2, .int l3] K x Q := by
  refine s_I (by decide) (by simp [Value.category]) (Nat.le_of_ble_eq_true rfl) ?_
  show mGM mX7_limit 0 [some (.ref b0), some (.int l1), some (.int l2), some (.int l3), none, none] [] (hp K x) (PI K Q)
  refine r_aload_n (pc := 0) dX7_limit_0 rfl ?_
  refine r_iload_n (pc := 1) dX7_limit_1 rfl ?_
  refine s_VI (pc := 2) mX7_isHour (ci := 7) (a := b0) (As := [.int l1]) dX7_limit_2 lk_X7_195 in_X7_isHour mo_X7_isHour ⟨by decide, rfl⟩ ⟨by decide, by decide⟩ (Nat.le_of_ble_eq_true rfl) k_b0 (sp_X7_isHour k_b0 g_b0_2 k_b0_2 ?_)
  refine r_if_eq (pc := 5) (tgt := 27) dX7_limit_5 (by decide) (fun q => ?_) (fun q => ?_)
  · have q := (b2i_z _).mp q
    have K0 := K0.1 q
    refine r_bipush (pc := 27) (v := (-2)) dX7_limit_27 (by decide) ?_
    exact s_iret rfl dX7_limit_29 K0
  · have q := b2i_nz q
    have K0 := K0.2 q
    refine r_iload_n (pc := 8) dX7_limit_8 rfl ?_
    refine r_iconst (pc := 9) (v := 0) dX7_limit_9 (by decide) ?_
    refine r_bipush (pc := 10) (v := 9) dX7_limit_10 (by decide) ?_
    refine s_SI (pc := 12) mX7_isWithin (As := [.int l2, .int 0, .int 9]) dX7_limit_12 lk_X7_113 st_X7_isWithin mo_X7_isWithin ⟨by decide, by decide⟩ (Nat.le_of_ble_eq_true rfl) (sp_X7_isWithin  ?_)
    refine r_if_eq (pc := 15) (tgt := 27) dX7_limit_15 (by decide) (fun q => ?_) (fun q => ?_)
    · have q := (b2i_z _).mp q
      have K0 := K0.1 q
      refine r_bipush (pc := 27) (v := (-2)) dX7_limit_27 (by decide) ?_
      exact s_iret rfl dX7_limit_29 K0
    · have q := b2i_nz q
      have K0 := K0.2 q
      refine r_iload_n (pc := 18) dX7_limit_18 rfl ?_
      refine r_iconst (pc := 19) (v := 0) dX7_limit_19 (by decide) ?_
      refine r_iload_n (pc := 20) dX7_limit_20 rfl ?_
      refine s_SI (pc := 21) mX7_isWithin (As := [.int l3, .int 0, .int l2]) dX7_limit_21 lk_X7_113 st_X7_isWithin mo_X7_isWithin ⟨by decide, by decide⟩ (Nat.le_of_ble_eq_true rfl) (sp_X7_isWithin  ?_)
      refine r_if_ne (pc := 24) (tgt := 30) dX7_limit_24 (by decide) (fun q => ?_) (fun q => ?_)
      · have q := b2i_nz q
        have K0 := K0.1 q
        refine r_aload_n (pc := 30) dX7_limit_30 rfl ?_
        refine s_getR (pc := 31) dX7_limit_31 fl_X7_20 rfl k_b0 g_b0_2 ?_
        refine r_iload_n (pc := 34) dX7_limit_34 rfl ?_
        refine r_iload_n (pc := 35) dX7_limit_35 rfl ?_
        refine r_iload_n (pc := 36) dX7_limit_36 rfl ?_
        refine s_VI (pc := 37) mX4_holdsMore (ci := 4) (a := b0_2) (As := [.int l1, .int l2, .int l3]) dX7_limit_37 lk_X7_358 in_X4_holdsMore mo_X4_holdsMore ⟨by decide, rfl⟩ ⟨by decide, by decide⟩ (Nat.le_of_ble_eq_true rfl) k_b0_2 (mSI_mono K0 (fun r_5 y_4 K0 => ?_))
        refine r_if_eq (pc := 40) (tgt := 46) dX7_limit_40 (by decide) (fun q => ?_) (fun q => ?_)
        · have K0 := K0.1 q
          refine r_aload_n (pc := 46) dX7_limit_46 rfl ?_
          obtain ⟨g_7, K0⟩ := K0
          refine s_getR (pc := 47) dX7_limit_47 fl_X7_20 rfl k_b0 g_7 ?_
          obtain ⟨c_8, g_9, K0⟩ := K0
          refine s_getR (pc := 50) dX7_limit_50 fl_X7_198 rfl k_b0_2 g_9 ?_
          refine r_iload_n (pc := 53) dX7_limit_53 rfl ?_
          obtain ⟨n_11, e_10, K0⟩ := K0
          obtain ⟨i_12, K0⟩ := K0
          refine s_iald (pc := 54) dX7_limit_54 e_10 i_12 ?_
          refine r_istore (pc := 55) dX7_limit_55 (by decide) ?_
          refine r_aload_n (pc := 57) (L := [some (.ref b0), some (.int l1), some (.int l2), some (.int l3), some (.int (gi y_4 c_8 (l1 : Int32).toNatClampNeg)), none]) dX7_limit_57 rfl ?_
          refine s_getR (pc := 58) dX7_limit_58 fl_X7_20 rfl k_b0 g_7 ?_
          obtain ⟨c_13, g_14, K0⟩ := K0
          refine s_getR (pc := 61) dX7_limit_61 fl_X7_202 rfl k_b0_2 g_14 ?_
          refine r_iload_n (pc := 64) dX7_limit_64 rfl ?_
          obtain ⟨n_16, e_15, K0⟩ := K0
          obtain ⟨i_17, K0⟩ := K0
          refine s_iald (pc := 65) dX7_limit_65 e_15 i_17 ?_
          refine r_istore (pc := 66) dX7_limit_66 (by decide) ?_
          refine r_iload (pc := 68) (L := [some (.ref b0), some (.int l1), some (.int l2), some (.int l3), some (.int (gi y_4 c_8 (l1 : Int32).toNatClampNeg)), some (.int (gi y_4 c_13 (l1 : Int32).toNatClampNeg))]) dX7_limit_68 rfl ?_
          refine r_iload_n (pc := 70) dX7_limit_70 rfl ?_
          refine r_icmp_ne (pc := 71) (tgt := 80) dX7_limit_71 (by decide) (fun q => ?_) (fun q => ?_)
          · have K0 := K0.1 q
            refine r_aload_n (pc := 80) dX7_limit_80 rfl ?_
            refine s_VV (pc := 81) mX7_remember (ci := 7) (a := b0) (As := []) dX7_limit_81 lk_X7_333 in_X7_remember mo_X7_remember ⟨by decide, rfl⟩ ⟨by decide, by decide⟩ (Nat.le_of_ble_eq_true rfl) k_b0 (mSV_mono K0 (fun y_19 K0 => ?_))
            refine r_aload_n (pc := 84) dX7_limit_84 rfl ?_
            obtain ⟨g_20, K0⟩ := K0
            refine s_getR (pc := 85) dX7_limit_85 fl_X7_20 rfl k_b0 g_20 ?_
            obtain ⟨c_21, g_22, K0⟩ := K0
            refine s_getR (pc := 88) dX7_limit_88 fl_X7_198 rfl k_b0_2 g_22 ?_
            refine r_iload_n (pc := 91) dX7_limit_91 rfl ?_
            refine r_iload_n (pc := 92) dX7_limit_92 rfl ?_
            obtain ⟨n_24, e_23, K0⟩ := K0
            obtain ⟨i_25, K0⟩ := K0
            refine s_iast (pc := 93) dX7_limit_93 e_23 i_25 ?_
            refine r_aload_n (pc := 94) dX7_limit_94 rfl ?_
            refine s_getR (pc := 95) dX7_limit_95 fl_X7_20 rfl k_b0 g_20 ?_
            obtain ⟨c_26, g_27, K0⟩ := K0
            refine s_getR (pc := 98) dX7_limit_98 fl_X7_202 rfl k_b0_2 g_27 ?_
            refine r_iload_n (pc := 101) dX7_limit_101 rfl ?_
            refine r_iload_n (pc := 102) dX7_limit_102 rfl ?_
            obtain ⟨n_29, e_28, K0⟩ := K0
            obtain ⟨i_30, K0⟩ := K0
            refine s_iast (pc := 103) dX7_limit_103 e_28 i_30 ?_
            refine r_bipush (pc := 104) (v := 10) dX7_limit_104 (by decide) ?_
            refine r_iload (pc := 106) dX7_limit_106 rfl ?_
            refine r_imul (pc := 108) dX7_limit_108 ?_
            refine r_iload (pc := 109) dX7_limit_109 rfl ?_
            refine r_iadd (pc := 111) dX7_limit_111 ?_
            exact s_iret rfl dX7_limit_112 K0
          · have K0 := K0.2 q
            refine r_iload (pc := 74) dX7_limit_74 rfl ?_
            refine r_iload_n (pc := 76) dX7_limit_76 rfl ?_
            refine r_icmp_eq (pc := 77) (tgt := 104) dX7_limit_77 (by decide) (fun q => ?_) (fun q => ?_)
            · have K0 := K0.1 q
              refine r_bipush (pc := 104) (v := 10) dX7_limit_104 (by decide) ?_
              refine r_iload (pc := 106) dX7_limit_106 rfl ?_
              refine r_imul (pc := 108) dX7_limit_108 ?_
              refine r_iload (pc := 109) dX7_limit_109 rfl ?_
              refine r_iadd (pc := 111) dX7_limit_111 ?_
              exact s_iret rfl dX7_limit_112 K0
            · have K0 := K0.2 q
              refine r_aload_n (pc := 80) dX7_limit_80 rfl ?_
              refine s_VV (pc := 81) mX7_remember (ci := 7) (a := b0) (As := []) dX7_limit_81 lk_X7_333 in_X7_remember mo_X7_remember ⟨by decide, rfl⟩ ⟨by decide, by decide⟩ (Nat.le_of_ble_eq_true rfl) k_b0 (mSV_mono K0 (fun y_32 K0 => ?_))
              refine r_aload_n (pc := 84) dX7_limit_84 rfl ?_
              obtain ⟨g_33, K0⟩ := K0
              refine s_getR (pc := 85) dX7_limit_85 fl_X7_20 rfl k_b0 g_33 ?_
              obtain ⟨c_34, g_35, K0⟩ := K0
              refine s_getR (pc := 88) dX7_limit_88 fl_X7_198 rfl k_b0_2 g_35 ?_
              refine r_iload_n (pc := 91) dX7_limit_91 rfl ?_
              refine r_iload_n (pc := 92) dX7_limit_92 rfl ?_
              obtain ⟨n_37, e_36, K0⟩ := K0
              obtain ⟨i_38, K0⟩ := K0
              refine s_iast (pc := 93) dX7_limit_93 e_36 i_38 ?_
              refine r_aload_n (pc := 94) dX7_limit_94 rfl ?_
              refine s_getR (pc := 95) dX7_limit_95 fl_X7_20 rfl k_b0 g_33 ?_
              obtain ⟨c_39, g_40, K0⟩ := K0
              refine s_getR (pc := 98) dX7_limit_98 fl_X7_202 rfl k_b0_2 g_40 ?_
              refine r_iload_n (pc := 101) dX7_limit_101 rfl ?_
              refine r_iload_n (pc := 102) dX7_limit_102 rfl ?_
              obtain ⟨n_42, e_41, K0⟩ := K0
              obtain ⟨i_43, K0⟩ := K0
              refine s_iast (pc := 103) dX7_limit_103 e_41 i_43 ?_
              refine r_bipush (pc := 104) (v := 10) dX7_limit_104 (by decide) ?_
              refine r_iload (pc := 106) dX7_limit_106 rfl ?_
              refine r_imul (pc := 108) dX7_limit_108 ?_
              refine r_iload (pc := 109) dX7_limit_109 rfl ?_
              refine r_iadd (pc := 111) dX7_limit_111 ?_
              exact s_iret rfl dX7_limit_112 K0
        · have K0 := K0.2 q
          refine r_bipush (pc := 43) (v := (-6)) dX7_limit_43 (by decide) ?_
          exact s_iret rfl dX7_limit_45 K0
      · have q := (b2i_z _).mp q
        have K0 := K0.2 q
        refine r_bipush (pc := 27) (v := (-2)) dX7_limit_27 (by decide) ?_
        exact s_iret rfl dX7_limit_29 K0
set_option maxHeartbeats 2000000 in
theorem v_X8_limit_0 {K : Sh} {x : Cn} {Q : Int32 → Cn → Prop} {b0 : Nat} {l1 : Int32} {l2 : Int32} {l3 : Int32} {b0_1 : Nat} {n_b0_1 : Nat} (k_b0 : kk K b0 = some (8, 0)) (g_b0_1 : gr x b0 1 = some b0_1) (k_b0_1 : kk K b0_1 = some (20, n_b0_1)) (K0 : vp_in 0 n_b0_1 ∧ ((¬ (0 < gi x b0_1 0 ∧ 0 ≤ l1 ∧ l1 ≤ 23) → (Q (-2) x)) ∧ ((0 < gi x b0_1 0 ∧ 0 ≤ l1 ∧ l1 ≤ 23) → ((¬ (0 ≤ l2 ∧ l2 ≤ 9) → (Q (-2) x)) ∧ ((0 ≤ l2 ∧ l2 ≤ 9) → (((0 ≤ l3 ∧ l3 ≤ l2) → (mSI mX8_isAbove [.ref b0, .int l1, .int l2, .int l3] K x (fun r_6 y_5 => (r_6 = 0 → (gr y_5 b0 1 = some b0_1 ∧ (vp_in (6 + (2 * l1)) n_b0_1 ∧ (vp_in ((6 + (2 * l1)) + 1) n_b0_1 ∧ ((¬ (gi y_5 b0_1 ((6 + (2 * l1)) : Int32).toNatClampNeg) = l2 → (mSV mX8_keeps [.ref b0] K y_5 (fun y_12 => gr y_12 b0 1 = some b0_1 ∧ (Q ((10 * (gi y_5 b0_1 ((6 + (2 * l1)) : Int32).toNatClampNeg)) + (gi y_5 b0_1 (((6 + (2 * l1)) + 1) : Int32).toNatClampNeg)) (ui (ui y_12 b0_1 ((6 + (2 * l1)) : Int32).toNatClampNeg l2) b0_1 (((6 + (2 * l1)) + 1) : Int32).toNatClampNeg l3))))) ∧ ((gi y_5 b0_1 ((6 + (2 * l1)) : Int32).toNatClampNeg) = l2 → (((gi y_5 b0_1 (((6 + (2 * l1)) + 1) : Int32).toNatClampNeg) = l3 → (Q ((10 * (gi y_5 b0_1 ((6 + (2 * l1)) : Int32).toNatClampNeg)) + (gi y_5 b0_1 (((6 + (2 * l1)) + 1) : Int32).toNatClampNeg)) (ui (ui y_5 b0_1 ((6 + (2 * l1)) : Int32).toNatClampNeg l2) b0_1 (((6 + (2 * l1)) + 1) : Int32).toNatClampNeg l3))) ∧ (¬ (gi y_5 b0_1 (((6 + (2 * l1)) + 1) : Int32).toNatClampNeg) = l3 → (mSV mX8_keeps [.ref b0] K y_5 (fun y_15 => gr y_15 b0 1 = some b0_1 ∧ (Q ((10 * (gi y_5 b0_1 ((6 + (2 * l1)) : Int32).toNatClampNeg)) + (gi y_5 b0_1 (((6 + (2 * l1)) + 1) : Int32).toNatClampNeg)) (ui (ui y_15 b0_1 ((6 + (2 * l1)) : Int32).toNatClampNeg l2) b0_1 (((6 + (2 * l1)) + 1) : Int32).toNatClampNeg l3)))))))))))) ∧ (¬ r_6 = 0 → (Q (-6) y_5))))) ∧ (¬ (0 ≤ l3 ∧ l3 ≤ l2) → (Q (-2) x)))))))) : mSI mX8_limit [.ref b0, .int l1, .int l2, .int l3] K x Q := by
  refine s_I (by decide) (by simp [Value.category]) (Nat.le_of_ble_eq_true rfl) ?_
  show mGM mX8_limit 0 [some (.ref b0), some (.int l1), some (.int l2), some (.int l3), none, none] [] (hp K x) (PI K Q)
  refine r_aload_n (pc := 0) dX8_limit_0 rfl ?_
  refine r_iload_n (pc := 1) dX8_limit_1 rfl ?_
  obtain ⟨i_1, K0⟩ := K0
  refine s_VI (pc := 2) mX8_isHour (ci := 8) (a := b0) (As := [.int l1]) dX8_limit_2 lk_X8_64 in_X8_isHour mo_X8_isHour ⟨by decide, rfl⟩ ⟨by decide, by decide⟩ (Nat.le_of_ble_eq_true rfl) k_b0 (sp_X8_isHour k_b0 g_b0_1 k_b0_1 i_1 ?_)
  refine r_if_eq (pc := 5) (tgt := 31) dX8_limit_5 (by decide) (fun q => ?_) (fun q => ?_)
  · have q := (b2i_z _).mp q
    have K0 := K0.1 q
    refine r_bipush (pc := 31) (v := (-2)) dX8_limit_31 (by decide) ?_
    exact s_iret rfl dX8_limit_33 K0
  · have q := b2i_nz q
    have K0 := K0.2 q
    refine r_iload_n (pc := 8) dX8_limit_8 rfl ?_
    refine r_i2l (pc := 9) dX8_limit_9 ?_
    refine r_lconst (pc := 10) (v := 0) dX8_limit_10 (by decide) ?_
    refine r_ldc2 (pc := 11) (v := 9) dX8_limit_11 cn_X8_388 ?_
    refine s_SI (pc := 14) mX8_in (As := [.long ((l2 : Int32).toInt64), .long 0, .long 9]) dX8_limit_14 lk_X8_45 st_X8_in mo_X8_in ⟨by decide, by decide⟩ (Nat.le_of_ble_eq_true rfl) (sq_X8_in (v := l2) (lo := 0) (hi := 9) rfl (by decide) (by decide) ?_)
    refine r_if_eq (pc := 17) (tgt := 31) dX8_limit_17 (by decide) (fun q => ?_) (fun q => ?_)
    · have q := (b2i_z _).mp q
      have K0 := K0.1 q
      refine r_bipush (pc := 31) (v := (-2)) dX8_limit_31 (by decide) ?_
      exact s_iret rfl dX8_limit_33 K0
    · have q := b2i_nz q
      have K0 := K0.2 q
      refine r_iload_n (pc := 20) dX8_limit_20 rfl ?_
      refine r_i2l (pc := 21) dX8_limit_21 ?_
      refine r_lconst (pc := 22) (v := 0) dX8_limit_22 (by decide) ?_
      refine r_iload_n (pc := 23) dX8_limit_23 rfl ?_
      refine r_i2l (pc := 24) dX8_limit_24 ?_
      refine s_SI (pc := 25) mX8_in (As := [.long ((l3 : Int32).toInt64), .long 0, .long ((l2 : Int32).toInt64)]) dX8_limit_25 lk_X8_45 st_X8_in mo_X8_in ⟨by decide, by decide⟩ (Nat.le_of_ble_eq_true rfl) (sq_X8_in (v := l3) (lo := 0) (hi := l2) rfl (by decide) rfl ?_)
      refine r_if_ne (pc := 28) (tgt := 34) dX8_limit_28 (by decide) (fun q => ?_) (fun q => ?_)
      · have q := b2i_nz q
        have K0 := K0.1 q
        refine r_aload_n (pc := 34) dX8_limit_34 rfl ?_
        refine r_iload_n (pc := 35) dX8_limit_35 rfl ?_
        refine r_iload_n (pc := 36) dX8_limit_36 rfl ?_
        refine r_iload_n (pc := 37) dX8_limit_37 rfl ?_
        refine s_VI (pc := 38) mX8_isAbove (ci := 8) (a := b0) (As := [.int l1, .int l2, .int l3]) dX8_limit_38 lk_X8_390 in_X8_isAbove mo_X8_isAbove ⟨by decide, rfl⟩ ⟨by decide, by decide⟩ (Nat.le_of_ble_eq_true rfl) k_b0 (mSI_mono K0 (fun r_6 y_5 K0 => ?_))
        refine r_if_eq (pc := 41) (tgt := 47) dX8_limit_41 (by decide) (fun q => ?_) (fun q => ?_)
        · have K0 := K0.1 q
          refine r_aload_n (pc := 47) dX8_limit_47 rfl ?_
          obtain ⟨g_8, K0⟩ := K0
          refine s_getR (pc := 48) dX8_limit_48 fl_X8_9 rfl k_b0 g_8 ?_
          refine r_bipush (pc := 51) (v := 6) dX8_limit_51 (by decide) ?_
          refine r_iconst (pc := 53) (v := 2) dX8_limit_53 (by decide) ?_
          refine r_iload_n (pc := 54) dX8_limit_54 rfl ?_
          refine r_imul (pc := 55) dX8_limit_55 ?_
          refine r_iadd (pc := 56) dX8_limit_56 ?_
          obtain ⟨i_9, K0⟩ := K0
          refine s_iald (pc := 57) dX8_limit_57 k_b0_1 i_9 ?_
          refine r_istore (pc := 58) dX8_limit_58 (by decide) ?_
          refine r_aload_n (pc := 60) (L := [some (.ref b0), some (.int l1), some (.int l2), some (.int l3), some (.int (gi y_5 b0_1 ((6 + (2 * l1)) : Int32).toNatClampNeg)), none]) dX8_limit_60 rfl ?_
          refine s_getR (pc := 61) dX8_limit_61 fl_X8_9 rfl k_b0 g_8 ?_
          refine r_bipush (pc := 64) (v := 6) dX8_limit_64 (by decide) ?_
          refine r_iconst (pc := 66) (v := 2) dX8_limit_66 (by decide) ?_
          refine r_iload_n (pc := 67) dX8_limit_67 rfl ?_
          refine r_imul (pc := 68) dX8_limit_68 ?_
          refine r_iadd (pc := 69) dX8_limit_69 ?_
          refine r_iconst (pc := 70) (v := 1) dX8_limit_70 (by decide) ?_
          refine r_iadd (pc := 71) dX8_limit_71 ?_
          obtain ⟨i_10, K0⟩ := K0
          refine s_iald (pc := 72) dX8_limit_72 k_b0_1 i_10 ?_
          refine r_istore (pc := 73) dX8_limit_73 (by decide) ?_
          refine r_iload (pc := 75) (L := [some (.ref b0), some (.int l1), some (.int l2), some (.int l3), some (.int (gi y_5 b0_1 ((6 + (2 * l1)) : Int32).toNatClampNeg)), some (.int (gi y_5 b0_1 (((6 + (2 * l1)) + 1) : Int32).toNatClampNeg))]) dX8_limit_75 rfl ?_
          refine r_iload_n (pc := 77) dX8_limit_77 rfl ?_
          refine r_icmp_ne (pc := 78) (tgt := 87) dX8_limit_78 (by decide) (fun q => ?_) (fun q => ?_)
          · have K0 := K0.1 q
            refine r_aload_n (pc := 87) dX8_limit_87 rfl ?_
            refine s_VV (pc := 88) mX8_keeps (ci := 8) (a := b0) (As := []) dX8_limit_88 lk_X8_366 in_X8_keeps mo_X8_keeps ⟨by decide, rfl⟩ ⟨by decide, by decide⟩ (Nat.le_of_ble_eq_true rfl) k_b0 (mSV_mono K0 (fun y_12 K0 => ?_))
            refine r_aload_n (pc := 91) dX8_limit_91 rfl ?_
            obtain ⟨g_13, K0⟩ := K0
            refine s_getR (pc := 92) dX8_limit_92 fl_X8_9 rfl k_b0 g_13 ?_
            refine r_bipush (pc := 95) (v := 6) dX8_limit_95 (by decide) ?_
            refine r_iconst (pc := 97) (v := 2) dX8_limit_97 (by decide) ?_
            refine r_iload_n (pc := 98) dX8_limit_98 rfl ?_
            refine r_imul (pc := 99) dX8_limit_99 ?_
            refine r_iadd (pc := 100) dX8_limit_100 ?_
            refine r_iload_n (pc := 101) dX8_limit_101 rfl ?_
            refine s_iast (pc := 102) dX8_limit_102 k_b0_1 i_9 ?_
            refine r_aload_n (pc := 103) dX8_limit_103 rfl ?_
            refine s_getR (pc := 104) dX8_limit_104 fl_X8_9 rfl k_b0 g_13 ?_
            refine r_bipush (pc := 107) (v := 6) dX8_limit_107 (by decide) ?_
            refine r_iconst (pc := 109) (v := 2) dX8_limit_109 (by decide) ?_
            refine r_iload_n (pc := 110) dX8_limit_110 rfl ?_
            refine r_imul (pc := 111) dX8_limit_111 ?_
            refine r_iadd (pc := 112) dX8_limit_112 ?_
            refine r_iconst (pc := 113) (v := 1) dX8_limit_113 (by decide) ?_
            refine r_iadd (pc := 114) dX8_limit_114 ?_
            refine r_iload_n (pc := 115) dX8_limit_115 rfl ?_
            refine s_iast (pc := 116) dX8_limit_116 k_b0_1 i_10 ?_
            refine r_bipush (pc := 117) (v := 10) dX8_limit_117 (by decide) ?_
            refine r_iload (pc := 119) dX8_limit_119 rfl ?_
            refine r_imul (pc := 121) dX8_limit_121 ?_
            refine r_iload (pc := 122) dX8_limit_122 rfl ?_
            refine r_iadd (pc := 124) dX8_limit_124 ?_
            exact s_iret rfl dX8_limit_125 K0
          · have K0 := K0.2 q
            refine r_iload (pc := 81) dX8_limit_81 rfl ?_
            refine r_iload_n (pc := 83) dX8_limit_83 rfl ?_
            refine r_icmp_eq (pc := 84) (tgt := 91) dX8_limit_84 (by decide) (fun q => ?_) (fun q => ?_)
            · have K0 := K0.1 q
              refine r_aload_n (pc := 91) dX8_limit_91 rfl ?_
              refine s_getR (pc := 92) dX8_limit_92 fl_X8_9 rfl k_b0 g_8 ?_
              refine r_bipush (pc := 95) (v := 6) dX8_limit_95 (by decide) ?_
              refine r_iconst (pc := 97) (v := 2) dX8_limit_97 (by decide) ?_
              refine r_iload_n (pc := 98) dX8_limit_98 rfl ?_
              refine r_imul (pc := 99) dX8_limit_99 ?_
              refine r_iadd (pc := 100) dX8_limit_100 ?_
              refine r_iload_n (pc := 101) dX8_limit_101 rfl ?_
              refine s_iast (pc := 102) dX8_limit_102 k_b0_1 i_9 ?_
              refine r_aload_n (pc := 103) dX8_limit_103 rfl ?_
              refine s_getR (pc := 104) dX8_limit_104 fl_X8_9 rfl k_b0 g_8 ?_
              refine r_bipush (pc := 107) (v := 6) dX8_limit_107 (by decide) ?_
              refine r_iconst (pc := 109) (v := 2) dX8_limit_109 (by decide) ?_
              refine r_iload_n (pc := 110) dX8_limit_110 rfl ?_
              refine r_imul (pc := 111) dX8_limit_111 ?_
              refine r_iadd (pc := 112) dX8_limit_112 ?_
              refine r_iconst (pc := 113) (v := 1) dX8_limit_113 (by decide) ?_
              refine r_iadd (pc := 114) dX8_limit_114 ?_
              refine r_iload_n (pc := 115) dX8_limit_115 rfl ?_
              refine s_iast (pc := 116) dX8_limit_116 k_b0_1 i_10 ?_
              refine r_bipush (pc := 117) (v := 10) dX8_limit_117 (by decide) ?_
              refine r_iload (pc := 119) dX8_limit_119 rfl ?_
              refine r_imul (pc := 121) dX8_limit_121 ?_
              refine r_iload (pc := 122) dX8_limit_122 rfl ?_
              refine r_iadd (pc := 124) dX8_limit_124 ?_
              exact s_iret rfl dX8_limit_125 K0
            · have K0 := K0.2 q
              refine r_aload_n (pc := 87) dX8_limit_87 rfl ?_
              refine s_VV (pc := 88) mX8_keeps (ci := 8) (a := b0) (As := []) dX8_limit_88 lk_X8_366 in_X8_keeps mo_X8_keeps ⟨by decide, rfl⟩ ⟨by decide, by decide⟩ (Nat.le_of_ble_eq_true rfl) k_b0 (mSV_mono K0 (fun y_15 K0 => ?_))
              refine r_aload_n (pc := 91) dX8_limit_91 rfl ?_
              obtain ⟨g_16, K0⟩ := K0
              refine s_getR (pc := 92) dX8_limit_92 fl_X8_9 rfl k_b0 g_16 ?_
              refine r_bipush (pc := 95) (v := 6) dX8_limit_95 (by decide) ?_
              refine r_iconst (pc := 97) (v := 2) dX8_limit_97 (by decide) ?_
              refine r_iload_n (pc := 98) dX8_limit_98 rfl ?_
              refine r_imul (pc := 99) dX8_limit_99 ?_
              refine r_iadd (pc := 100) dX8_limit_100 ?_
              refine r_iload_n (pc := 101) dX8_limit_101 rfl ?_
              refine s_iast (pc := 102) dX8_limit_102 k_b0_1 i_9 ?_
              refine r_aload_n (pc := 103) dX8_limit_103 rfl ?_
              refine s_getR (pc := 104) dX8_limit_104 fl_X8_9 rfl k_b0 g_16 ?_
              refine r_bipush (pc := 107) (v := 6) dX8_limit_107 (by decide) ?_
              refine r_iconst (pc := 109) (v := 2) dX8_limit_109 (by decide) ?_
              refine r_iload_n (pc := 110) dX8_limit_110 rfl ?_
              refine r_imul (pc := 111) dX8_limit_111 ?_
              refine r_iadd (pc := 112) dX8_limit_112 ?_
              refine r_iconst (pc := 113) (v := 1) dX8_limit_113 (by decide) ?_
              refine r_iadd (pc := 114) dX8_limit_114 ?_
              refine r_iload_n (pc := 115) dX8_limit_115 rfl ?_
              refine s_iast (pc := 116) dX8_limit_116 k_b0_1 i_10 ?_
              refine r_bipush (pc := 117) (v := 10) dX8_limit_117 (by decide) ?_
              refine r_iload (pc := 119) dX8_limit_119 rfl ?_
              refine r_imul (pc := 121) dX8_limit_121 ?_
              refine r_iload (pc := 122) dX8_limit_122 rfl ?_
              refine r_iadd (pc := 124) dX8_limit_124 ?_
              exact s_iret rfl dX8_limit_125 K0
        · have K0 := K0.2 q
          refine r_bipush (pc := 44) (v := (-6)) dX8_limit_44 (by decide) ?_
          exact s_iret rfl dX8_limit_46 K0
      · have q := (b2i_z _).mp q
        have K0 := K0.2 q
        refine r_bipush (pc := 31) (v := (-2)) dX8_limit_31 (by decide) ?_
        exact s_iret rfl dX8_limit_33 K0
section
variable {x : Cn} {Q : Int32 → Cn → Prop}
theorem sq_X8_limit {y : Cn} {Q : Int32 → Cn → Prop} {T : TT} {W C S A N n : Nat} {H : Nat → TT} {a b c : Int32} (r : RS y T n H) (F : WF T W C S A N) (k1 : ¬ ((0 < nI W ∧ 0 ≤ a ∧ a < 24) ∧ (0 ≤ b ∧ b ≤ 9) ∧ (0 ≤ c ∧ c ≤ b)) → Q (-2) y) (k2 : ∀ h p q, a = nI h → b = nI p → c = nI q → h < 24 → p ≤ 9 → q ≤ p → 0 < nI W → ¬ bP (abv T S W N h p q) = 0 → Q (-6) y) (k3 : ∀ h p q, a = nI h → b = nI p → c = nI q → h < 24 → p ≤ 9 → q ≤ p → 0 < nI W → bP (abv T S W N h p q) = 0 → T (6 + 2 * h) = nI p → T (7 + 2 * h) = nI q → ∀ z, RFr y z → RS z T n H → Q ((10 * T (6 + 2 * h)) + T (7 + 2 * h)) z) (k4 : ∀ h p q, a = nI h → b = nI p → c = nI q → h < 24 → p ≤ 9 → q ≤ p → 0 < nI W → bP (abv T S W N h p q) = 0 → ¬ (T (6 + 2 * h) = nI p ∧ T (7 + 2 * h) = nI q) → ∀ z, RFr y z → RS z (lmT T h (nI p) (nI q)) (pn n) (push H n T) → Q ((10 * T (6 + 2 * h)) + T (7 + 2 * h)) z) : mSI mX8_limit [.ref 717, .int a, .int b, .int c] KW y Q := by
  have hW : W ≤ 30 := F.2.2.1
  have M := r.1
  refine v_X8_limit_0 km M.1 km1 ⟨v0 (k := 0) (by decide) rfl rfl, ?_⟩
  rw [r.2.1, F.1, d24]
  refine ⟨fun z => k1 (fun u => z u.1), fun z1 => ⟨fun z => k1 (fun u => z u.2.1), fun z2 => ⟨fun z3 => ?_, fun z => k1 (fun u => z u.2.2)⟩⟩⟩
  obtain ⟨h, hh, rfl⟩ := inN (n := 24) (by decide) z1.2
  obtain ⟨p, hp, rfl⟩ := nI_of2 (M := 9) (n := 9) (by decide) (Int32.not_lt.mpr z2.1) z2.2
  obtain ⟨q, hq, rfl⟩ := nI_of (Int32.not_lt.mpr z3.1)
  have hqp : q ≤ p := (nI_leI hq (by omega)).mp z3.2
  have k2 := k2 h p q rfl rfl rfl hh hp hqp z1.1
  have k3 := k3 h p q rfl rfl rfl hh hp hqp z1.1
  have k4 := k4 h p q rfl rfl rfl hh hp hqp z1.1
  refine sp_X8_isAbove M (by rw [r.2.1]; exact F) hh hp (by omega) ?_
  rw [r.2.1, ixh1, ixh, nI_clamp (show 6 + 2 * h < 2 ^ 31 by omega), nI_clamp (show 7 + 2 * h < 2 ^ 31 by omega)]
  refine ⟨fun u => ⟨M.1, vp_in_nI (by omega) (by decide), vp_in_nI (by omega) (by decide), ?_⟩, fun u => k2 u⟩
  have wr : ¬ (T (6 + 2 * h) = nI p ∧ T (7 + 2 * h) = nI q) → mSV mX8_keeps [.ref 717] KW y (fun y_12 => gr y_12 717 1 = some 718 ∧ (Q ((10 * T (6 + 2 * h)) + T (7 + 2 * h)) (ui (ui y_12 718 (6 + 2 * h) (nI p)) 718 (7 + 2 * h) (nI q)))) := fun g => r.keeps (fun z f1 r1 => ⟨r1.1.1, k4 u g _ f1.u8.u8 r1.u8.u8⟩)
  refine ⟨fun v => wr (fun g => v g.1), fun v => ⟨fun v2 => ?_, fun v2 => wr (fun g => v2 g.2)⟩⟩
  refine k3 u v v2 _ (RFr.rf y).u8.u8 ?_
  have := (r.u8 (k := 6 + 2 * h) (v := nI p)).u8 (k := 7 + 2 * h) (v := nI q)
  have e : uT (uT T (6 + 2 * h) (nI p)) (7 + 2 * h) (nI q) = T := by
    funext i
    unfold uT
    by_cases c1 : i = 7 + 2 * h
    · rw [if_pos c1, c1]; exact v2.symm
    · rw [if_neg c1]
      by_cases c2 : i = 6 + 2 * h
      · rw [if_pos c2, c2]; exact v.symm
      · rw [if_neg c2]
  rwa [e] at this
theorem AC.lim {x y : Cn} {W C S A N n h p q : Nat} {T : TT} {H : Nat → TT} (a : AC x y W C S A N n T H) (hh : h < 24) (hp : p ≤ 10) (hq : q ≤ 10) : AC x (ui (ui y 3 h (nI p)) 4 h (nI q)) W C S A N n (lmT T h (nI p) (nI q)) H := by
  have E := a.2.2.2.2
  obtain ⟨e1, e2, ⟨v0, v1, v2, v3, v4, v5, v6, v7⟩, w1, w2, w3, w4, w5, w6, w7, w8, w9, w10, w11, w12, w13, w14⟩ := E
  obtain ⟨r1, r2, r3, r4, r5, r6, r7, r8, r9⟩ := id e2
  have eo : ∀ b k, b ≠ 3 → b ≠ 4 → gi (ui (ui y 3 h (nI p)) 4 h (nI q)) b k = gi y b k := fun b k c1 c2 => by rw [gi_ui, if_neg (fun z => c2 z.1), gi_ui, if_neg (fun z => c1 z.1)]
  have eT : ∀ i, i ≠ 6 + 2 * h → i ≠ 7 + 2 * h → lmT T h (nI p) (nI q) i = T i := fun i c1 c2 => by unfold lmT; rw [uT_ne _ _ c2, uT_ne _ _ c1]
  have e6 : lmT T h (nI p) (nI q) (6 + 2 * h) = nI p := by unfold lmT; rw [uT_ne _ _ (by omega), uT_at]
  have e7 : lmT T h (nI p) (nI q) (7 + 2 * h) = nI q := by unfold lmT; rw [uT_at]
  refine a.up (fun b k c => eo b k (by omega) (by omega)) rfl ⟨e1, e2.keep rfl, ⟨?_, ?_, ?_, ?_, ?_, ?_, ?_, ?_⟩, ?_⟩
  · rw [eo 2 0 (by omega) (by omega), eT 0 (by omega) (by omega)]; exact v0
  · rw [eo 2 1 (by omega) (by omega), eT 4 (by omega) (by omega)]; exact v1
  · rw [eo 2 2 (by omega) (by omega), eT 5 (by omega) (by omega)]; exact v2
  · rw [eo 2 3 (by omega) (by omega), eT 2 (by omega) (by omega)]; exact v3
  · rw [eo 2 4 (by omega) (by omega), eT 3 (by omega) (by omega)]; exact v4
  · intro i hi
    by_cases c : i = h
    · subst c
      rw [e6, e7]
      exact ⟨by rw [gi_ui, if_neg (by omega), gi_ui, if_pos ⟨rfl, rfl⟩], by rw [gi_ui, if_pos ⟨rfl, rfl⟩]⟩
    · rw [eT _ (by omega) (by omega), eT _ (by omega) (by omega), gi_ui, if_neg (by omega), gi_ui, if_neg (by omega), gi_ui, if_neg (by omega), gi_ui, if_neg (by omega)]
      exact v5 i hi
  · intro s p' hs hp'
    obtain ⟨j, hj, ej⟩ := r6 s (by omega)
    have ep : p' = 2 + 6 + j := Option.some.inj (hp'.symm.trans ej)
    exact (v6 s p' hs hp').cg (fun k _ => eo p' k (by omega) (by omega)) (fun k hk => eT _ (by omega) (by omega))
  · intro s p' hs hp'
    obtain ⟨j, hj, ej⟩ := r8 s (by omega)
    have ep : p' = 2 + 30 + j := Option.some.inj (hp'.symm.trans ej)
    exact (v7 s p' hs hp').cg (fun k _ => eo p' k (by omega) (by omega)) (fun k hk => eT _ (by omega) (by omega))
  · refine ⟨by rw [eT 0 (by omega) (by omega)]; exact w1, w2, w3, by rw [eT 1 (by omega) (by omega)]; exact w4, w5, by rw [eT 2 (by omega) (by omega)]; exact w6, w7, by rw [eT 3 (by omega) (by omega)]; exact w8, w9, by rw [eT 4 (by omega) (by omega)]; exact w10, w11, fun i hi => ?_, fun s hs => (w13 s hs).cg (fun k hk => eT _ (by omega) (by omega)), fun a ha => (w14 a ha).cg (fun k hk => eT _ (by omega) (by omega))⟩
    by_cases c : i = h
    · subst c
      rw [e6, e7]
      exact ⟨p, q, hp, hq, rfl, rfl⟩
    · rw [eT _ (by omega) (by omega), eT _ (by omega) (by omega)]
      exact w12 i hi
end
theorem eq_limit (a b c : Int32) : Both mX7_limit mX8_limit [.int a, .int b, .int c] := by
  intro x R
  obtain ⟨W, C, S, A, N, n, H, ac, rs, nm⟩ := R.ac
  have E := ac.2.2.2.2
  have hn := E.nums
  have hW : W ≤ 30 := hn.2.2.2.2.1
  have hC : C ≤ 8 := hn.2.2.2.2.2.1
  have no : ¬ ((0 < nI W ∧ 0 ≤ a ∧ a < 24) ∧ (0 ≤ b ∧ b ≤ 9) ∧ (0 ≤ c ∧ c ≤ b)) → mSI mX8_limit [.ref 717, .int a, .int b, .int c] KW x (fun r' z => -2 = r' ∧ Rel z) := by
    intro g
    have ab : ∀ h p q, a = nI h → b = nI p → c = nI q → h < 24 → p ≤ 9 → q ≤ p → 0 < nI W → False := fun h p q e1 e2 e3 h1 h2 h3 h4 => g (by
      rw [e1, e2, e3]
      exact ⟨⟨h4, nI_pos' (by omega), nI_lt (b := 24) h1 (by decide)⟩, ⟨nI_pos' (by omega), nI_le (b := 9) h2 (by decide)⟩, nI_pos' (by omega), nI_le h3 (by omega)⟩)
    exact sq_X8_limit rs E.2.2.2 (fun _ => ⟨rfl, R⟩) (fun h p q e1 e2 e3 h1 h2 h3 h4 => (ab h p q e1 e2 e3 h1 h2 h3 h4).elim) (fun h p q e1 e2 e3 h1 h2 h3 h4 => (ab h p q e1 e2 e3 h1 h2 h3 h4).elim) (fun h p q e1 e2 e3 h1 h2 h3 h4 => (ab h p q e1 e2 e3 h1 h2 h3 h4).elim)
  refine v_X7_limit_0 k0 R.1.2.1 (ks0 E.1) ?_
  rw [hn.1]
  refine ⟨fun z => no (fun u => z u.1), fun z1 => ⟨fun z => no (fun u => z u.2.1), fun z2 => ⟨fun z3 => ?_, fun z => no (fun u => z u.2.2)⟩⟩⟩
  obtain ⟨h, hh, rfl⟩ := inN (n := 24) (by decide) z1.2
  obtain ⟨p, hp, rfl⟩ := nI_of2 (M := 9) (n := 9) (by decide) (Int32.not_lt.mpr z2.1) z2.2
  obtain ⟨q, hq, rfl⟩ := nI_of (Int32.not_lt.mpr z3.1)
  have hqp : q ≤ p := (nI_leI hq (by omega)).mp z3.2
  have inj : ∀ h' p' q', nI h = nI h' → nI p = nI p' → nI q = nI q' → h' < 24 → p' ≤ 9 → q' ≤ p' → h' = h ∧ p' = p ∧ q' = q := fun h' p' q' e1 e2 e3 g1 g2 g3 => ⟨((nI_eq (by omega) (by omega)).mp e1).symm, ((nI_eq (by omega) (by omega)).mp e2).symm, ((nI_eq (by omega) (by omega)).mp e3).symm⟩
  refine sp_X4_holdsMore E hh hp (by omega) (fun y hy => ?_)
  have ay := ac.e7 hy
  have Ey := ay.2.2.2.2
  rw [nI_clamp (show h < 2 ^ 31 by omega)]
  have l5 := Ey.2.2.1.2.2.2.2.2.1 h hh
  refine ⟨fun u => ⟨ay.2.1.2.1, 3, Ey.2.1.1, 24, ks1 E.1, vp_in_nI hh (by decide), 4, Ey.2.1.2.1, 24, ks2 E.1, vp_in_nI hh (by decide), ?_⟩, fun u => ?_⟩
  · rw [show gi y 3 h = gi x 718 (6 + 2 * h) from l5.1, show gi y 4 h = gi x 718 (7 + 2 * h) from l5.2]
    have go : ¬ (gi x 718 (6 + 2 * h) = nI p ∧ gi x 718 (7 + 2 * h) = nI q) → mSV mX7_remember [.ref 0] KW y (fun y_19 => gr y_19 0 2 = some 2 ∧ (∃ c_21, gr y_19 2 5 = some c_21 ∧ (∃ n_24, kk KW c_21 = some (20, n_24) ∧ (vp_in (nI h) n_24 ∧ (∃ c_26, gr y_19 2 6 = some c_26 ∧ (∃ n_29, kk KW c_26 = some (20, n_29) ∧ (vp_in (nI h) n_29 ∧ (mSI mX8_limit [.ref 717, .int (nI h), .int (nI p), .int (nI q)] KW (ui (ui y_19 c_21 h (nI p)) c_26 h (nI q)) (fun r' z => ((10 * gi x 718 (6 + 2 * h)) + gi x 718 (7 + 2 * h)) = r' ∧ Rel z))))))))) := by
      intro g
      refine ay.rem (fun _ _ => rfl) (fun z az z1' z2' => ⟨az.2.1.2.1, 3, az.2.2.2.2.2.1.1, 24, ks1 E.1, vp_in_nI hh (by decide), 4, az.2.2.2.2.2.1.2.1, 24, ks2 E.1, vp_in_nI hh (by decide), ?_⟩)
      have a2 := az.lim hh (show p ≤ 10 by omega) (show q ≤ 10 by omega)
      refine sq_X8_limit (a2.rs rs) E.2.2.2 (fun v => absurd ⟨z1, z2, z3⟩ v) (fun h' p' q' e1 e2 e3 g1 g2 g3 _ v => ?_) (fun h' p' q' e1 e2 e3 g1 g2 g3 _ _ v1 v2 => ?_) (fun h' p' q' e1 e2 e3 g1 g2 g3 _ _ _ v f r2 => ?_) <;> obtain ⟨rfl, rfl, rfl⟩ := inj h' p' q' e1 e2 e3 g1 g2 g3
      · exact absurd u v
      · exact absurd ⟨v1, v2⟩ g
      · refine ⟨rfl, a2.fin R nm (fun c hc => ?_) f r2⟩
        unfold lmT
        rw [uT_ne _ _ (by omega), uT_ne _ _ (by omega)]
    refine ⟨fun v => go (fun g => v g.1), fun v => ⟨fun v2 => ?_, fun v2 => go (fun g => v2 g.2)⟩⟩
    refine sq_X8_limit (ay.rs rs) E.2.2.2 (fun v => absurd ⟨z1, z2, z3⟩ v) (fun h' p' q' e1 e2 e3 g1 g2 g3 _ w => ?_) (fun h' p' q' e1 e2 e3 g1 g2 g3 _ _ _ _ z f r2 => ?_) (fun h' p' q' e1 e2 e3 g1 g2 g3 _ _ w => ?_) <;> obtain ⟨rfl, rfl, rfl⟩ := inj h' p' q' e1 e2 e3 g1 g2 g3
    · exact absurd u w
    · exact ⟨rfl, ay.fin R nm (fun _ _ => rfl) f r2⟩
    · exact absurd ⟨v, v2⟩ w
  · refine sq_X8_limit (ay.rs rs) E.2.2.2 (fun v => absurd ⟨z1, z2, z3⟩ v) (fun h' p' q' e1 e2 e3 g1 g2 g3 _ w => ⟨rfl, (R.e7 hy).1⟩) (fun h' p' q' e1 e2 e3 g1 g2 g3 _ w => ?_) (fun h' p' q' e1 e2 e3 g1 g2 g3 _ w => ?_) <;> obtain ⟨rfl, rfl, rfl⟩ := inj h' p' q' e1 e2 e3 g1 g2 g3
    · exact absurd w u
    · exact absurd w u


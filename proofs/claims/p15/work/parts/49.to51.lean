/-! 49.limit.lean.txt -/
section
/-- an hour would have more than so many -/
def abv (T : TT) (S W N h n m : Nat) : Prop := ∃ i d, N ≤ i ∧ i < W ∧ d < 7 ∧ (n < nW T S i (nI d) (nI h) 0 0 ∨ m < nW T S i (nI d) (nI h) 1 0)
theorem nW_le (T : TT) {S : Nat} (hS : S ≤ 24) (i : Nat) (d h io wo : Int32) : nW T S i d h io wo ≤ 24 := Nat.le_trans (cnt_le _ _) hS
set_option maxHeartbeats 2000000 in
theorem v_X4_holdsMore_0 {K : Sh} {x : Cn} {Q : Int32 → Cn → Prop} {b0 : Nat} {l1 : Int32} {l2 : Int32} {l3 : Int32}   (K0 : GI mX4_holdsMore 6 [some (.ref b0), some (.int l1), some (.int l2), some (.int l3), some (.int 0), some (.int 0)] [] K x Q) : mSI mX4_holdsMore [.ref b0, .int l1, .int l2, .int l3] K x Q := by
  refine s_I (by decide) (by simp [Value.category]) (Nat.le_of_ble_eq_true rfl) ?_
  show mGM mX4_holdsMore 0 [some (.ref b0), some (.int l1), some (.int l2), some (.int l3), none, none] [] (hp K x) (PI K Q)
  refine r_iconst (pc := 0) (v := 0) dX4_holdsMore_0 (by decide) ?_
  refine r_istore (pc := 1) dX4_holdsMore_1 (by decide) ?_
  refine r_iconst (pc := 3) (L := [some (.ref b0), some (.int l1), some (.int l2), some (.int l3), some (.int 0), none]) (v := 0) dX4_holdsMore_3 (by decide) ?_
  refine r_istore (pc := 4) dX4_holdsMore_4 (by decide) ?_
  exact r_le (L' := [some (.ref b0), some (.int l1), some (.int l2), some (.int l3), some (.int 0), some (.int 0)]) ⟨rfl, ⟨rfl, ⟨rfl, ⟨rfl, ⟨rfl, ⟨rfl, trivial⟩⟩⟩⟩⟩⟩ K0
set_option maxHeartbeats 2000000 in
theorem v_X4_holdsMore_6 {K : Sh} {x : Cn} {Q : Int32 → Cn → Prop} {b0 : Nat} {l1 : Int32} {l2 : Int32} {l3 : Int32} {l4 : Int32} {l5 : Int32}  (k_b0 : kk K b0 = some (4, 0)) (K0 : (7 ≤ l5 → (((l4 &&& (f_wtc (gi x b0 1) (gi x b0 0))) = 0 → (Q 0 x)) ∧ (¬ (l4 &&& (f_wtc (gi x b0 1) (gi x b0 0))) = 0 → (Q 1 x)))) ∧ (¬ 7 ≤ l5 → (mSI mX4_weeksLoaded [.ref b0, .int l5, .int l1, .int (l2 + 1), .int 0, .int 0] K x (fun r_4 y_3 => mSI mX4_weeksLoaded [.ref b0, .int l5, .int l1, .int (l3 + 1), .int 1, .int 0] K y_3 (fun r_6 y_5 => GI mX4_holdsMore 6 [some (.ref b0), some (.int l1), some (.int l2), some (.int l3), some (.int ((l4 ||| r_4) ||| r_6)), some (.int (l5 + 1))] [] K y_5 Q))))) : GI mX4_holdsMore 6 [some (.ref b0), some (.int l1), some (.int l2), some (.int l3), some (.int l4), some (.int l5)] [] K x Q := by
  show mGM mX4_holdsMore 6 [some (.ref b0), some (.int l1), some (.int l2), some (.int l3), some (.int l4), some (.int l5)] [] (hp K x) (PI K Q)
  refine r_iload (pc := 6) dX4_holdsMore_6 rfl ?_
  refine r_bipush (pc := 8) (v := 7) dX4_holdsMore_8 (by decide) ?_
  refine r_icmp_ge (pc := 10) (tgt := 53) dX4_holdsMore_10 (by decide) (fun q => ?_) (fun q => ?_)
  · have K0 := K0.1 q
    refine r_iload (pc := 53) dX4_holdsMore_53 rfl ?_
    refine r_aload_n (pc := 55) dX4_holdsMore_55 rfl ?_
    refine s_VI (pc := 56) mX4_weeksToCome (ci := 4) (a := b0) (As := []) dX4_holdsMore_56 lk_X4_141 in_X4_weeksToCome mo_X4_weeksToCome ⟨by decide, rfl⟩ ⟨by decide, by decide⟩ (Nat.le_of_ble_eq_true rfl) k_b0 (sp_X4_weeksToCome k_b0 ?_)
    refine r_iand (pc := 59) dX4_holdsMore_59 ?_
    refine r_if_eq (pc := 60) (tgt := 67) dX4_holdsMore_60 (by decide) (fun q => ?_) (fun q => ?_)
    · have K0 := K0.1 q
      refine r_iconst (pc := 67) (v := 0) dX4_holdsMore_67 (by decide) ?_
      exact s_zret rfl (by decide) dX4_holdsMore_68 K0
    · have K0 := K0.2 q
      refine r_iconst (pc := 63) (v := 1) dX4_holdsMore_63 (by decide) ?_
      refine r_goto (pc := 64) (tgt := 68) dX4_holdsMore_64 (by decide) ?_
      exact s_zret rfl (by decide) dX4_holdsMore_68 K0
  · have K0 := K0.2 q
    refine r_iload (pc := 13) dX4_holdsMore_13 rfl ?_
    refine r_aload_n (pc := 15) dX4_holdsMore_15 rfl ?_
    refine r_iload (pc := 16) dX4_holdsMore_16 rfl ?_
    refine r_iload_n (pc := 18) dX4_holdsMore_18 rfl ?_
    refine r_iload_n (pc := 19) dX4_holdsMore_19 rfl ?_
    refine r_iconst (pc := 20) (v := 1) dX4_holdsMore_20 (by decide) ?_
    refine r_iadd (pc := 21) dX4_holdsMore_21 ?_
    refine r_iconst (pc := 22) (v := 0) dX4_holdsMore_22 (by decide) ?_
    refine r_iconst (pc := 23) (v := 0) dX4_holdsMore_23 (by decide) ?_
    refine s_VI (pc := 24) mX4_weeksLoaded (ci := 4) (a := b0) (As := [.int l5, .int l1, .int (l2 + 1), .int 0, .int 0]) dX4_holdsMore_24 lk_X4_96 in_X4_weeksLoaded mo_X4_weeksLoaded ⟨by decide, rfl⟩ ⟨by decide, by decide⟩ (Nat.le_of_ble_eq_true rfl) k_b0 (mSI_mono K0 (fun r_4 y_3 K0 => ?_))
    refine r_ior (pc := 27) dX4_holdsMore_27 ?_
    refine r_istore (pc := 28) dX4_holdsMore_28 (by decide) ?_
    refine r_iload (pc := 30) (L := [some (.ref b0), some (.int l1), some (.int l2), some (.int l3), some (.int (l4 ||| r_4)), some (.int l5)]) dX4_holdsMore_30 rfl ?_
    refine r_aload_n (pc := 32) dX4_holdsMore_32 rfl ?_
    refine r_iload (pc := 33) dX4_holdsMore_33 rfl ?_
    refine r_iload_n (pc := 35) dX4_holdsMore_35 rfl ?_
    refine r_iload_n (pc := 36) dX4_holdsMore_36 rfl ?_
    refine r_iconst (pc := 37) (v := 1) dX4_holdsMore_37 (by decide) ?_
    refine r_iadd (pc := 38) dX4_holdsMore_38 ?_
    refine r_iconst (pc := 39) (v := 1) dX4_holdsMore_39 (by decide) ?_
    refine r_iconst (pc := 40) (v := 0) dX4_holdsMore_40 (by decide) ?_
    refine s_VI (pc := 41) mX4_weeksLoaded (ci := 4) (a := b0) (As := [.int l5, .int l1, .int (l3 + 1), .int 1, .int 0]) dX4_holdsMore_41 lk_X4_96 in_X4_weeksLoaded mo_X4_weeksLoaded ⟨by decide, rfl⟩ ⟨by decide, by decide⟩ (Nat.le_of_ble_eq_true rfl) k_b0 (mSI_mono K0 (fun r_6 y_5 K0 => ?_))
    refine r_ior (pc := 44) dX4_holdsMore_44 ?_
    refine r_istore (pc := 45) dX4_holdsMore_45 (by decide) ?_
    refine r_iinc (pc := 47) (L := [some (.ref b0), some (.int l1), some (.int l2), some (.int l3), some (.int ((l4 ||| r_4) ||| r_6)), some (.int l5)]) (v := l5 + 1) dX4_holdsMore_47 rfl rfl (by decide) ?_
    refine r_goto (pc := 50) (L := [some (.ref b0), some (.int l1), some (.int l2), some (.int l3), some (.int ((l4 ||| r_4) ||| r_6)), some (.int (l5 + 1))]) (tgt := 6) dX4_holdsMore_50 (by decide) ?_
    exact r_le (L' := [some (.ref b0), some (.int l1), some (.int l2), some (.int l3), some (.int ((l4 ||| r_4) ||| r_6)), some (.int (l5 + 1))]) ⟨rfl, ⟨rfl, ⟨rfl, ⟨rfl, ⟨rfl, ⟨rfl, trivial⟩⟩⟩⟩⟩⟩ K0
section
variable {x : Cn} {Q : Int32 → Cn → Prop}
theorem sp_X4_holdsMore {q : Nat} {T : TT} {W C S A N : Nat} (E : SEA x q T W C S A N) {h n m : Nat} (hh : h < 24) (hn9 : n ≤ 9) (hm9 : m ≤ 9) (k : ∀ y, EQx x y (q + 5) → Q (bP (abv T S W N h n m)) y) : mSI mX4_holdsMore [.ref q, .int (nI h), .int (nI n), .int (nI m)] KW x Q := by
  have hn := E.nums
  have hS : S ≤ 24 := hn.2.2.2.2.2.2.1
  have hW : W ≤ 30 := hn.2.2.2.2.1
  have hN : N ≤ W := hn.2.2.2.2.2.2.2.2
  have key : ∀ c d l y, d + c = 7 → EQx x y (q + 5) → (∀ i, i < 32 → (tb l i = true ↔ ∃ d', d' < d ∧ (n < nW T S i (nI d') (nI h) 0 0 ∨ m < nW T S i (nI d') (nI h) 1 0))) → GI mX4_holdsMore 6 [some (.ref q), some (.int (nI h)), some (.int (nI n)), some (.int (nI m)), some (.int l), some (.int (nI d))] [] KW y Q := by
    intro c
    induction c with
    | zero =>
      intro d l y hd hy hl
      have : d = 7 := by omega
      subst this
      have hy2 := (E.eqx hy (Or.inl rfl)).nums
      refine v_X4_holdsMore_6 (ks0 E.1) ⟨fun _ => ?_, fun z => absurd (Int32.le_refl _) z⟩
      rw [hy2.1, hy2.2.1]
      have iff : (l &&& f_wtc (nI N) (nI W)) = 0 ↔ ¬ abv T S W N h n m := by
        constructor
        · rintro u ⟨i, d, h1, h2, h3, h4⟩
          have v := congrArg (fun v => tb v i) u
          simp only [tb_0, tb_and, tb_wtc hW hN (show i < 32 by omega), decide_eq_true (show N ≤ i ∧ i < W from ⟨h1, h2⟩), Bool.and_true] at v
          have := (hl i (by omega)).mpr ⟨d, h3, h4⟩
          rw [v] at this
          cases this
        · intro u
          apply tb_ext
          intro i hi
          rw [tb_0, tb_and, tb_wtc hW hN hi]
          by_cases e : N ≤ i ∧ i < W
          · have : ¬ tb l i = true := fun g => by
              obtain ⟨d', h3, h4⟩ := (hl i hi).mp g
              exact u ⟨i, d', e.1, e.2, h3, h4⟩
            rw [Bool.eq_false_iff.mpr this, Bool.false_and]
          · rw [decide_eq_false e, Bool.and_false]
      rw [iff]
      exact ⟨fun u => (bP_k (k y hy)).2 u, fun u => (bP_k (k y hy)).1 (Classical.byContradiction u)⟩
    | succ c ih =>
      intro d l y hd hy hl
      refine v_X4_holdsMore_6 (ks0 E.1) ⟨fun z => absurd z (nI_ge (b := 7) (by omega) (by decide)), fun _ => ?_⟩
      rw [nI_1, nI_1, nI_1]
      have E2 := E.eqx hy (Or.inl rfl)
      refine sp_X4_weeksLoaded E2 (fun r1 y1 hy1 hr1 => ?_)
      refine sp_X4_weeksLoaded (E2.eqx hy1 (Or.inl rfl)) (fun r2 y2 hy2 hr2 => ?_)
      refine ih (d + 1) _ y2 (by omega) ((hy.tr hy1).tr hy2) (fun i hi => ?_)
      have b1 := nW_le T hS i (nI d) (nI h) 0 0
      have b2 := nW_le T hS i (nI d) (nI h) 1 0
      have u1 := hr1 i hi
      have u2 := hr2 i hi
      rw [nI_leI (by omega) (by omega)] at u1 u2
      rw [tb_or, tb_or, Bool.or_eq_true, Bool.or_eq_true, hl i hi, u1, u2]
      constructor
      · rintro ((⟨d', g1, g2⟩ | g) | g)
        · exact ⟨d', by omega, g2⟩
        · exact ⟨d, by omega, Or.inl (by omega)⟩
        · exact ⟨d, by omega, Or.inr (by omega)⟩
      · rintro ⟨d', g1, g2⟩
        by_cases e : d' = d
        · rw [e] at g2
          rcases g2 with g | g
          · exact Or.inl (Or.inr (by omega))
          · exact Or.inr (by omega)
        · exact Or.inl (Or.inl ⟨d', by omega, g2⟩)
  exact v_X4_holdsMore_0 (key 7 0 0 x (by omega) (EQx.rf _ _) (fun i hi => by
    rw [tb_0]
    exact ⟨fun z => (by cases z), fun ⟨d', g, _⟩ => by omega⟩))
end
set_option maxHeartbeats 2000000 in
theorem v_X8_isAbove_0 {K : Sh} {x : Cn} {Q : Int32 → Cn → Prop} {b0 : Nat} {l1 : Int32} {l2 : Int32} {l3 : Int32} {b0_1 : Nat} {n_b0_1 : Nat} (k_b0 : kk K b0 = some (8, 0)) (g_b0_1 : gr x b0 1 = some b0_1) (k_b0_1 : kk K b0_1 = some (20, n_b0_1)) (K0 : vp_in 4 n_b0_1 ∧ (GI mX8_isAbove 8 [some (.ref b0), some (.int l1), some (.int l2), some (.int l3), some (.int (gi x b0_1 4)), none] [] K x Q)) : mSI mX8_isAbove [.ref b0, .int l1, .int l2, .int l3] K x Q := by
  refine s_I (by decide) (by simp [Value.category]) (Nat.le_of_ble_eq_true rfl) ?_
  show mGM mX8_isAbove 0 [some (.ref b0), some (.int l1), some (.int l2), some (.int l3), none, none] [] (hp K x) (PI K Q)
  refine r_aload_n (pc := 0) dX8_isAbove_0 rfl ?_
  refine s_getR (pc := 1) dX8_isAbove_1 fl_X8_9 rfl k_b0 g_b0_1 ?_
  refine r_iconst (pc := 4) (v := 4) dX8_isAbove_4 (by decide) ?_
  obtain ⟨i_1, K0⟩ := K0
  refine s_iald (pc := 5) dX8_isAbove_5 k_b0_1 i_1 ?_
  refine r_istore (pc := 6) dX8_isAbove_6 (by decide) ?_
  exact r_le (L' := [some (.ref b0), some (.int l1), some (.int l2), some (.int l3), some (.int (gi x b0_1 4)), none]) ⟨rfl, ⟨rfl, ⟨rfl, ⟨rfl, ⟨rfl, trivial⟩⟩⟩⟩⟩ K0
set_option maxHeartbeats 2000000 in
theorem v_X8_isAbove_8 {K : Sh} {x : Cn} {Q : Int32 → Cn → Prop} {b0 : Nat} {l1 : Int32} {l2 : Int32} {l3 : Int32} {l4 : Int32} {b0_1 : Nat} {n_b0_1 : Nat} (k_b0 : kk K b0 = some (8, 0)) (g_b0_1 : gr x b0 1 = some b0_1) (k_b0_1 : kk K b0_1 = some (20, n_b0_1)) (K0 : vp_in 0 n_b0_1 ∧ (((gi x b0_1 0) ≤ l4 → (Q 0 x)) ∧ (¬ (gi x b0_1 0) ≤ l4 → (GI mX8_isAbove 22 [some (.ref b0), some (.int l1), some (.int l2), some (.int l3), some (.int l4), some (.int 0)] [] K x Q)))) : GI mX8_isAbove 8 [some (.ref b0), some (.int l1), some (.int l2), some (.int l3), some (.int l4), none] [] K x Q := by
  show mGM mX8_isAbove 8 [some (.ref b0), some (.int l1), some (.int l2), some (.int l3), some (.int l4), none] [] (hp K x) (PI K Q)
  refine r_iload (pc := 8) dX8_isAbove_8 rfl ?_
  refine r_aload_n (pc := 10) dX8_isAbove_10 rfl ?_
  refine s_getR (pc := 11) dX8_isAbove_11 fl_X8_9 rfl k_b0 g_b0_1 ?_
  refine r_iconst (pc := 14) (v := 0) dX8_isAbove_14 (by decide) ?_
  obtain ⟨i_1, K0⟩ := K0
  refine s_iald (pc := 15) dX8_isAbove_15 k_b0_1 i_1 ?_
  refine r_icmp_ge (pc := 16) (tgt := 73) dX8_isAbove_16 (by decide) (fun q => ?_) (fun q => ?_)
  · have K0 := K0.1 q
    refine r_iconst (pc := 73) (v := 0) dX8_isAbove_73 (by decide) ?_
    exact s_zret rfl (by decide) dX8_isAbove_74 K0
  · have K0 := K0.2 q
    refine r_iconst (pc := 19) (v := 0) dX8_isAbove_19 (by decide) ?_
    refine r_istore (pc := 20) dX8_isAbove_20 (by decide) ?_
    exact r_le (L' := [some (.ref b0), some (.int l1), some (.int l2), some (.int l3), some (.int l4), some (.int 0)]) ⟨rfl, ⟨rfl, ⟨rfl, ⟨rfl, ⟨rfl, ⟨rfl, trivial⟩⟩⟩⟩⟩⟩ K0
set_option maxHeartbeats 2000000 in
theorem v_X8_isAbove_22 {K : Sh} {x : Cn} {Q : Int32 → Cn → Prop} {b0 : Nat} {l1 : Int32} {l2 : Int32} {l3 : Int32} {l4 : Int32} {l5 : Int32}  (k_b0 : kk K b0 = some (8, 0)) (K0 : (7 ≤ l5 → (GI mX8_isAbove 8 [some (.ref b0), some (.int l1), some (.int l2), some (.int l3), some (.int (l4 + 1)), none] [] K x Q)) ∧ (¬ 7 ≤ l5 → (mSI mX8_loadBut [.ref b0, .int l4, .int l5, .int l1, .int 0, .int (-1)] K x (fun r_3 y_2 => (l2 < r_3 → (Q 1 y_2)) ∧ (¬ l2 < r_3 → (mSI mX8_loadBut [.ref b0, .int l4, .int l5, .int l1, .int 1, .int (-1)] K y_2 (fun r_6 y_5 => (r_6 ≤ l3 → (GI mX8_isAbove 22 [some (.ref b0), some (.int l1), some (.int l2), some (.int l3), some (.int l4), some (.int (l5 + 1))] [] K y_5 Q)) ∧ (¬ r_6 ≤ l3 → (Q 1 y_5))))))))) : GI mX8_isAbove 22 [some (.ref b0), some (.int l1), some (.int l2), some (.int l3), some (.int l4), some (.int l5)] [] K x Q := by
  show mGM mX8_isAbove 22 [some (.ref b0), some (.int l1), some (.int l2), some (.int l3), some (.int l4), some (.int l5)] [] (hp K x) (PI K Q)
  refine r_iload (pc := 22) dX8_isAbove_22 rfl ?_
  refine r_bipush (pc := 24) (v := 7) dX8_isAbove_24 (by decide) ?_
  refine r_icmp_ge (pc := 26) (tgt := 67) dX8_isAbove_26 (by decide) (fun q => ?_) (fun q => ?_)
  · have K0 := K0.1 q
    refine r_iinc (pc := 67) (v := l4 + 1) dX8_isAbove_67 rfl rfl (by decide) ?_
    refine r_goto (pc := 70) (L := [some (.ref b0), some (.int l1), some (.int l2), some (.int l3), some (.int (l4 + 1)), some (.int l5)]) (tgt := 8) dX8_isAbove_70 (by decide) ?_
    exact r_le (L' := [some (.ref b0), some (.int l1), some (.int l2), some (.int l3), some (.int (l4 + 1)), none]) ⟨rfl, ⟨rfl, ⟨rfl, ⟨rfl, ⟨rfl, trivial⟩⟩⟩⟩⟩ K0
  · have K0 := K0.2 q
    refine r_aload_n (pc := 29) dX8_isAbove_29 rfl ?_
    refine r_iload (pc := 30) dX8_isAbove_30 rfl ?_
    refine r_iload (pc := 32) dX8_isAbove_32 rfl ?_
    refine r_iload_n (pc := 34) dX8_isAbove_34 rfl ?_
    refine r_iconst (pc := 35) (v := 0) dX8_isAbove_35 (by decide) ?_
    refine r_iconst (pc := 36) (v := (-1)) dX8_isAbove_36 (by decide) ?_
    refine s_VI (pc := 37) mX8_loadBut (ci := 8) (a := b0) (As := [.int l4, .int l5, .int l1, .int 0, .int (-1)]) dX8_isAbove_37 lk_X8_86 in_X8_loadBut mo_X8_loadBut ⟨by decide, rfl⟩ ⟨by decide, by decide⟩ (Nat.le_of_ble_eq_true rfl) k_b0 (mSI_mono K0 (fun r_3 y_2 K0 => ?_))
    refine r_iload_n (pc := 40) dX8_isAbove_40 rfl ?_
    refine r_icmp_gt (pc := 41) (tgt := 59) dX8_isAbove_41 (by decide) (fun q => ?_) (fun q => ?_)
    · have K0 := K0.1 q
      refine r_iconst (pc := 59) (v := 1) dX8_isAbove_59 (by decide) ?_
      exact s_zret rfl (by decide) dX8_isAbove_60 K0
    · have K0 := K0.2 q
      refine r_aload_n (pc := 44) dX8_isAbove_44 rfl ?_
      refine r_iload (pc := 45) dX8_isAbove_45 rfl ?_
      refine r_iload (pc := 47) dX8_isAbove_47 rfl ?_
      refine r_iload_n (pc := 49) dX8_isAbove_49 rfl ?_
      refine r_iconst (pc := 50) (v := 1) dX8_isAbove_50 (by decide) ?_
      refine r_iconst (pc := 51) (v := (-1)) dX8_isAbove_51 (by decide) ?_
      refine s_VI (pc := 52) mX8_loadBut (ci := 8) (a := b0) (As := [.int l4, .int l5, .int l1, .int 1, .int (-1)]) dX8_isAbove_52 lk_X8_86 in_X8_loadBut mo_X8_loadBut ⟨by decide, rfl⟩ ⟨by decide, by decide⟩ (Nat.le_of_ble_eq_true rfl) k_b0 (mSI_mono K0 (fun r_6 y_5 K0 => ?_))
      refine r_iload_n (pc := 55) dX8_isAbove_55 rfl ?_
      refine r_icmp_le (pc := 56) (tgt := 61) dX8_isAbove_56 (by decide) (fun q => ?_) (fun q => ?_)
      · have K0 := K0.1 q
        refine r_iinc (pc := 61) (v := l5 + 1) dX8_isAbove_61 rfl rfl (by decide) ?_
        refine r_goto (pc := 64) (L := [some (.ref b0), some (.int l1), some (.int l2), some (.int l3), some (.int l4), some (.int (l5 + 1))]) (tgt := 22) dX8_isAbove_64 (by decide) ?_
        exact r_le (L' := [some (.ref b0), some (.int l1), some (.int l2), some (.int l3), some (.int l4), some (.int (l5 + 1))]) ⟨rfl, ⟨rfl, ⟨rfl, ⟨rfl, ⟨rfl, ⟨rfl, trivial⟩⟩⟩⟩⟩⟩ K0
      · have K0 := K0.2 q
        refine r_iconst (pc := 59) (v := 1) dX8_isAbove_59 (by decide) ?_
        exact s_zret rfl (by decide) dX8_isAbove_60 K0
section
variable {x : Cn} {Q : Int32 → Cn → Prop}
theorem sp_X8_isAbove (M : MRf x 718) {W C S A N : Nat} (F : WF (gi x 718) W C S A N) {h n m : Nat} (hh : h < 24) (hn9 : n ≤ 9) (hm9 : m ≤ 9) (k : Q (bP (abv (gi x 718) S W N h n m)) x) : mSI mX8_isAbove [.ref 717, .int (nI h), .int (nI n), .int (nI m)] KW x Q := by
  have hS : S ≤ 24 := F.2.2.2.2.2.2.1
  have hW : W ≤ 30 := F.2.2.1
  have hN : N ≤ W := F.2.2.2.2.2.2.2.2.2.2.1
  have t2 := F.2.2.2.2.2.1
  have key : ∀ c w, w + c = W → N ≤ w → (∀ i d, N ≤ i → i < w → d < 7 → ¬ (n < nW (gi x 718) S i (nI d) (nI h) 0 0 ∨ m < nW (gi x 718) S i (nI d) (nI h) 1 0)) → GI mX8_isAbove 8 [some (.ref 717), some (.int (nI h)), some (.int (nI n)), some (.int (nI m)), some (.int (nI w)), none] [] KW x Q := by
    intro c
    induction c with
    | zero =>
      intro w hw h1 g
      have : w = W := by omega
      subst this
      refine v_X8_isAbove_8 km M.1 km1 ⟨v0 (k := 0) (by decide) rfl rfl, fun _ => (bP_k k).2 ?_, fun z => absurd (by rw [F.1]; exact Int32.le_refl _) z⟩
      rintro ⟨i, d, h2, h3, h4, h5⟩
      exact g i d h2 h3 h4 h5
    | succ c ih =>
      intro w hw h1 g
      refine v_X8_isAbove_8 km M.1 km1 ⟨v0 (k := 0) (by decide) rfl rfl, fun z => absurd (by rw [F.1] at z; exact z) (nI_ge (by omega) (by omega)), fun _ => ?_⟩
      have key2 : ∀ c2 d, d + c2 = 7 → (∀ d', d' < d → ¬ (n < nW (gi x 718) S w (nI d') (nI h) 0 0 ∨ m < nW (gi x 718) S w (nI d') (nI h) 1 0)) → GI mX8_isAbove 22 [some (.ref 717), some (.int (nI h)), some (.int (nI n)), some (.int (nI m)), some (.int (nI w)), some (.int (nI d))] [] KW x Q := by
        intro c2
        induction c2 with
        | zero =>
          intro d hd g2
          have : d = 7 := by omega
          subst this
          refine v_X8_isAbove_22 km ⟨fun _ => ?_, fun z => absurd (Int32.le_refl _) z⟩
          rw [nI_1]
          refine ih (w + 1) (by omega) (by omega) (fun i d i1 i2 i3 => ?_)
          by_cases e : i = w
          · rw [e]; exact g2 d i3
          · exact g i d i1 (by omega) i3
        | succ c2 ih2 =>
          intro d hd g2
          have b1 := nW_le (gi x 718) hS w (nI d) (nI h) 0 0
          have b2 := nW_le (gi x 718) hS w (nI d) (nI h) 1 0
          refine v_X8_isAbove_22 km ⟨fun z => absurd z (nI_ge (b := 7) (by omega) (by decide)), fun _ => ?_⟩
          refine sp_X8_loadBut M km1 t2 hS (by omega) ?_
          rw [ldB_nW0 wo_0 S hS, nI_ltI (by omega) (by omega)]
          refine ⟨fun z => (bP_k k).1 ⟨w, d, h1, by omega, by omega, Or.inl z⟩, fun z => sp_X8_loadBut M km1 t2 hS (by omega) ?_⟩
          rw [ldB_nW1 wo_0 S hS, nI_leI (by omega) (by omega), nI_1]
          refine ⟨fun z2 => ih2 (d + 1) (by omega) (fun d' hd' => ?_), fun z2 => (bP_k k).1 ⟨w, d, h1, by omega, by omega, Or.inr (by omega)⟩⟩
          by_cases e : d' = d
          · rw [e]; omega
          · exact g2 d' (by omega)
      exact key2 7 0 (by omega) (fun d' hd' => by omega)
  refine v_X8_isAbove_0 km M.1 km1 ⟨v0 (k := 4) (by decide) rfl rfl, ?_⟩
  rw [F.2.2.2.2.2.2.2.2.2.1]
  exact key (W - N) N (by omega) (Nat.le_refl _) (fun i d i1 i2 => by omega)
def lmT (T : TT) (h : Nat) (n m : Int32) : TT := uT (uT T (6 + 2 * h) n) (7 + 2 * h) m
end
set_option maxHeartbeats 2000000 in
theorem v_X7_limit_0 {K : Sh} {x : Cn} {Q : Int32 → Cn → Prop} {b0 : Nat} {l1 : Int32} {l2 : Int32} {l3 : Int32} {b0_2 : Nat} (k_b0 : kk K b0 = some (7, 0)) (g_b0_2 : gr x b0 2 = some b0_2) (k_b0_2 : kk K b0_2 = some (4, 0)) (K0 : (¬ (0 < gi x b0_2 0 ∧ 0 ≤ l1 ∧ l1 < 24) → (Q (-2) x)) ∧ ((0 < gi x b0_2 0 ∧ 0 ≤ l1 ∧ l1 < 24) → ((¬ (0 ≤ l2 ∧ l2 ≤ 9) → (Q (-2) x)) ∧ ((0 ≤ l2 ∧ l2 ≤ 9) → (((0 ≤ l3 ∧ l3 ≤ l2) → (mSI mX4_holdsMore [.ref b0_2, .int l1, .int l2, .int l3] K x (fun r_5 y_4 => (r_5 = 0 → (gr y_4 b0 2 = some b0_2 ∧ (∃ c_8 : Nat, gr y_4 b0_2 5 = some c_8 ∧ (∃ n_11 : Nat, kk K c_8 = some (20, n_11) ∧ (vp_in l1 n_11 ∧ (∃ c_13 : Nat, gr y_4 b0_2 6 = some c_13 ∧ (∃ n_16 : Nat, kk K c_13 = some (20, n_16) ∧ (vp_in l1 n_16 ∧ ((¬ (gi y_4 c_8 (l1 : Int32).toNatClampNeg) = l2 → (mSV mX7_remember [.ref b0] K y_4 (fun y_19 => gr y_19 b0 2 = some b0_2 ∧ (∃ c_21 : Nat, gr y_19 b0_2 5 = some c_21 ∧ (∃ n_24 : Nat, kk K c_21 = some (20, n_24) ∧ (vp_in l1 n_24 ∧ (∃ c_26 : Nat, gr y_19 b0_2 6 = some c_26 ∧ (∃ n_29 : Nat, kk K c_26 = some (20, n_29) ∧ (vp_in l1 n_29 ∧ (Q ((10 * (gi y_4 c_8 (l1 : Int32).toNatClampNeg)) + (gi y_4 c_13 (l1 : Int32).toNatClampNeg)) (ui (ui y_19 c_21 (l1 : Int32).toNatClampNeg l2) c_26 (l1 : Int32).toNatClampNeg l3))))))))))) ∧ ((gi y_4 c_8 (l1 : Int32).toNatClampNeg) = l2 → (((gi y_4 c_13 (l1 : Int32).toNatClampNeg) = l3 → (Q ((10 * (gi y_4 c_8 (l1 : Int32).toNatClampNeg)) + (gi y_4 c_13 (l1 : Int32).toNatClampNeg)) y_4)) ∧ (¬ (gi y_4 c_13 (l1 : Int32).toNatClampNeg) = l3 → (mSV mX7_remember [.ref b0] K y_4 (fun y_32 => gr y_32 b0 2 = some b0_2 ∧ (∃ c_34 : Nat, gr y_32 b0_2 5 = some c_34 ∧ (∃ n_37 : Nat, kk K c_34 = some (20, n_37) ∧ (vp_in l1 n_37 ∧ (∃ c_39 : Nat, gr y_32 b0_2 6 = some c_39 ∧ (∃ n_42 : Nat, kk K c_39 = some (20, n_42) ∧ (vp_in l1 n_42 ∧ (Q ((10 * (gi y_4 c_8 (l1 : Int32).toNatClampNeg)) + (gi y_4 c_13 (l1 : Int32).toNatClampNeg)) (ui (ui y_32 c_34 (l1 : Int32).toNatClampNeg l2) c_39 (l1 : Int32).toNatClampNeg l3)))))))))))))))))))))) ∧ (¬ r_5 = 0 → (Q (-6) y_4))))) ∧ (¬ (0 ≤ l3 ∧ l3 ≤ l2) → (Q (-2) x))))))) : mSI mX7_limit [.ref b0, .int l1, .int l2, .int l3] K x Q := by
  refine s_I (by decide) (by simp [Value.category]) (Nat.le_of_ble_eq_true rfl) ?_
  show mGM mX7_limit 0 [some (.ref b0), some (.int l1), some (.int l2), some (.int l3), none, none] [] (hp K x) (PI K Q)
  refine r_aload_n (pc := 0) dX7_limit_0 rfl ?_
  refine r_iload_n (pc := 1) dX7_limit_1 rfl ?_
  refine s_VI (pc := 2) mX7_isHour (ci := 7) (a := b0) (As := [.int l1]) dX7_limit_2 lk_X7_195 in_X7_isHour mo_X7_isHour ⟨by decide, rfl⟩ ⟨by decide, by decide⟩ (Nat.le_of_ble_eq_true rfl) k_b0 (sp_X7_isHour k_b0 g_b0_2 k_b0_2 ?_)
  refine r_if_eq (pc := 5) (tgt := 27) dX7_limit_5 (by decide) (fun q => ?_) (fun q => ?_)
  · have q := (b2i_z _).mp q
    have K0 := K0.1 q
    refine r_bipush (pc := 27) (v := (-2)) dX7_limit_27 (by decide) ?_
    exact s_iret rfl dX7_limit_29 K0
  · have q := b2i_nz q
    have K0 := K0.2 q
    refine r_iload_n (pc := 8) dX7_limit_8 rfl ?_
    refine r_iconst (pc := 9) (v := 0) dX7_limit_9 (by decide) ?_
    refine r_bipush (pc := 10) (v := 9) dX7_limit_10 (by decide) ?_
    refine s_SI (pc := 12) mX7_isWithin (As := [.int l2, .int 0, .int 9]) dX7_limit_12 lk_X7_113 st_X7_isWithin mo_X7_isWithin ⟨by decide, by decide⟩ (Nat.le_of_ble_eq_true rfl) (sp_X7_isWithin  ?_)
    refine r_if_eq (pc := 15) (tgt := 27) dX7_limit_15 (by decide) (fun q => ?_) (fun q => ?_)
    · have q := (b2i_z _).mp q
      have K0 := K0.1 q
      refine r_bipush (pc := 27) (v := (-2)) dX7_limit_27 (by decide) ?_
      exact s_iret rfl dX7_limit_29 K0
    · have q := b2i_nz q
      have K0 := K0.2 q
      refine r_iload_n (pc := 18) dX7_limit_18 rfl ?_
      refine r_iconst (pc := 19) (v := 0) dX7_limit_19 (by decide) ?_
      refine r_iload_n (pc := 20) dX7_limit_20 rfl ?_
      refine s_SI (pc := 21) mX7_isWithin (As := [.int l3, .int 0, .int l2]) dX7_limit_21 lk_X7_113 st_X7_isWithin mo_X7_isWithin ⟨by decide, by decide⟩ (Nat.le_of_ble_eq_true rfl) (sp_X7_isWithin  ?_)
      refine r_if_ne (pc := 24) (tgt := 30) dX7_limit_24 (by decide) (fun q => ?_) (fun q => ?_)
      · have q := b2i_nz q
        have K0 := K0.1 q
        refine r_aload_n (pc := 30) dX7_limit_30 rfl ?_
        refine s_getR (pc := 31) dX7_limit_31 fl_X7_20 rfl k_b0 g_b0_2 ?_
        refine r_iload_n (pc := 34) dX7_limit_34 rfl ?_
        refine r_iload_n (pc := 35) dX7_limit_35 rfl ?_
        refine r_iload_n (pc := 36) dX7_limit_36 rfl ?_
        refine s_VI (pc := 37) mX4_holdsMore (ci := 4) (a := b0_2) (As := [.int l1, .int l2, .int l3]) dX7_limit_37 lk_X7_358 in_X4_holdsMore mo_X4_holdsMore ⟨by decide, rfl⟩ ⟨by decide, by decide⟩ (Nat.le_of_ble_eq_true rfl) k_b0_2 (mSI_mono K0 (fun r_5 y_4 K0 => ?_))
        refine r_if_eq (pc := 40) (tgt := 46) dX7_limit_40 (by decide) (fun q => ?_) (fun q => ?_)
        · have K0 := K0.1 q
          refine r_aload_n (pc := 46) dX7_limit_46 rfl ?_
          obtain ⟨g_7, K0⟩ := K0
          refine s_getR (pc := 47) dX7_limit_47 fl_X7_20 rfl k_b0 g_7 ?_
          obtain ⟨c_8, g_9, K0⟩ := K0
          refine s_getR (pc := 50) dX7_limit_50 fl_X7_198 rfl k_b0_2 g_9 ?_
          refine r_iload_n (pc := 53) dX7_limit_53 rfl ?_
          obtain ⟨n_11, e_10, K0⟩ := K0
          obtain ⟨i_12, K0⟩ := K0
          refine s_iald (pc := 54) dX7_limit_54 e_10 i_12 ?_
          refine r_istore (pc := 55) dX7_limit_55 (by decide) ?_
          refine r_aload_n (pc := 57) (L := [some (.ref b0), some (.int l1), some (.int l2), some (.int l3), some (.int (gi y_4 c_8 (l1 : Int32).toNatClampNeg)), none]) dX7_limit_57 rfl ?_
          refine s_getR (pc := 58) dX7_limit_58 fl_X7_20 rfl k_b0 g_7 ?_
          obtain ⟨c_13, g_14, K0⟩ := K0
          refine s_getR (pc := 61) dX7_limit_61 fl_X7_202 rfl k_b0_2 g_14 ?_
          refine r_iload_n (pc := 64) dX7_limit_64 rfl ?_
          obtain ⟨n_16, e_15, K0⟩ := K0
          obtain ⟨i_17, K0⟩ := K0
          refine s_iald (pc := 65) dX7_limit_65 e_15 i_17 ?_
          refine r_istore (pc := 66) dX7_limit_66 (by decide) ?_
          refine r_iload (pc := 68) (L := [some (.ref b0), some (.int l1), some (.int l2), some (.int l3), some (.int (gi y_4 c_8 (l1 : Int32).toNatClampNeg)), some (.int (gi y_4 c_13 (l1 : Int32).toNatClampNeg))]) dX7_limit_68 rfl ?_
          refine r_iload_n (pc := 70) dX7_limit_70 rfl ?_
          refine r_icmp_ne (pc := 71) (tgt := 80) dX7_limit_71 (by decide) (fun q => ?_) (fun q => ?_)
          · have K0 := K0.1 q
            refine r_aload_n (pc := 80) dX7_limit_80 rfl ?_
            refine s_VV (pc := 81) mX7_remember (ci := 7) (a := b0) (As := []) dX7_limit_81 lk_X7_333 in_X7_remember mo_X7_remember ⟨by decide, rfl⟩ ⟨by decide, by decide⟩ (Nat.le_of_ble_eq_true rfl) k_b0 (mSV_mono K0 (fun y_19 K0 => ?_))
            refine r_aload_n (pc := 84) dX7_limit_84 rfl ?_
            obtain ⟨g_20, K0⟩ := K0
            refine s_getR (pc := 85) dX7_limit_85 fl_X7_20 rfl k_b0 g_20 ?_
            obtain ⟨c_21, g_22, K0⟩ := K0
            refine s_getR (pc := 88) dX7_limit_88 fl_X7_198 rfl k_b0_2 g_22 ?_
            refine r_iload_n (pc := 91) dX7_limit_91 rfl ?_
            refine r_iload_n (pc := 92) dX7_limit_92 rfl ?_
            obtain ⟨n_24, e_23, K0⟩ := K0
            obtain ⟨i_25, K0⟩ := K0
            refine s_iast (pc := 93) dX7_limit_93 e_23 i_25 ?_
            refine r_aload_n (pc := 94) dX7_limit_94 rfl ?_
            refine s_getR (pc := 95) dX7_limit_95 fl_X7_20 rfl k_b0 g_20 ?_
            obtain ⟨c_26, g_27, K0⟩ := K0
            refine s_getR (pc := 98) dX7_limit_98 fl_X7_202 rfl k_b0_2 g_27 ?_
            refine r_iload_n (pc := 101) dX7_limit_101 rfl ?_
            refine r_iload_n (pc := 102) dX7_limit_102 rfl ?_
            obtain ⟨n_29, e_28, K0⟩ := K0
            obtain ⟨i_30, K0⟩ := K0
            refine s_iast (pc := 103) dX7_limit_103 e_28 i_30 ?_
            refine r_bipush (pc := 104) (v := 10) dX7_limit_104 (by decide) ?_
            refine r_iload (pc := 106) dX7_limit_106 rfl ?_
            refine r_imul (pc := 108) dX7_limit_108 ?_
            refine r_iload (pc := 109) dX7_limit_109 rfl ?_
            refine r_iadd (pc := 111) dX7_limit_111 ?_
            exact s_iret rfl dX7_limit_112 K0
          · have K0 := K0.2 q
            refine r_iload (pc := 74) dX7_limit_74 rfl ?_
            refine r_iload_n (pc := 76) dX7_limit_76 rfl ?_
            refine r_icmp_eq (pc := 77) (tgt := 104) dX7_limit_77 (by decide) (fun q => ?_) (fun q => ?_)
            · have K0 := K0.1 q
              refine r_bipush (pc := 104) (v := 10) dX7_limit_104 (by decide) ?_
              refine r_iload (pc := 106) dX7_limit_106 rfl ?_
              refine r_imul (pc := 108) dX7_limit_108 ?_
              refine r_iload (pc := 109) dX7_limit_109 rfl ?_
              refine r_iadd (pc := 111) dX7_limit_111 ?_
              exact s_iret rfl dX7_limit_112 K0
            · have K0 := K0.2 q
              refine r_aload_n (pc := 80) dX7_limit_80 rfl ?_
              refine s_VV (pc := 81) mX7_remember (ci := 7) (a := b0) (As := []) dX7_limit_81 lk_X7_333 in_X7_remember mo_X7_remember ⟨by decide, rfl⟩ ⟨by decide, by decide⟩ (Nat.le_of_ble_eq_true rfl) k_b0 (mSV_mono K0 (fun y_32 K0 => ?_))
              refine r_aload_n (pc := 84) dX7_limit_84 rfl ?_
              obtain ⟨g_33, K0⟩ := K0
              refine s_getR (pc := 85) dX7_limit_85 fl_X7_20 rfl k_b0 g_33 ?_
              obtain ⟨c_34, g_35, K0⟩ := K0
              refine s_getR (pc := 88) dX7_limit_88 fl_X7_198 rfl k_b0_2 g_35 ?_
              refine r_iload_n (pc := 91) dX7_limit_91 rfl ?_
              refine r_iload_n (pc := 92) dX7_limit_92 rfl ?_
              obtain ⟨n_37, e_36, K0⟩ := K0
              obtain ⟨i_38, K0⟩ := K0
              refine s_iast (pc := 93) dX7_limit_93 e_36 i_38 ?_
              refine r_aload_n (pc := 94) dX7_limit_94 rfl ?_
              refine s_getR (pc := 95) dX7_limit_95 fl_X7_20 rfl k_b0 g_33 ?_
              obtain ⟨c_39, g_40, K0⟩ := K0
              refine s_getR (pc := 98) dX7_limit_98 fl_X7_202 rfl k_b0_2 g_40 ?_
              refine r_iload_n (pc := 101) dX7_limit_101 rfl ?_
              refine r_iload_n (pc := 102) dX7_limit_102 rfl ?_
              obtain ⟨n_42, e_41, K0⟩ := K0
              obtain ⟨i_43, K0⟩ := K0
              refine s_iast (pc := 103) dX7_limit_103 e_41 i_43 ?_
              refine r_bipush (pc := 104) (v := 10) dX7_limit_104 (by decide) ?_
              refine r_iload (pc := 106) dX7_limit_106 rfl ?_
              refine r_imul (pc := 108) dX7_limit_108 ?_
              refine r_iload (pc := 109) dX7_limit_109 rfl ?_
              refine r_iadd (pc := 111) dX7_limit_111 ?_
              exact s_iret rfl dX7_limit_112 K0
        · have K0 := K0.2 q
          refine r_bipush (pc := 43) (v := (-6)) dX7_limit_43 (by decide) ?_
          exact s_iret rfl dX7_limit_45 K0
      · have q := (b2i_z _).mp q
        have K0 := K0.2 q
        refine r_bipush (pc := 27) (v := (-2)) dX7_limit_27 (by decide) ?_
        exact s_iret rfl dX7_limit_29 K0
set_option maxHeartbeats 2000000 in
theorem v_X8_limit_0 {K : Sh} {x : Cn} {Q : Int32 → Cn → Prop} {b0 : Nat} {l1 : Int32} {l2 : Int32} {l3 : Int32} {b0_1 : Nat} {n_b0_1 : Nat} (k_b0 : kk K b0 = some (8, 0)) (g_b0_1 : gr x b0 1 = some b0_1) (k_b0_1 : kk K b0_1 = some (20, n_b0_1)) (K0 : vp_in 0 n_b0_1 ∧ ((¬ (0 < gi x b0_1 0 ∧ 0 ≤ l1 ∧ l1 ≤ 23) → (Q (-2) x)) ∧ ((0 < gi x b0_1 0 ∧ 0 ≤ l1 ∧ l1 ≤ 23) → ((¬ (0 ≤ l2 ∧ l2 ≤ 9) → (Q (-2) x)) ∧ ((0 ≤ l2 ∧ l2 ≤ 9) → (((0 ≤ l3 ∧ l3 ≤ l2) → (mSI mX8_isAbove [.ref b0, .int l1, .int l2, .int l3] K x (fun r_6 y_5 => (r_6 = 0 → (gr y_5 b0 1 = some b0_1 ∧ (vp_in (6 + (2 * l1)) n_b0_1 ∧ (vp_in ((6 + (2 * l1)) + 1) n_b0_1 ∧ ((¬ (gi y_5 b0_1 ((6 + (2 * l1)) : Int32).toNatClampNeg) = l2 → (mSV mX8_keeps [.ref b0] K y_5 (fun y_12 => gr y_12 b0 1 = some b0_1 ∧ (Q ((10 * (gi y_5 b0_1 ((6 + (2 * l1)) : Int32).toNatClampNeg)) + (gi y_5 b0_1 (((6 + (2 * l1)) + 1) : Int32).toNatClampNeg)) (ui (ui y_12 b0_1 ((6 + (2 * l1)) : Int32).toNatClampNeg l2) b0_1 (((6 + (2 * l1)) + 1) : Int32).toNatClampNeg l3))))) ∧ ((gi y_5 b0_1 ((6 + (2 * l1)) : Int32).toNatClampNeg) = l2 → (((gi y_5 b0_1 (((6 + (2 * l1)) + 1) : Int32).toNatClampNeg) = l3 → (Q ((10 * (gi y_5 b0_1 ((6 + (2 * l1)) : Int32).toNatClampNeg)) + (gi y_5 b0_1 (((6 + (2 * l1)) + 1) : Int32).toNatClampNeg)) (ui (ui y_5 b0_1 ((6 + (2 * l1)) : Int32).toNatClampNeg l2) b0_1 (((6 + (2 * l1)) + 1) : Int32).toNatClampNeg l3))) ∧ (¬ (gi y_5 b0_1 (((6 + (2 * l1)) + 1) : Int32).toNatClampNeg) = l3 → (mSV mX8_keeps [.ref b0] K y_5 (fun y_15 => gr y_15 b0 1 = some b0_1 ∧ (Q ((10 * (gi y_5 b0_1 ((6 + (2 * l1)) : Int32).toNatClampNeg)) + (gi y_5 b0_1 (((6 + (2 * l1)) + 1) : Int32).toNatClampNeg)) (ui (ui y_15 b0_1 ((6 + (2 * l1)) : Int32).toNatClampNeg l2) b0_1 (((6 + (2 * l1)) + 1) : Int32).toNatClampNeg l3)))))))))))) ∧ (¬ r_6 = 0 → (Q (-6) y_5))))) ∧ (¬ (0 ≤ l3 ∧ l3 ≤ l2) → (Q (-2) x)))))))) : mSI mX8_limit [.ref b0, .int l1, .int l2, .int l3] K x Q := by
  refine s_I (by decide) (by simp [Value.category]) (Nat.le_of_ble_eq_true rfl) ?_
  show mGM mX8_limit 0 [some (.ref b0), some (.int l1), some (.int l2), some (.int l3), none, none] [] (hp K x) (PI K Q)
  refine r_aload_n (pc := 0) dX8_limit_0 rfl ?_
  refine r_iload_n (pc := 1) dX8_limit_1 rfl ?_
  obtain ⟨i_1, K0⟩ := K0
  refine s_VI (pc := 2) mX8_isHour (ci := 8) (a := b0) (As := [.int l1]) dX8_limit_2 lk_X8_64 in_X8_isHour mo_X8_isHour ⟨by decide, rfl⟩ ⟨by decide, by decide⟩ (Nat.le_of_ble_eq_true rfl) k_b0 (sp_X8_isHour k_b0 g_b0_1 k_b0_1 i_1 ?_)
  refine r_if_eq (pc := 5) (tgt := 31) dX8_limit_5 (by decide) (fun q => ?_) (fun q => ?_)
  · have q := (b2i_z _).mp q
    have K0 := K0.1 q
    refine r_bipush (pc := 31) (v := (-2)) dX8_limit_31 (by decide) ?_
    exact s_iret rfl dX8_limit_33 K0
  · have q := b2i_nz q
    have K0 := K0.2 q
    refine r_iload_n (pc := 8) dX8_limit_8 rfl ?_
    refine r_i2l (pc := 9) dX8_limit_9 ?_
    refine r_lconst (pc := 10) (v := 0) dX8_limit_10 (by decide) ?_
    refine r_ldc2 (pc := 11) (v := 9) dX8_limit_11 cn_X8_388 ?_
    refine s_SI (pc := 14) mX8_in (As := [.long ((l2 : Int32).toInt64), .long 0, .long 9]) dX8_limit_14 lk_X8_45 st_X8_in mo_X8_in ⟨by decide, by decide⟩ (Nat.le_of_ble_eq_true rfl) (sq_X8_in (v := l2) (lo := 0) (hi := 9) rfl (by decide) (by decide) ?_)
    refine r_if_eq (pc := 17) (tgt := 31) dX8_limit_17 (by decide) (fun q => ?_) (fun q => ?_)
    · have q := (b2i_z _).mp q
      have K0 := K0.1 q
      refine r_bipush (pc := 31) (v := (-2)) dX8_limit_31 (by decide) ?_
      exact s_iret rfl dX8_limit_33 K0
    · have q := b2i_nz q
      have K0 := K0.2 q
      refine r_iload_n (pc := 20) dX8_limit_20 rfl ?_
      refine r_i2l (pc := 21) dX8_limit_21 ?_
      refine r_lconst (pc := 22) (v := 0) dX8_limit_22 (by decide) ?_
      refine r_iload_n (pc := 23) dX8_limit_23 rfl ?_
      refine r_i2l (pc := 24) dX8_limit_24 ?_
      refine s_SI (pc := 25) mX8_in (As := [.long ((l3 : Int32).toInt64), .long 0, .long ((l2 : Int32).toInt64)]) dX8_limit_25 lk_X8_45 st_X8_in mo_X8_in ⟨by decide, by decide⟩ (Nat.le_of_ble_eq_true rfl) (sq_X8_in (v := l3) (lo := 0) (hi := l2) rfl (by decide) rfl ?_)
      refine r_if_ne (pc := 28) (tgt := 34) dX8_limit_28 (by decide) (fun q => ?_) (fun q => ?_)
      · have q := b2i_nz q
        have K0 := K0.1 q
        refine r_aload_n (pc := 34) dX8_limit_34 rfl ?_
        refine r_iload_n (pc := 35) dX8_limit_35 rfl ?_
        refine r_iload_n (pc := 36) dX8_limit_36 rfl ?_
        refine r_iload_n (pc := 37) dX8_limit_37 rfl ?_
        refine s_VI (pc := 38) mX8_isAbove (ci := 8) (a := b0) (As := [.int l1, .int l2, .int l3]) dX8_limit_38 lk_X8_390 in_X8_isAbove mo_X8_isAbove ⟨by decide, rfl⟩ ⟨by decide, by decide⟩ (Nat.le_of_ble_eq_true rfl) k_b0 (mSI_mono K0 (fun r_6 y_5 K0 => ?_))
        refine r_if_eq (pc := 41) (tgt := 47) dX8_limit_41 (by decide) (fun q => ?_) (fun q => ?_)
        · have K0 := K0.1 q
          refine r_aload_n (pc := 47) dX8_limit_47 rfl ?_
          obtain ⟨g_8, K0⟩ := K0
          refine s_getR (pc := 48) dX8_limit_48 fl_X8_9 rfl k_b0 g_8 ?_
          refine r_bipush (pc := 51) (v := 6) dX8_limit_51 (by decide) ?_
          refine r_iconst (pc := 53) (v := 2) dX8_limit_53 (by decide) ?_
          refine r_iload_n (pc := 54) dX8_limit_54 rfl ?_
          refine r_imul (pc := 55) dX8_limit_55 ?_
          refine r_iadd (pc := 56) dX8_limit_56 ?_
          obtain ⟨i_9, K0⟩ := K0
          refine s_iald (pc := 57) dX8_limit_57 k_b0_1 i_9 ?_
          refine r_istore (pc := 58) dX8_limit_58 (by decide) ?_
          refine r_aload_n (pc := 60) (L := [some (.ref b0), some (.int l1), some (.int l2), some (.int l3), some (.int (gi y_5 b0_1 ((6 + (2 * l1)) : Int32).toNatClampNeg)), none]) dX8_limit_60 rfl ?_
          refine s_getR (pc := 61) dX8_limit_61 fl_X8_9 rfl k_b0 g_8 ?_
          refine r_bipush (pc := 64) (v := 6) dX8_limit_64 (by decide) ?_
          refine r_iconst (pc := 66) (v := 2) dX8_limit_66 (by decide) ?_
          refine r_iload_n (pc := 67) dX8_limit_67 rfl ?_
          refine r_imul (pc := 68) dX8_limit_68 ?_
          refine r_iadd (pc := 69) dX8_limit_69 ?_
          refine r_iconst (pc := 70) (v := 1) dX8_limit_70 (by decide) ?_
          refine r_iadd (pc := 71) dX8_limit_71 ?_
          obtain ⟨i_10, K0⟩ := K0
          refine s_iald (pc := 72) dX8_limit_72 k_b0_1 i_10 ?_
          refine r_istore (pc := 73) dX8_limit_73 (by decide) ?_
          refine r_iload (pc := 75) (L := [some (.ref b0), some (.int l1), some (.int l2), some (.int l3), some (.int (gi y_5 b0_1 ((6 + (2 * l1)) : Int32).toNatClampNeg)), some (.int (gi y_5 b0_1 (((6 + (2 * l1)) + 1) : Int32).toNatClampNeg))]) dX8_limit_75 rfl ?_
          refine r_iload_n (pc := 77) dX8_limit_77 rfl ?_
          refine r_icmp_ne (pc := 78) (tgt := 87) dX8_limit_78 (by decide) (fun q => ?_) (fun q => ?_)
          · have K0 := K0.1 q
            refine r_aload_n (pc := 87) dX8_limit_87 rfl ?_
            refine s_VV (pc := 88) mX8_keeps (ci := 8) (a := b0) (As := []) dX8_limit_88 lk_X8_366 in_X8_keeps mo_X8_keeps ⟨by decide, rfl⟩ ⟨by decide, by decide⟩ (Nat.le_of_ble_eq_true rfl) k_b0 (mSV_mono K0 (fun y_12 K0 => ?_))
            refine r_aload_n (pc := 91) dX8_limit_91 rfl ?_
            obtain ⟨g_13, K0⟩ := K0
            refine s_getR (pc := 92) dX8_limit_92 fl_X8_9 rfl k_b0 g_13 ?_
            refine r_bipush (pc := 95) (v := 6) dX8_limit_95 (by decide) ?_
            refine r_iconst (pc := 97) (v := 2) dX8_limit_97 (by decide) ?_
            refine r_iload_n (pc := 98) dX8_limit_98 rfl ?_
            refine r_imul (pc := 99) dX8_limit_99 ?_
            refine r_iadd (pc := 100) dX8_limit_100 ?_
            refine r_iload_n (pc := 101) dX8_limit_101 rfl ?_
            refine s_iast (pc := 102) dX8_limit_102 k_b0_1 i_9 ?_
            refine r_aload_n (pc := 103) dX8_limit_103 rfl ?_
            refine s_getR (pc := 104) dX8_limit_104 fl_X8_9 rfl k_b0 g_13 ?_
            refine r_bipush (pc := 107) (v := 6) dX8_limit_107 (by decide) ?_
            refine r_iconst (pc := 109) (v := 2) dX8_limit_109 (by decide) ?_
            refine r_iload_n (pc := 110) dX8_limit_110 rfl ?_
            refine r_imul (pc := 111) dX8_limit_111 ?_
            refine r_iadd (pc := 112) dX8_limit_112 ?_
            refine r_iconst (pc := 113) (v := 1) dX8_limit_113 (by decide) ?_
            refine r_iadd (pc := 114) dX8_limit_114 ?_
            refine r_iload_n (pc := 115) dX8_limit_115 rfl ?_
            refine s_iast (pc := 116) dX8_limit_116 k_b0_1 i_10 ?_
            refine r_bipush (pc := 117) (v := 10) dX8_limit_117 (by decide) ?_
            refine r_iload (pc := 119) dX8_limit_119 rfl ?_
            refine r_imul (pc := 121) dX8_limit_121 ?_
            refine r_iload (pc := 122) dX8_limit_122 rfl ?_
            refine r_iadd (pc := 124) dX8_limit_124 ?_
            exact s_iret rfl dX8_limit_125 K0
          · have K0 := K0.2 q
            refine r_iload (pc := 81) dX8_limit_81 rfl ?_
            refine r_iload_n (pc := 83) dX8_limit_83 rfl ?_
            refine r_icmp_eq (pc := 84) (tgt := 91) dX8_limit_84 (by decide) (fun q => ?_) (fun q => ?_)
            · have K0 := K0.1 q
              refine r_aload_n (pc := 91) dX8_limit_91 rfl ?_
              refine s_getR (pc := 92) dX8_limit_92 fl_X8_9 rfl k_b0 g_8 ?_
              refine r_bipush (pc := 95) (v := 6) dX8_limit_95 (by decide) ?_
              refine r_iconst (pc := 97) (v := 2) dX8_limit_97 (by decide) ?_
              refine r_iload_n (pc := 98) dX8_limit_98 rfl ?_
              refine r_imul (pc := 99) dX8_limit_99 ?_
              refine r_iadd (pc := 100) dX8_limit_100 ?_
              refine r_iload_n (pc := 101) dX8_limit_101 rfl ?_
              refine s_iast (pc := 102) dX8_limit_102 k_b0_1 i_9 ?_
              refine r_aload_n (pc := 103) dX8_limit_103 rfl ?_
              refine s_getR (pc := 104) dX8_limit_104 fl_X8_9 rfl k_b0 g_8 ?_
              refine r_bipush (pc := 107) (v := 6) dX8_limit_107 (by decide) ?_
              refine r_iconst (pc := 109) (v := 2) dX8_limit_109 (by decide) ?_
              refine r_iload_n (pc := 110) dX8_limit_110 rfl ?_
              refine r_imul (pc := 111) dX8_limit_111 ?_
              refine r_iadd (pc := 112) dX8_limit_112 ?_
              refine r_iconst (pc := 113) (v := 1) dX8_limit_113 (by decide) ?_
              refine r_iadd (pc := 114) dX8_limit_114 ?_
              refine r_iload_n (pc := 115) dX8_limit_115 rfl ?_
              refine s_iast (pc := 116) dX8_limit_116 k_b0_1 i_10 ?_
              refine r_bipush (pc := 117) (v := 10) dX8_limit_117 (by decide) ?_
              refine r_iload (pc := 119) dX8_limit_119 rfl ?_
              refine r_imul (pc := 121) dX8_limit_121 ?_
              refine r_iload (pc := 122) dX8_limit_122 rfl ?_
              refine r_iadd (pc := 124) dX8_limit_124 ?_
              exact s_iret rfl dX8_limit_125 K0
            · have K0 := K0.2 q
              refine r_aload_n (pc := 87) dX8_limit_87 rfl ?_
              refine s_VV (pc := 88) mX8_keeps (ci := 8) (a := b0) (As := []) dX8_limit_88 lk_X8_366 in_X8_keeps mo_X8_keeps ⟨by decide, rfl⟩ ⟨by decide, by decide⟩ (Nat.le_of_ble_eq_true rfl) k_b0 (mSV_mono K0 (fun y_15 K0 => ?_))
              refine r_aload_n (pc := 91) dX8_limit_91 rfl ?_
              obtain ⟨g_16, K0⟩ := K0
              refine s_getR (pc := 92) dX8_limit_92 fl_X8_9 rfl k_b0 g_16 ?_
              refine r_bipush (pc := 95) (v := 6) dX8_limit_95 (by decide) ?_
              refine r_iconst (pc := 97) (v := 2) dX8_limit_97 (by decide) ?_
              refine r_iload_n (pc := 98) dX8_limit_98 rfl ?_
              refine r_imul (pc := 99) dX8_limit_99 ?_
              refine r_iadd (pc := 100) dX8_limit_100 ?_
              refine r_iload_n (pc := 101) dX8_limit_101 rfl ?_
              refine s_iast (pc := 102) dX8_limit_102 k_b0_1 i_9 ?_
              refine r_aload_n (pc := 103) dX8_limit_103 rfl ?_
              refine s_getR (pc := 104) dX8_limit_104 fl_X8_9 rfl k_b0 g_16 ?_
              refine r_bipush (pc := 107) (v := 6) dX8_limit_107 (by decide) ?_
              refine r_iconst (pc := 109) (v := 2) dX8_limit_109 (by decide) ?_
              refine r_iload_n (pc := 110) dX8_limit_110 rfl ?_
              refine r_imul (pc := 111) dX8_limit_111 ?_
              refine r_iadd (pc := 112) dX8_limit_112 ?_
              refine r_iconst (pc := 113) (v := 1) dX8_limit_113 (by decide) ?_
              refine r_iadd (pc := 114) dX8_limit_114 ?_
              refine r_iload_n (pc := 115) dX8_limit_115 rfl ?_
              refine s_iast (pc := 116) dX8_limit_116 k_b0_1 i_10 ?_
              refine r_bipush (pc := 117) (v := 10) dX8_limit_117 (by decide) ?_
              refine r_iload (pc := 119) dX8_limit_119 rfl ?_
              refine r_imul (pc := 121) dX8_limit_121 ?_
              refine r_iload (pc := 122) dX8_limit_122 rfl ?_
              refine r_iadd (pc := 124) dX8_limit_124 ?_
              exact s_iret rfl dX8_limit_125 K0
        · have K0 := K0.2 q
          refine r_bipush (pc := 44) (v := (-6)) dX8_limit_44 (by decide) ?_
          exact s_iret rfl dX8_limit_46 K0
      · have q := (b2i_z _).mp q
        have K0 := K0.2 q
        refine r_bipush (pc := 31) (v := (-2)) dX8_limit_31 (by decide) ?_
        exact s_iret rfl dX8_limit_33 K0
section
variable {x : Cn} {Q : Int32 → Cn → Prop}
theorem sq_X8_limit {y : Cn} {Q : Int32 → Cn → Prop} {T : TT} {W C S A N n : Nat} {H : Nat → TT} {a b c : Int32} (r : RS y T n H) (F : WF T W C S A N) (k1 : ¬ ((0 < nI W ∧ 0 ≤ a ∧ a < 24) ∧ (0 ≤ b ∧ b ≤ 9) ∧ (0 ≤ c ∧ c ≤ b)) → Q (-2) y) (k2 : ∀ h p q, a = nI h → b = nI p → c = nI q → h < 24 → p ≤ 9 → q ≤ p → 0 < nI W → ¬ bP (abv T S W N h p q) = 0 → Q (-6) y) (k3 : ∀ h p q, a = nI h → b = nI p → c = nI q → h < 24 → p ≤ 9 → q ≤ p → 0 < nI W → bP (abv T S W N h p q) = 0 → T (6 + 2 * h) = nI p → T (7 + 2 * h) = nI q → ∀ z, RFr y z → RS z T n H → Q ((10 * T (6 + 2 * h)) + T (7 + 2 * h)) z) (k4 : ∀ h p q, a = nI h → b = nI p → c = nI q → h < 24 → p ≤ 9 → q ≤ p → 0 < nI W → bP (abv T S W N h p q) = 0 → ¬ (T (6 + 2 * h) = nI p ∧ T (7 + 2 * h) = nI q) → ∀ z, RFr y z → RS z (lmT T h (nI p) (nI q)) (pn n) (push H n T) → Q ((10 * T (6 + 2 * h)) + T (7 + 2 * h)) z) : mSI mX8_limit [.ref 717, .int a, .int b, .int c] KW y Q := by
  have hW : W ≤ 30 := F.2.2.1
  have M := r.1
  refine v_X8_limit_0 km M.1 km1 ⟨v0 (k := 0) (by decide) rfl rfl, ?_⟩
  rw [r.2.1, F.1, d24]
  refine ⟨fun z => k1 (fun u => z u.1), fun z1 => ⟨fun z => k1 (fun u => z u.2.1), fun z2 => ⟨fun z3 => ?_, fun z => k1 (fun u => z u.2.2)⟩⟩⟩
  obtain ⟨h, hh, rfl⟩ := inN (n := 24) (by decide) z1.2
  obtain ⟨p, hp, rfl⟩ := nI_of2 (M := 9) (n := 9) (by decide) (Int32.not_lt.mpr z2.1) z2.2
  obtain ⟨q, hq, rfl⟩ := nI_of (Int32.not_lt.mpr z3.1)
  have hqp : q ≤ p := (nI_leI hq (by omega)).mp z3.2
  have k2 := k2 h p q rfl rfl rfl hh hp hqp z1.1
  have k3 := k3 h p q rfl rfl rfl hh hp hqp z1.1
  have k4 := k4 h p q rfl rfl rfl hh hp hqp z1.1
  refine sp_X8_isAbove M (by rw [r.2.1]; exact F) hh hp (by omega) ?_
  rw [r.2.1, ixh1, ixh, nI_clamp (show 6 + 2 * h < 2 ^ 31 by omega), nI_clamp (show 7 + 2 * h < 2 ^ 31 by omega)]
  refine ⟨fun u => ⟨M.1, vp_in_nI (by omega) (by decide), vp_in_nI (by omega) (by decide), ?_⟩, fun u => k2 u⟩
  have wr : ¬ (T (6 + 2 * h) = nI p ∧ T (7 + 2 * h) = nI q) → mSV mX8_keeps [.ref 717] KW y (fun y_12 => gr y_12 717 1 = some 718 ∧ (Q ((10 * T (6 + 2 * h)) + T (7 + 2 * h)) (ui (ui y_12 718 (6 + 2 * h) (nI p)) 718 (7 + 2 * h) (nI q)))) := fun g => r.keeps (fun z f1 r1 => ⟨r1.1.1, k4 u g _ f1.u8.u8 r1.u8.u8⟩)
  refine ⟨fun v => wr (fun g => v g.1), fun v => ⟨fun v2 => ?_, fun v2 => wr (fun g => v2 g.2)⟩⟩
  refine k3 u v v2 _ (RFr.rf y).u8.u8 ?_
  have := (r.u8 (k := 6 + 2 * h) (v := nI p)).u8 (k := 7 + 2 * h) (v := nI q)
  have e : uT (uT T (6 + 2 * h) (nI p)) (7 + 2 * h) (nI q) = T := by
    funext i
    unfold uT
    by_cases c1 : i = 7 + 2 * h
    · rw [if_pos c1, c1]; exact v2.symm
    · rw [if_neg c1]
      by_cases c2 : i = 6 + 2 * h
      · rw [if_pos c2, c2]; exact v.symm
      · rw [if_neg c2]
  rwa [e] at this
theorem AC.lim {x y : Cn} {W C S A N n h p q : Nat} {T : TT} {H : Nat → TT} (a : AC x y W C S A N n T H) (hh : h < 24) (hp : p ≤ 10) (hq : q ≤ 10) : AC x (ui (ui y 3 h (nI p)) 4 h (nI q)) W C S A N n (lmT T h (nI p) (nI q)) H := by
  have E := a.2.2.2.2
  obtain ⟨e1, e2, ⟨v0, v1, v2, v3, v4, v5, v6, v7⟩, w1, w2, w3, w4, w5, w6, w7, w8, w9, w10, w11, w12, w13, w14⟩ := E
  obtain ⟨r1, r2, r3, r4, r5, r6, r7, r8, r9⟩ := id e2
  have eo : ∀ b k, b ≠ 3 → b ≠ 4 → gi (ui (ui y 3 h (nI p)) 4 h (nI q)) b k = gi y b k := fun b k c1 c2 => by rw [gi_ui, if_neg (fun z => c2 z.1), gi_ui, if_neg (fun z => c1 z.1)]
  have eT : ∀ i, i ≠ 6 + 2 * h → i ≠ 7 + 2 * h → lmT T h (nI p) (nI q) i = T i := fun i c1 c2 => by unfold lmT; rw [uT_ne _ _ c2, uT_ne _ _ c1]
  have e6 : lmT T h (nI p) (nI q) (6 + 2 * h) = nI p := by unfold lmT; rw [uT_ne _ _ (by omega), uT_at]
  have e7 : lmT T h (nI p) (nI q) (7 + 2 * h) = nI q := by unfold lmT; rw [uT_at]
  refine a.up (fun b k c => eo b k (by omega) (by omega)) rfl ⟨e1, e2.keep rfl, ⟨?_, ?_, ?_, ?_, ?_, ?_, ?_, ?_⟩, ?_⟩
  · rw [eo 2 0 (by omega) (by omega), eT 0 (by omega) (by omega)]; exact v0
  · rw [eo 2 1 (by omega) (by omega), eT 4 (by omega) (by omega)]; exact v1
  · rw [eo 2 2 (by omega) (by omega), eT 5 (by omega) (by omega)]; exact v2
  · rw [eo 2 3 (by omega) (by omega), eT 2 (by omega) (by omega)]; exact v3
  · rw [eo 2 4 (by omega) (by omega), eT 3 (by omega) (by omega)]; exact v4
  · intro i hi
    by_cases c : i = h
    · subst c
      rw [e6, e7]
      exact ⟨by rw [gi_ui, if_neg (by omega), gi_ui, if_pos ⟨rfl, rfl⟩], by rw [gi_ui, if_pos ⟨rfl, rfl⟩]⟩
    · rw [eT _ (by omega) (by omega), eT _ (by omega) (by omega), gi_ui, if_neg (by omega), gi_ui, if_neg (by omega), gi_ui, if_neg (by omega), gi_ui, if_neg (by omega)]
      exact v5 i hi
  · intro s p' hs hp'
    obtain ⟨j, hj, ej⟩ := r6 s (by omega)
    have ep : p' = 2 + 6 + j := Option.some.inj (hp'.symm.trans ej)
    exact (v6 s p' hs hp').cg (fun k _ => eo p' k (by omega) (by omega)) (fun k hk => eT _ (by omega) (by omega))
  · intro s p' hs hp'
    obtain ⟨j, hj, ej⟩ := r8 s (by omega)
    have ep : p' = 2 + 30 + j := Option.some.inj (hp'.symm.trans ej)
    exact (v7 s p' hs hp').cg (fun k _ => eo p' k (by omega) (by omega)) (fun k hk => eT _ (by omega) (by omega))
  · refine ⟨by rw [eT 0 (by omega) (by omega)]; exact w1, w2, w3, by rw [eT 1 (by omega) (by omega)]; exact w4, w5, by rw [eT 2 (by omega) (by omega)]; exact w6, w7, by rw [eT 3 (by omega) (by omega)]; exact w8, w9, by rw [eT 4 (by omega) (by omega)]; exact w10, w11, fun i hi => ?_, fun s hs => (w13 s hs).cg (fun k hk => eT _ (by omega) (by omega)), fun a ha => (w14 a ha).cg (fun k hk => eT _ (by omega) (by omega))⟩
    by_cases c : i = h
    · subst c
      rw [e6, e7]
      exact ⟨p, q, hp, hq, rfl, rfl⟩
    · rw [eT _ (by omega) (by omega), eT _ (by omega) (by omega)]
      exact w12 i hi
end
theorem eq_limit (a b c : Int32) : Both mX7_limit mX8_limit [.int a, .int b, .int c] := by
  intro x R
  obtain ⟨W, C, S, A, N, n, H, ac, rs, nm⟩ := R.ac
  have E := ac.2.2.2.2
  have hn := E.nums
  have hW : W ≤ 30 := hn.2.2.2.2.1
  have hC : C ≤ 8 := hn.2.2.2.2.2.1
  have no : ¬ ((0 < nI W ∧ 0 ≤ a ∧ a < 24) ∧ (0 ≤ b ∧ b ≤ 9) ∧ (0 ≤ c ∧ c ≤ b)) → mSI mX8_limit [.ref 717, .int a, .int b, .int c] KW x (fun r' z => -2 = r' ∧ Rel z) := by
    intro g
    have ab : ∀ h p q, a = nI h → b = nI p → c = nI q → h < 24 → p ≤ 9 → q ≤ p → 0 < nI W → False := fun h p q e1 e2 e3 h1 h2 h3 h4 => g (by
      rw [e1, e2, e3]
      exact ⟨⟨h4, nI_pos' (by omega), nI_lt (b := 24) h1 (by decide)⟩, ⟨nI_pos' (by omega), nI_le (b := 9) h2 (by decide)⟩, nI_pos' (by omega), nI_le h3 (by omega)⟩)
    exact sq_X8_limit rs E.2.2.2 (fun _ => ⟨rfl, R⟩) (fun h p q e1 e2 e3 h1 h2 h3 h4 => (ab h p q e1 e2 e3 h1 h2 h3 h4).elim) (fun h p q e1 e2 e3 h1 h2 h3 h4 => (ab h p q e1 e2 e3 h1 h2 h3 h4).elim) (fun h p q e1 e2 e3 h1 h2 h3 h4 => (ab h p q e1 e2 e3 h1 h2 h3 h4).elim)
  refine v_X7_limit_0 k0 R.1.2.1 (ks0 E.1) ?_
  rw [hn.1]
  refine ⟨fun z => no (fun u => z u.1), fun z1 => ⟨fun z => no (fun u => z u.2.1), fun z2 => ⟨fun z3 => ?_, fun z => no (fun u => z u.2.2)⟩⟩⟩
  obtain ⟨h, hh, rfl⟩ := inN (n := 24) (by decide) z1.2
  obtain ⟨p, hp, rfl⟩ := nI_of2 (M := 9) (n := 9) (by decide) (Int32.not_lt.mpr z2.1) z2.2
  obtain ⟨q, hq, rfl⟩ := nI_of (Int32.not_lt.mpr z3.1)
  have hqp : q ≤ p := (nI_leI hq (by omega)).mp z3.2
  have inj : ∀ h' p' q', nI h = nI h' → nI p = nI p' → nI q = nI q' → h' < 24 → p' ≤ 9 → q' ≤ p' → h' = h ∧ p' = p ∧ q' = q := fun h' p' q' e1 e2 e3 g1 g2 g3 => ⟨((nI_eq (by omega) (by omega)).mp e1).symm, ((nI_eq (by omega) (by omega)).mp e2).symm, ((nI_eq (by omega) (by omega)).mp e3).symm⟩
  refine sp_X4_holdsMore E hh hp (by omega) (fun y hy => ?_)
  have ay := ac.e7 hy
  have Ey := ay.2.2.2.2
  rw [nI_clamp (show h < 2 ^ 31 by omega)]
  have l5 := Ey.2.2.1.2.2.2.2.2.1 h hh
  refine ⟨fun u => ⟨ay.2.1.2.1, 3, Ey.2.1.1, 24, ks1 E.1, vp_in_nI hh (by decide), 4, Ey.2.1.2.1, 24, ks2 E.1, vp_in_nI hh (by decide), ?_⟩, fun u => ?_⟩
  · rw [show gi y 3 h = gi x 718 (6 + 2 * h) from l5.1, show gi y 4 h = gi x 718 (7 + 2 * h) from l5.2]
    have go : ¬ (gi x 718 (6 + 2 * h) = nI p ∧ gi x 718 (7 + 2 * h) = nI q) → mSV mX7_remember [.ref 0] KW y (fun y_19 => gr y_19 0 2 = some 2 ∧ (∃ c_21, gr y_19 2 5 = some c_21 ∧ (∃ n_24, kk KW c_21 = some (20, n_24) ∧ (vp_in (nI h) n_24 ∧ (∃ c_26, gr y_19 2 6 = some c_26 ∧ (∃ n_29, kk KW c_26 = some (20, n_29) ∧ (vp_in (nI h) n_29 ∧ (mSI mX8_limit [.ref 717, .int (nI h), .int (nI p), .int (nI q)] KW (ui (ui y_19 c_21 h (nI p)) c_26 h (nI q)) (fun r' z => ((10 * gi x 718 (6 + 2 * h)) + gi x 718 (7 + 2 * h)) = r' ∧ Rel z))))))))) := by
      intro g
      refine ay.rem (fun _ _ => rfl) (fun z az z1' z2' => ⟨az.2.1.2.1, 3, az.2.2.2.2.2.1.1, 24, ks1 E.1, vp_in_nI hh (by decide), 4, az.2.2.2.2.2.1.2.1, 24, ks2 E.1, vp_in_nI hh (by decide), ?_⟩)
      have a2 := az.lim hh (show p ≤ 10 by omega) (show q ≤ 10 by omega)
      refine sq_X8_limit (a2.rs rs) E.2.2.2 (fun v => absurd ⟨z1, z2, z3⟩ v) (fun h' p' q' e1 e2 e3 g1 g2 g3 _ v => ?_) (fun h' p' q' e1 e2 e3 g1 g2 g3 _ _ v1 v2 => ?_) (fun h' p' q' e1 e2 e3 g1 g2 g3 _ _ _ v f r2 => ?_) <;> obtain ⟨rfl, rfl, rfl⟩ := inj h' p' q' e1 e2 e3 g1 g2 g3
      · exact absurd u v
      · exact absurd ⟨v1, v2⟩ g
      · refine ⟨rfl, a2.fin R nm (fun c hc => ?_) f r2⟩
        unfold lmT
        rw [uT_ne _ _ (by omega), uT_ne _ _ (by omega)]
    refine ⟨fun v => go (fun g => v g.1), fun v => ⟨fun v2 => ?_, fun v2 => go (fun g => v2 g.2)⟩⟩
    refine sq_X8_limit (ay.rs rs) E.2.2.2 (fun v => absurd ⟨z1, z2, z3⟩ v) (fun h' p' q' e1 e2 e3 g1 g2 g3 _ w => ?_) (fun h' p' q' e1 e2 e3 g1 g2 g3 _ _ _ _ z f r2 => ?_) (fun h' p' q' e1 e2 e3 g1 g2 g3 _ _ w => ?_) <;> obtain ⟨rfl, rfl, rfl⟩ := inj h' p' q' e1 e2 e3 g1 g2 g3
    · exact absurd u w
    · exact ⟨rfl, ay.fin R nm (fun _ _ => rfl) f r2⟩
    · exact absurd ⟨v, v2⟩ w
  · refine sq_X8_limit (ay.rs rs) E.2.2.2 (fun v => absurd ⟨z1, z2, z3⟩ v) (fun h' p' q' e1 e2 e3 g1 g2 g3 _ w => ⟨rfl, (R.e7 hy).1⟩) (fun h' p' q' e1 e2 e3 g1 g2 g3 _ w => ?_) (fun h' p' q' e1 e2 e3 g1 g2 g3 _ w => ?_) <;> obtain ⟨rfl, rfl, rfl⟩ := inj h' p' q' e1 e2 e3 g1 g2 g3
    · exact absurd w u
    · exact absurd w u
end
/-! 50.ask.lean.txt -/
section
def askT (T : TT) (A : Nat) (f : Nat → Int32) : TT := fun i => if i = 3 then nI (A + 1) else if 350 + 7 * A ≤ i ∧ i < 357 + 7 * A then f (i - (350 + 7 * A)) else T i
theorem askT_off {T : TT} {A : Nat} {f : Nat → Int32} {i : Nat} (h3 : i ≠ 3) (h : ¬ (350 + 7 * A ≤ i ∧ i < 357 + 7 * A)) : askT T A f i = T i := by
  unfold askT
  rw [if_neg h3, if_neg h]
theorem ao_askT {T : TT} {A : Nat} {f : Nat → Int32} {k : Nat} (h : k < 7) : ao (askT T A f) A k = f k := by
  unfold ao askT
  rw [if_neg (by omega), if_pos (by omega)]
  congr 1
  omega
/-- one ask more -/
theorem SEA.addA {x z : Cn} {q p : Nat} {T T' : TT} {W C S A N : Nat} (E : SEA x q T W C S A N) (hA : A < 24) (hp : gr x (q + 4) A = some p) (h1 : z.2 = x.2) (h2 : ∀ b k, q ≤ b → b < q + 54 → b ≠ p → ¬ (b = q ∧ k = 4) → b ≠ q + 5 → gi z b k = gi x b k) (h3 : gi z q 4 = nI (A + 1)) (h4 : ASR z p T' A) (hT : ∀ i, i < 518 → i ≠ 3 → ¬ (350 + 7 * A ≤ i ∧ i < 357 + 7 * A) → T' i = T i) (hT3 : T' 3 = nI (A + 1)) (hw : Was T' C W A) : SEA z q T' W C S (A + 1) N := by
  obtain ⟨e1, e2, ⟨v0, v1, v2, v3, v4, v5, v6, v7⟩, w1, w2, w3, w4, w5, w6, w7, w8, w9, w10, w11, w12, w13, w14⟩ := E
  obtain ⟨r1, r2, r3, r4, r5, r6, r7, r8, r9⟩ := id e2
  have hg : ∀ b k, gr z b k = gr x b k := fun b k => by unfold gr; rw [h1]
  obtain ⟨j, hj, ej⟩ := r8 A hA
  have ep : p = q + 30 + j := Option.some.inj (hp.symm.trans ej)
  refine ⟨e1, e2.keep h1, ⟨?_, ?_, ?_, ?_, ?_, ?_, ?_, ?_⟩, ?_⟩
  · rw [h2 q 0 (by omega) (by omega) (by omega) (by omega) (by omega), hT 0 (by decide) (by decide) (by omega)]; exact v0
  · rw [h2 q 1 (by omega) (by omega) (by omega) (by omega) (by omega), hT 4 (by decide) (by decide) (by omega)]; exact v1
  · rw [h2 q 2 (by omega) (by omega) (by omega) (by omega) (by omega), hT 5 (by decide) (by decide) (by omega)]; exact v2
  · rw [h2 q 3 (by omega) (by omega) (by omega) (by omega) (by omega), hT 2 (by decide) (by decide) (by omega)]; exact v3
  · rw [h3, hT3]
  · intro h hh
    rw [h2 (q + 1) h (by omega) (by omega) (by omega) (by omega) (by omega), h2 (q + 2) h (by omega) (by omega) (by omega) (by omega) (by omega), hT _ (by omega) (by omega) (by omega), hT _ (by omega) (by omega) (by omega)]
    exact v5 h hh
  · intro s p' hs hp'
    rw [hg] at hp'
    obtain ⟨j', hj', ej'⟩ := r6 s (by omega)
    have ep' : p' = q + 6 + j' := Option.some.inj (hp'.symm.trans ej')
    exact (v6 s p' hs hp').cg (fun k _ => h2 p' k (by omega) (by omega) (by omega) (by omega) (by omega)) (fun k hk => hT _ (by omega) (by omega) (by omega))
  · intro a p' ha hp'
    rw [hg] at hp'
    by_cases c : a = A
    · rw [c] at hp' ⊢
      have : p' = p := Option.some.inj (hp'.symm.trans hp)
      rw [this]; exact h4
    · have hne : p' ≠ p := fun e => c (r9 a A (by omega) hA (by rw [hp', hp, e]))
      obtain ⟨j', hj', ej'⟩ := r8 a (by omega)
      have ep' : p' = q + 30 + j' := Option.some.inj (hp'.symm.trans ej')
      exact (v7 a p' (by omega) hp').cg (fun k _ => h2 p' k (by omega) (by omega) hne (by omega) (by omega)) (fun k hk => hT _ (by omega) (by omega) (by omega))
  · refine ⟨by rw [hT 0 (by decide) (by decide) (by omega)]; exact w1, w2, w3, by rw [hT 1 (by decide) (by decide) (by omega)]; exact w4, w5, by rw [hT 2 (by decide) (by decide) (by omega)]; exact w6, w7, hT3, by omega, by rw [hT 4 (by decide) (by decide) (by omega)]; exact w10, w11, fun h hh => by rw [hT _ (by omega) (by omega) (by omega), hT _ (by omega) (by omega) (by omega)]; exact w12 h hh, fun s hs => (w13 s hs).cg (fun k hk => hT _ (by omega) (by omega) (by omega)), fun a ha => ?_⟩
    by_cases c : a = A
    · rw [c]; exact hw
    · exact (w14 a (by omega)).cg (fun k hk => hT _ (by omega) (by omega) (by omega))
set_option maxHeartbeats 2000000 in
theorem v_X8_addsAsk_0 {K : Sh} {x : Cn} {Q : Cn → Prop} {b0 : Nat}   (K0 : GV mX8_addsAsk 2 [some (.ref b0), some (.int 0)] [] K x Q) : mSV mX8_addsAsk [.ref b0] K x Q := by
  refine s_V (by decide) (by simp [Value.category]) (Nat.le_of_ble_eq_true rfl) ?_
  show mGM mX8_addsAsk 0 [some (.ref b0), none] [] (hp K x) (PV K Q)
  refine r_iconst (pc := 0) (v := 0) dX8_addsAsk_0 (by decide) ?_
  refine r_istore_n (pc := 1) dX8_addsAsk_1 (by decide) ?_
  exact r_le (L' := [some (.ref b0), some (.int 0)]) ⟨rfl, ⟨rfl, trivial⟩⟩ K0
set_option maxHeartbeats 2000000 in
theorem v_X8_addsAsk_2 {K : Sh} {x : Cn} {Q : Cn → Prop} {b0 : Nat} {l1 : Int32} {b0_3 : Nat} {n_b0_3 : Nat} {b0_15 : Nat} {n_b0_15 : Nat} (k_b0 : kk K b0 = some (8, 0)) (g_b0_3 : gr x b0 3 = some b0_3) (k_b0_3 : kk K b0_3 = some (20, n_b0_3)) (g_b0_15 : gr x b0 15 = some b0_15) (k_b0_15 : kk K b0_15 = some (20, n_b0_15)) (K0 : (7 ≤ l1 → (vp_in 3 n_b0_3 ∧ (Q (ui x b0_3 3 ((gi x b0_3 3) + 1))))) ∧ (¬ 7 ≤ l1 → (vp_in 3 n_b0_3 ∧ (vp_in l1 n_b0_15 ∧ (vp_in ((350 + (7 * (gi x b0_3 3))) + l1) n_b0_3 ∧ (GV mX8_addsAsk 2 [some (.ref b0), some (.int (l1 + 1))] [] K (ui x b0_3 (((350 + (7 * (gi x b0_3 3))) + l1) : Int32).toNatClampNeg (gi x b0_15 (l1 : Int32).toNatClampNeg)) Q)))))) : GV mX8_addsAsk 2 [some (.ref b0), some (.int l1)] [] K x Q := by
  show mGM mX8_addsAsk 2 [some (.ref b0), some (.int l1)] [] (hp K x) (PV K Q)
  refine r_iload_n (pc := 2) dX8_addsAsk_2 rfl ?_
  refine r_bipush (pc := 3) (v := 7) dX8_addsAsk_3 (by decide) ?_
  refine r_icmp_ge (pc := 5) (tgt := 40) dX8_addsAsk_5 (by decide) (fun q => ?_) (fun q => ?_)
  · have K0 := K0.1 q
    refine r_aload_n (pc := 40) dX8_addsAsk_40 rfl ?_
    refine s_getR (pc := 41) dX8_addsAsk_41 fl_X8_16 rfl k_b0 g_b0_3 ?_
    refine r_iconst (pc := 44) (v := 3) dX8_addsAsk_44 (by decide) ?_
    refine r_dup2 (pc := 45) dX8_addsAsk_45 rfl rfl ?_
    obtain ⟨i_2, K0⟩ := K0
    refine s_iald (pc := 46) dX8_addsAsk_46 k_b0_3 i_2 ?_
    refine r_iconst (pc := 47) (v := 1) dX8_addsAsk_47 (by decide) ?_
    refine r_iadd (pc := 48) dX8_addsAsk_48 ?_
    refine s_iast (pc := 49) dX8_addsAsk_49 k_b0_3 i_2 ?_
    exact s_ret rfl dX8_addsAsk_50 K0
  · have K0 := K0.2 q
    refine r_aload_n (pc := 8) dX8_addsAsk_8 rfl ?_
    refine s_getR (pc := 9) dX8_addsAsk_9 fl_X8_16 rfl k_b0 g_b0_3 ?_
    refine r_sipush (pc := 12) (v := 350) dX8_addsAsk_12 (by decide) ?_
    refine r_bipush (pc := 15) (v := 7) dX8_addsAsk_15 (by decide) ?_
    refine r_aload_n (pc := 17) dX8_addsAsk_17 rfl ?_
    refine s_getR (pc := 18) dX8_addsAsk_18 fl_X8_16 rfl k_b0 g_b0_3 ?_
    refine r_iconst (pc := 21) (v := 3) dX8_addsAsk_21 (by decide) ?_
    obtain ⟨i_3, K0⟩ := K0
    refine s_iald (pc := 22) dX8_addsAsk_22 k_b0_3 i_3 ?_
    refine r_imul (pc := 23) dX8_addsAsk_23 ?_
    refine r_iadd (pc := 24) dX8_addsAsk_24 ?_
    refine r_iload_n (pc := 25) dX8_addsAsk_25 rfl ?_
    refine r_iadd (pc := 26) dX8_addsAsk_26 ?_
    refine r_aload_n (pc := 27) dX8_addsAsk_27 rfl ?_
    refine s_getR (pc := 28) dX8_addsAsk_28 fl_X8_27 rfl k_b0 g_b0_15 ?_
    refine r_iload_n (pc := 31) dX8_addsAsk_31 rfl ?_
    obtain ⟨i_4, K0⟩ := K0
    refine s_iald (pc := 32) dX8_addsAsk_32 k_b0_15 i_4 ?_
    obtain ⟨i_5, K0⟩ := K0
    refine s_iast (pc := 33) dX8_addsAsk_33 k_b0_3 i_5 ?_
    refine r_iinc (pc := 34) (v := l1 + 1) dX8_addsAsk_34 rfl rfl (by decide) ?_
    refine r_goto (pc := 37) (L := [some (.ref b0), some (.int (l1 + 1))]) (tgt := 2) dX8_addsAsk_37 (by decide) ?_
    exact r_le (L' := [some (.ref b0), some (.int (l1 + 1))]) ⟨rfl, ⟨rfl, trivial⟩⟩ K0
section
theorem sp_X8_addsAsk {x : Cn} {Q : Cn → Prop} {t A : Nat} {f : Nat → Int32} (M : MRf x t) (ht : kk KW t = some (20, 518)) (ht2 : t ≠ 721) (h3 : gi x t 3 = nI A) (hA : A < 24) (hf : ∀ k, k < 7 → gi x 721 k = f k) (q : ∀ y, y.2 = x.2 → (∀ a k, a ≠ t → gi y a k = gi x a k) → gi y t = askT (gi x t) A f → Q y) : mSV mX8_addsAsk [.ref 717] KW x Q := by
  have key : ∀ c k y, k + c = 7 → y.2 = x.2 → (∀ a k, a ≠ t → gi y a k = gi x a k) → (∀ i, gi y t i = if 350 + 7 * A ≤ i ∧ i < 350 + 7 * A + k then f (i - (350 + 7 * A)) else gi x t i) → GV mX8_addsAsk 2 [some (.ref 717), some (.int (nI k))] [] KW y Q := by
    intro c
    induction c with
    | zero =>
      intro k y hk y1 y2 y3
      have : k = 7 := by omega
      subst this
      have M2 := M.keep y1
      refine v_X8_addsAsk_2 km M2.2.2.1 ht M2.2.2.2.2.1 (show kk KW 721 = some (20, 7) by decide) ⟨fun _ => ⟨v0 (k := 3) (by decide) rfl rfl, ?_⟩, fun z => absurd (Int32.le_refl _) z⟩
      have e3 : gi y t 3 = nI A := by rw [y3, if_neg (by omega)]; exact h3
      rw [e3, nI_1]
      refine q _ y1 (fun a k ha => by rw [gi_ui, if_neg (fun z => ha z.1)]; exact y2 a k ha) ?_
      funext i
      rw [gi_ui]
      unfold askT
      by_cases c3 : i = 3
      · rw [if_pos ⟨rfl, c3⟩, if_pos c3]
      · rw [if_neg (fun z => c3 z.2), if_neg c3, y3]
        by_cases c4 : 350 + 7 * A ≤ i ∧ i < 357 + 7 * A
        · rw [if_pos (by omega), if_pos c4]
        · rw [if_neg (by omega), if_neg c4]
    | succ c ih =>
      intro k y hk y1 y2 y3
      have M2 := M.keep y1
      have e3 : gi y t 3 = nI A := by rw [y3, if_neg (by omega)]; exact h3
      refine v_X8_addsAsk_2 km M2.2.2.1 ht M2.2.2.2.2.1 (show kk KW 721 = some (20, 7) by decide) ⟨fun z => absurd z (nI_ge (b := 7) (by omega) (by decide)), fun _ => ⟨v0 (k := 3) (by decide) rfl rfl, vp_in_nI (by omega) (by decide), ?_⟩⟩
      rw [e3, nI_1, nI_clamp (show k < 2 ^ 31 by omega)]
      refine ⟨iv2 hA k rfl (by omega), ?_⟩
      rw [ic2 hA k rfl (by omega)]
      refine ih (k + 1) _ (by omega) y1 (fun a k ha => by rw [gi_ui, if_neg (fun z => ha z.1)]; exact y2 a k ha) (fun i => ?_)
      rw [gi_ui]
      by_cases c3 : i = 350 + 7 * A + k
      · rw [if_pos ⟨rfl, c3⟩, if_pos (by omega), y2 721 k (Ne.symm ht2), hf k (by omega)]
        congr 1
        omega
      · rw [if_neg (fun z => c3 z.2), y3]
        by_cases c4 : 350 + 7 * A ≤ i ∧ i < 350 + 7 * A + k
        · rw [if_pos c4, if_pos (by omega)]
        · rw [if_neg c4, if_neg (by omega)]
  exact v_X8_addsAsk_0 (key 7 0 x (by omega) rfl (fun _ _ _ => rfl) (fun i => by rw [if_neg (by omega)]))
theorem RS.mv {x z : Cn} {T T' : TT} {n : Nat} {H : Nat → TT} (r : RS x T n H) (h1 : z.2 = x.2) (h2 : ∀ a k, a ≠ 718 → a ≠ 719 → a ≠ 721 → a ≠ 722 → a ≠ 723 → ¬ (a = 717 ∧ k = 18) → gi z a k = gi x a k) (h3 : gi z 718 = T') : RS z T' n H ∧ RFr x z :=
  ⟨⟨r.1.keep h1, h3, by rw [h2 717 19 (by decide) (by decide) (by decide) (by decide) (by decide) (by omega)]; exact r.2.2.1, r.2.2.2.1, fun j hj i hi => by rw [h2 724 _ (by decide) (by decide) (by decide) (by decide) (by decide) (by omega)]; exact r.2.2.2.2 j hj i hi⟩, h1, fun a k a1 a2 a3 a4 a5 a6 a7 => h2 a k a1 a2 a3 a4 a5 (fun u => a7 (by omega))⟩
/-- what an ask may say -/
def okA (C W : Nat) (a b f l e : Int32) : Prop := ∃ c k f' l' e', a = nI c ∧ c < C ∧ b = nI k ∧ k ≤ 6999 ∧ k % 10 ≤ 1 ∧ k / 10 % 100 ≤ 23 ∧ f = nI f' ∧ f' < W ∧ l = nI l' ∧ l' < W ∧ f' + 4 ≤ l' ∧ e = nI e' ∧ e' ≤ 9
theorem ky_1 {k : Nat} (h : k < 2 ^ 31) : nI k / 1000 = nI (k / 1000) := pk_div (d := 1000) h (by decide) (by decide)
theorem ky_2 {k : Nat} (h : k < 2 ^ 31) : (nI k - nI k / 1000 * 1000) / 10 = nI (k / 10 % 100) := by
  have e : nI k - nI k / 1000 * 1000 = nI (k % 1000) := pk_rem (d := 1000) h (by decide) (by decide)
  rw [e]
  have := pk_div (a := k % 1000) (d := 10) (by omega) (by decide) (by decide)
  rw [show (nI (k % 1000) / 10 : Int32) = nI (k % 1000 / 10) from this]
  congr 1
  omega
theorem ky_3 {k : Nat} (h : k < 2 ^ 31) : nI k - nI k / 10 * 10 = nI (k % 10) := pk_rem (d := 10) h (by decide) (by decide)
theorem ky_4 {k : Nat} (h : k < 2 ^ 31) : (nI k / 10) - (nI k / 10) / 100 * 100 = nI (k / 10 % 100) := by
  have e : nI k / 10 = nI (k / 10) := pk_div (d := 10) h (by decide) (by decide)
  rw [e]
  exact pk_rem (d := 100) (by omega) (by decide) (by decide)
def askF (a b f l e : Int32) : Nat → Int32 := fun j => if j = 0 then a else if j = 1 then b / 1000 else if j = 2 then (b / 10) - (b / 10) / 100 * 100 else if j = 3 then b - b / 10 * 10 else if j = 4 then f else if j = 5 then l else e
theorem okA.was {C W A : Nat} {a b f l e : Int32} {T : TT} (h : okA C W a b f l e) : Was (askT T A (askF a b f l e)) C W A := by
  obtain ⟨c, k, f', l', e', h1, h2, h3, h4, h5, h6, h7, h8, h9, h10, h11, h12, h13⟩ := h
  subst h1 h3 h7 h9 h12
  refine ⟨⟨c, h2, by rw [ao_askT (by decide)]; rfl⟩, ⟨k / 1000, by omega, by rw [ao_askT (by decide)]; exact ky_1 (by omega)⟩, ⟨k / 10 % 100, by omega, by rw [ao_askT (by decide)]; exact ky_4 (by omega)⟩, ?_, ⟨f', l', h11, h10, by rw [ao_askT (by decide)]; rfl, by rw [ao_askT (by decide)]; rfl⟩, ⟨e', h13, by rw [ao_askT (by decide)]; rfl⟩⟩
  rw [ao_askT (by decide), show askF (nI c) (nI k) (nI f') (nI l') (nI e') 3 = nI (k % 10) from ky_3 (by omega)]
  have : k % 10 = 0 ∨ k % 10 = 1 := by omega
  rcases this with g | g
  · rw [g]; exact Or.inl rfl
  · rw [g]; exact Or.inr rfl
end
set_option maxHeartbeats 2000000 in
theorem v_X4_addAsk_0 {K : Sh} {x : Cn} {Q : Nat → Cn → Prop} {b0 : Nat} {b0_8 : Nat} {n_b0_8 : Nat} (k_b0 : kk K b0 = some (4, 0)) (g_b0_8 : gr x b0 8 = some b0_8) (k_b0_8 : kk K b0_8 = some (24, n_b0_8)) (K0 : vp_in (if 23 < (gi x b0 4) then 23 else (gi x b0 4)) n_b0_8 ∧ (∃ c_2 : Nat, gr x b0_8 (((if 23 < (gi x b0 4) then 23 else (gi x b0 4)) : Int32).toNatClampNeg) = some c_2 ∧ (Q c_2 (ui x b0 4 ((if 23 < (gi x b0 4) then 23 else (gi x b0 4)) + 1))))) : mSR mX4_addAsk [.ref b0] K x Q := by
  refine s_R (by decide) (by simp [Value.category]) (Nat.le_of_ble_eq_true rfl) ?_
  show mGM mX4_addAsk 0 [some (.ref b0), none] [] (hp K x) (PR K Q)
  refine r_aload_n (pc := 0) dX4_addAsk_0 rfl ?_
  refine s_getI (pc := 1) dX4_addAsk_1 fl_X4_24 rfl k_b0 ?_
  refine r_bipush (pc := 4) (v := 23) dX4_addAsk_4 (by decide) ?_
  refine r_mmin (pc := 6) dX4_addAsk_6 lk_X4_58 mw_min ⟨by decide, by decide⟩ (Nat.le_of_ble_eq_true rfl) ?_
  refine r_istore_n (pc := 9) dX4_addAsk_9 (by decide) ?_
  refine r_aload_n (pc := 10) (L := [some (.ref b0), some (.int (if 23 < (gi x b0 4) then 23 else (gi x b0 4)))]) dX4_addAsk_10 rfl ?_
  refine r_iload_n (pc := 11) dX4_addAsk_11 rfl ?_
  refine r_iconst (pc := 12) (v := 1) dX4_addAsk_12 (by decide) ?_
  refine r_iadd (pc := 13) dX4_addAsk_13 ?_
  refine s_putI (pc := 14) dX4_addAsk_14 fl_X4_24 rfl rfl k_b0 ?_
  refine r_aload_n (pc := 17) dX4_addAsk_17 rfl ?_
  refine s_getR (pc := 18) dX4_addAsk_18 fl_X4_42 rfl k_b0 g_b0_8 ?_
  refine r_iload_n (pc := 21) dX4_addAsk_21 rfl ?_
  obtain ⟨i_1, K0⟩ := K0
  obtain ⟨c_2, g_3, K0⟩ := K0
  refine s_aald (pc := 22) dX4_addAsk_22 (by decide) rfl k_b0_8 i_1 g_3 ?_
  exact s_aret rfl dX4_addAsk_23 K0
set_option maxHeartbeats 2000000 in
theorem v_X7_ask_0 {K : Sh} {x : Cn} {Q : Int32 → Cn → Prop} {b0 : Nat} {l1 : Int32} {l2 : Int32} {l3 : Int32} {l4 : Int32} {l5 : Int32} {b0_3 : Nat} {b0_2 : Nat} (k_b0 : kk K b0 = some (7, 0)) (g_b0_3 : gr x b0 3 = some b0_3) (k_b0_3 : kk K b0_3 = some (1, 0)) (g_b0_2 : gr x b0 2 = some b0_2) (k_b0_2 : kk K b0_2 = some (4, 0)) (K0 : (¬ (0 ≤ l1 ∧ l1 < gi x b0_3 0) → (Q (-2) x)) ∧ ((0 ≤ l1 ∧ l1 < gi x b0_3 0) → ((l2 < 0 → (Q (-2) x)) ∧ (¬ l2 < 0 → ((¬ (0 < gi x b0_2 0 ∧ 0 ≤ (l2 / 1000) ∧ (l2 / 1000) < 7) → (Q (-2) x)) ∧ ((0 < gi x b0_2 0 ∧ 0 ≤ (l2 / 1000) ∧ (l2 / 1000) < 7) → ((¬ (0 < gi x b0_2 0 ∧ 0 ≤ ((l2 - l2 / 1000 * 1000) / 10) ∧ ((l2 - l2 / 1000 * 1000) / 10) < 24) → (Q (-2) x)) ∧ ((0 < gi x b0_2 0 ∧ 0 ≤ ((l2 - l2 / 1000 * 1000) / 10) ∧ ((l2 - l2 / 1000 * 1000) / 10) < 24) → ((((l2 - l2 / 10 * 10) = 0 ∨ (l2 - l2 / 10 * 10) = 1) → ((¬ (0 ≤ l3 ∧ l3 < gi x b0_2 0) → (Q (-2) x)) ∧ ((0 ≤ l3 ∧ l3 < gi x b0_2 0) → ((¬ (0 ≤ l4 ∧ l4 < gi x b0_2 0) → (Q (-2) x)) ∧ ((0 ≤ l4 ∧ l4 < gi x b0_2 0) → ((((l4 - l3) + 1) < 5 → (Q (-2) x)) ∧ (¬ ((l4 - l3) + 1) < 5 → (((0 ≤ l5 ∧ l5 ≤ 9) → (((gi x b0_2 4) < 24 → (mSV mX7_remember [.ref b0] K x (fun y_11 => gr y_11 b0 2 = some b0_2 ∧ (mSR mX4_addAsk [.ref b0_2] K y_11 (fun r_14 y_13 => kk K r_14 = some (0, 0) ∧ (mSV mX0_placeAt [.ref r_14, .int l1, .int (l2 / 1000), .int ((l2 - l2 / 1000 * 1000) / 10), .int (l2 - l2 / 10 * 10)] K y_13 (fun y_16 => mSV mX0_span [.ref r_14, .int l3, .int l4, .int l5] K y_16 (fun y_17 => gr y_17 b0 2 = some b0_2 ∧ (Q (gi y_17 b0_2 4) y_17))))))))) ∧ (¬ (gi x b0_2 4) < 24 → (Q (-5) x)))) ∧ (¬ (0 ≤ l5 ∧ l5 ≤ 9) → (Q (-2) x)))))))))) ∧ (¬ ((l2 - l2 / 10 * 10) = 0 ∨ (l2 - l2 / 10 * 10) = 1) → (Q (-2) x))))))))))) : mSI mX7_ask [.ref b0, .int l1, .int l2, .int l3, .int l4, .int l5] K x Q := by
  refine s_I (by decide) (by simp [Value.category]) (Nat.le_of_ble_eq_true rfl) ?_
  show mGM mX7_ask 0 [some (.ref b0), some (.int l1), some (.int l2), some (.int l3), some (.int l4), some (.int l5), none, none, none, none] [] (hp K x) (PI K Q)
  refine r_iload_n (pc := 0) dX7_ask_0 rfl ?_
  refine r_sipush (pc := 1) (v := 1000) dX7_ask_1 (by decide) ?_
  refine r_idiv (pc := 4) dX7_ask_4 (by decide) ?_
  refine r_istore (pc := 5) dX7_ask_5 (by decide) ?_
  refine r_iload_n (pc := 7) (L := [some (.ref b0), some (.int l1), some (.int l2), some (.int l3), some (.int l4), some (.int l5), some (.int (l2 / 1000)), none, none, none]) dX7_ask_7 rfl ?_
  refine r_sipush (pc := 8) (v := 1000) dX7_ask_8 (by decide) ?_
  refine r_irem (pc := 11) dX7_ask_11 (by decide) ?_
  refine r_bipush (pc := 12) (v := 10) dX7_ask_12 (by decide) ?_
  refine r_idiv (pc := 14) dX7_ask_14 (by decide) ?_
  refine r_istore (pc := 15) dX7_ask_15 (by decide) ?_
  refine r_iload_n (pc := 17) (L := [some (.ref b0), some (.int l1), some (.int l2), some (.int l3), some (.int l4), some (.int l5), some (.int (l2 / 1000)), some (.int ((l2 - l2 / 1000 * 1000) / 10)), none, none]) dX7_ask_17 rfl ?_
  refine r_bipush (pc := 18) (v := 10) dX7_ask_18 (by decide) ?_
  refine r_irem (pc := 20) dX7_ask_20 (by decide) ?_
  refine r_istore (pc := 21) dX7_ask_21 (by decide) ?_
  refine r_aload_n (pc := 23) (L := [some (.ref b0), some (.int l1), some (.int l2), some (.int l3), some (.int l4), some (.int l5), some (.int (l2 / 1000)), some (.int ((l2 - l2 / 1000 * 1000) / 10)), some (.int (l2 - l2 / 10 * 10)), none]) dX7_ask_23 rfl ?_
  refine r_iload_n (pc := 24) dX7_ask_24 rfl ?_
  refine s_VI (pc := 25) mX7_isCarrier (ci := 7) (a := b0) (As := [.int l1]) dX7_ask_25 lk_X7_109 in_X7_isCarrier mo_X7_isCarrier ⟨by decide, rfl⟩ ⟨by decide, by decide⟩ (Nat.le_of_ble_eq_true rfl) k_b0 (sp_X7_isCarrier k_b0 g_b0_3 k_b0_3 ?_)
  refine r_if_eq (pc := 28) (tgt := 61) dX7_ask_28 (by decide) (fun q => ?_) (fun q => ?_)
  · have q := (b2i_z _).mp q
    have K0 := K0.1 q
    refine r_bipush (pc := 61) (v := (-2)) dX7_ask_61 (by decide) ?_
    exact s_iret rfl dX7_ask_63 K0
  · have q := b2i_nz q
    have K0 := K0.2 q
    refine r_iload_n (pc := 31) dX7_ask_31 rfl ?_
    refine r_if_lt (pc := 32) (tgt := 61) dX7_ask_32 (by decide) (fun q => ?_) (fun q => ?_)
    · have K0 := K0.1 q
      refine r_bipush (pc := 61) (v := (-2)) dX7_ask_61 (by decide) ?_
      exact s_iret rfl dX7_ask_63 K0
    · have K0 := K0.2 q
      refine r_aload_n (pc := 35) dX7_ask_35 rfl ?_
      refine r_iload (pc := 36) dX7_ask_36 rfl ?_
      refine s_VI (pc := 38) mX7_isDay (ci := 7) (a := b0) (As := [.int (l2 / 1000)]) dX7_ask_38 lk_X7_245 in_X7_isDay mo_X7_isDay ⟨by decide, rfl⟩ ⟨by decide, by decide⟩ (Nat.le_of_ble_eq_true rfl) k_b0 (sp_X7_isDay k_b0 g_b0_2 k_b0_2 ?_)
      refine r_if_eq (pc := 41) (tgt := 61) dX7_ask_41 (by decide) (fun q => ?_) (fun q => ?_)
      · have q := (b2i_z _).mp q
        have K0 := K0.1 q
        refine r_bipush (pc := 61) (v := (-2)) dX7_ask_61 (by decide) ?_
        exact s_iret rfl dX7_ask_63 K0
      · have q := b2i_nz q
        have K0 := K0.2 q
        refine r_aload_n (pc := 44) dX7_ask_44 rfl ?_
        refine r_iload (pc := 45) dX7_ask_45 rfl ?_
        refine s_VI (pc := 47) mX7_isHour (ci := 7) (a := b0) (As := [.int ((l2 - l2 / 1000 * 1000) / 10)]) dX7_ask_47 lk_X7_195 in_X7_isHour mo_X7_isHour ⟨by decide, rfl⟩ ⟨by decide, by decide⟩ (Nat.le_of_ble_eq_true rfl) k_b0 (sp_X7_isHour k_b0 g_b0_2 k_b0_2 ?_)
        refine r_if_eq (pc := 50) (tgt := 61) dX7_ask_50 (by decide) (fun q => ?_) (fun q => ?_)
        · have q := (b2i_z _).mp q
          have K0 := K0.1 q
          refine r_bipush (pc := 61) (v := (-2)) dX7_ask_61 (by decide) ?_
          exact s_iret rfl dX7_ask_63 K0
        · have q := b2i_nz q
          have K0 := K0.2 q
          refine r_iload (pc := 53) dX7_ask_53 rfl ?_
          refine s_SI (pc := 55) mX7_isWay (As := [.int (l2 - l2 / 10 * 10)]) dX7_ask_55 lk_X7_218 st_X7_isWay mo_X7_isWay ⟨by decide, by decide⟩ (Nat.le_of_ble_eq_true rfl) (sp_X7_isWay  ?_)
          refine r_if_ne (pc := 58) (tgt := 64) dX7_ask_58 (by decide) (fun q => ?_) (fun q => ?_)
          · have q := b2i_nz q
            have K0 := K0.1 q
            refine r_aload_n (pc := 64) dX7_ask_64 rfl ?_
            refine r_iload_n (pc := 65) dX7_ask_65 rfl ?_
            refine s_VI (pc := 66) mX7_isWeek (ci := 7) (a := b0) (As := [.int l3]) dX7_ask_66 lk_X7_167 in_X7_isWeek mo_X7_isWeek ⟨by decide, rfl⟩ ⟨by decide, by decide⟩ (Nat.le_of_ble_eq_true rfl) k_b0 (sp_X7_isWeek k_b0 g_b0_2 k_b0_2 ?_)
            refine r_if_eq (pc := 69) (tgt := 102) dX7_ask_69 (by decide) (fun q => ?_) (fun q => ?_)
            · have q := (b2i_z _).mp q
              have K0 := K0.1 q
              refine r_bipush (pc := 102) (v := (-2)) dX7_ask_102 (by decide) ?_
              exact s_iret rfl dX7_ask_104 K0
            · have q := b2i_nz q
              have K0 := K0.2 q
              refine r_aload_n (pc := 72) dX7_ask_72 rfl ?_
              refine r_iload (pc := 73) dX7_ask_73 rfl ?_
              refine s_VI (pc := 75) mX7_isWeek (ci := 7) (a := b0) (As := [.int l4]) dX7_ask_75 lk_X7_167 in_X7_isWeek mo_X7_isWeek ⟨by decide, rfl⟩ ⟨by decide, by decide⟩ (Nat.le_of_ble_eq_true rfl) k_b0 (sp_X7_isWeek k_b0 g_b0_2 k_b0_2 ?_)
              refine r_if_eq (pc := 78) (tgt := 102) dX7_ask_78 (by decide) (fun q => ?_) (fun q => ?_)
              · have q := (b2i_z _).mp q
                have K0 := K0.1 q
                refine r_bipush (pc := 102) (v := (-2)) dX7_ask_102 (by decide) ?_
                exact s_iret rfl dX7_ask_104 K0
              · have q := b2i_nz q
                have K0 := K0.2 q
                refine r_iload (pc := 81) dX7_ask_81 rfl ?_
                refine r_iload_n (pc := 83) dX7_ask_83 rfl ?_
                refine r_isub (pc := 84) dX7_ask_84 ?_
                refine r_iconst (pc := 85) (v := 1) dX7_ask_85 (by decide) ?_
                refine r_iadd (pc := 86) dX7_ask_86 ?_
                refine r_iconst (pc := 87) (v := 5) dX7_ask_87 (by decide) ?_
                refine r_icmp_lt (pc := 88) (tgt := 102) dX7_ask_88 (by decide) (fun q => ?_) (fun q => ?_)
                · have K0 := K0.1 q
                  refine r_bipush (pc := 102) (v := (-2)) dX7_ask_102 (by decide) ?_
                  exact s_iret rfl dX7_ask_104 K0
                · have K0 := K0.2 q
                  refine r_iload (pc := 91) dX7_ask_91 rfl ?_
                  refine r_iconst (pc := 93) (v := 0) dX7_ask_93 (by decide) ?_
                  refine r_bipush (pc := 94) (v := 9) dX7_ask_94 (by decide) ?_
                  refine s_SI (pc := 96) mX7_isWithin (As := [.int l5, .int 0, .int 9]) dX7_ask_96 lk_X7_113 st_X7_isWithin mo_X7_isWithin ⟨by decide, by decide⟩ (Nat.le_of_ble_eq_true rfl) (sp_X7_isWithin  ?_)
                  refine r_if_ne (pc := 99) (tgt := 105) dX7_ask_99 (by decide) (fun q => ?_) (fun q => ?_)
                  · have q := b2i_nz q
                    have K0 := K0.1 q
                    refine r_aload_n (pc := 105) dX7_ask_105 rfl ?_
                    refine s_getR (pc := 106) dX7_ask_106 fl_X7_20 rfl k_b0 g_b0_2 ?_
                    refine s_getI (pc := 109) dX7_ask_109 fl_X7_100 rfl k_b0_2 ?_
                    refine r_bipush (pc := 112) (v := 24) dX7_ask_112 (by decide) ?_
                    refine r_icmp_lt (pc := 114) (tgt := 120) dX7_ask_114 (by decide) (fun q => ?_) (fun q => ?_)
                    · have K0 := K0.1 q
                      refine r_aload_n (pc := 120) dX7_ask_120 rfl ?_
                      refine s_VV (pc := 121) mX7_remember (ci := 7) (a := b0) (As := []) dX7_ask_121 lk_X7_333 in_X7_remember mo_X7_remember ⟨by decide, rfl⟩ ⟨by decide, by decide⟩ (Nat.le_of_ble_eq_true rfl) k_b0 (mSV_mono K0 (fun y_11 K0 => ?_))
                      refine r_aload_n (pc := 124) dX7_ask_124 rfl ?_
                      obtain ⟨g_12, K0⟩ := K0
                      refine s_getR (pc := 125) dX7_ask_125 fl_X7_20 rfl k_b0 g_12 ?_
                      refine s_VR (pc := 128) mX4_addAsk (ci := 4) (a := b0_2) (As := []) dX7_ask_128 lk_X7_361 in_X4_addAsk mo_X4_addAsk ⟨by decide, rfl⟩ ⟨by decide, by decide⟩ (Nat.le_of_ble_eq_true rfl) k_b0_2 (mSR_mono K0 (fun r_14 y_13 K0 => ?_))
                      refine r_astore (pc := 131) dX7_ask_131 (by decide) ?_
                      refine r_aload (pc := 133) (L := [some (.ref b0), some (.int l1), some (.int l2), some (.int l3), some (.int l4), some (.int l5), some (.int (l2 / 1000)), some (.int ((l2 - l2 / 1000 * 1000) / 10)), some (.int (l2 - l2 / 10 * 10)), some (.ref r_14)]) dX7_ask_133 rfl ?_
                      refine r_iload_n (pc := 135) dX7_ask_135 rfl ?_
                      refine r_iload (pc := 136) dX7_ask_136 rfl ?_
                      refine r_iload (pc := 138) dX7_ask_138 rfl ?_
                      refine r_iload (pc := 140) dX7_ask_140 rfl ?_
                      obtain ⟨e_15, K0⟩ := K0
                      refine s_VV (pc := 142) mX0_placeAt (ci := 0) (a := r_14) (As := [.int l1, .int (l2 / 1000), .int ((l2 - l2 / 1000 * 1000) / 10), .int (l2 - l2 / 10 * 10)]) dX7_ask_142 lk_X7_365 in_X0_placeAt mo_X0_placeAt ⟨by decide, rfl⟩ ⟨by decide, by decide⟩ (Nat.le_of_ble_eq_true rfl) e_15 (mSV_mono K0 (fun y_16 K0 => ?_))
                      refine r_aload (pc := 145) dX7_ask_145 rfl ?_
                      refine r_iload_n (pc := 147) dX7_ask_147 rfl ?_
                      refine r_iload (pc := 148) dX7_ask_148 rfl ?_
                      refine r_iload (pc := 150) dX7_ask_150 rfl ?_
                      refine s_VV (pc := 152) mX0_span (ci := 0) (a := r_14) (As := [.int l3, .int l4, .int l5]) dX7_ask_152 lk_X7_369 in_X0_span mo_X0_span ⟨by decide, rfl⟩ ⟨by decide, by decide⟩ (Nat.le_of_ble_eq_true rfl) e_15 (mSV_mono K0 (fun y_17 K0 => ?_))
                      refine r_aload_n (pc := 155) dX7_ask_155 rfl ?_
                      obtain ⟨g_18, K0⟩ := K0
                      refine s_getR (pc := 156) dX7_ask_156 fl_X7_20 rfl k_b0 g_18 ?_
                      refine s_getI (pc := 159) dX7_ask_159 fl_X7_100 rfl k_b0_2 ?_
                      exact s_iret rfl dX7_ask_162 K0
                    · have K0 := K0.2 q
                      refine r_bipush (pc := 117) (v := (-5)) dX7_ask_117 (by decide) ?_
                      exact s_iret rfl dX7_ask_119 K0
                  · have q := (b2i_z _).mp q
                    have K0 := K0.2 q
                    refine r_bipush (pc := 102) (v := (-2)) dX7_ask_102 (by decide) ?_
                    exact s_iret rfl dX7_ask_104 K0
          · have q := (b2i_z _).mp q
            have K0 := K0.2 q
            refine r_bipush (pc := 61) (v := (-2)) dX7_ask_61 (by decide) ?_
            exact s_iret rfl dX7_ask_63 K0
set_option maxHeartbeats 2000000 in
theorem v_X8_ask_0 {K : Sh} {x : Cn} {Q : Int32 → Cn → Prop} {b0 : Nat} {l1 : Int32} {l2 : Int32} {l3 : Int32} {l4 : Int32} {l5 : Int32} {b0_1 : Nat} {n_b0_1 : Nat} (k_b0 : kk K b0 = some (8, 0)) (g_b0_1 : gr x b0 1 = some b0_1) (k_b0_1 : kk K b0_1 = some (20, n_b0_1)) (K0 : vp_in 1 n_b0_1 ∧ ((¬ (0 ≤ l1 ∧ l1 ≤ gi x b0_1 1 - 1) → (Q (-2) x)) ∧ ((0 ≤ l1 ∧ l1 ≤ gi x b0_1 1 - 1) → ((¬ (0 ≤ l2 ∧ l2 ≤ 6999) → (Q (-2) x)) ∧ ((0 ≤ l2 ∧ l2 ≤ 6999) → ((¬ (0 ≤ (l2 - l2 / 10 * 10) ∧ (l2 - l2 / 10 * 10) ≤ 1) → (Q (-2) x)) ∧ ((0 ≤ (l2 - l2 / 10 * 10) ∧ (l2 - l2 / 10 * 10) ≤ 1) → (((0 ≤ ((l2 / 10) - (l2 / 10) / 100 * 100) ∧ ((l2 / 10) - (l2 / 10) / 100 * 100) ≤ 23) → (vp_in 0 n_b0_1 ∧ ((¬ (0 ≤ l3 ∧ l3 ≤ gi x b0_1 0 - 1) → (Q (-2) x)) ∧ ((0 ≤ l3 ∧ l3 ≤ gi x b0_1 0 - 1) → ((¬ (0 ≤ l4 ∧ l4 ≤ gi x b0_1 0 - 1) → (Q (-2) x)) ∧ ((0 ≤ l4 ∧ l4 ≤ gi x b0_1 0 - 1) → ((l4 < (l3 + 4) → (Q (-2) x)) ∧ (¬ l4 < (l3 + 4) → (((0 ≤ l5 ∧ l5 ≤ 9) → (vp_in 3 n_b0_1 ∧ ((¬ (gi x b0_1 3) = 24 → (mSV mX8_keeps [.ref b0] K x (fun y_13 => ∃ c_14 : Nat, gr y_13 b0 15 = some c_14 ∧ (∃ n_17 : Nat, kk K c_14 = some (20, n_17) ∧ (vp_in 0 n_17 ∧ (vp_in 1 n_17 ∧ (vp_in 2 n_17 ∧ (vp_in 3 n_17 ∧ (vp_in 4 n_17 ∧ (vp_in 5 n_17 ∧ (vp_in 6 n_17 ∧ (mSV mX8_addsAsk [.ref b0] K (ui (ui (ui (ui (ui (ui (ui y_13 c_14 0 l1) c_14 1 (l2 / 1000)) c_14 2 ((l2 / 10) - (l2 / 10) / 100 * 100)) c_14 3 (l2 - l2 / 10 * 10)) c_14 4 l3) c_14 5 l4) c_14 6 l5) (fun y_25 => gr y_25 b0 1 = some b0_1 ∧ (Q (gi y_25 b0_1 3) y_25)))))))))))))) ∧ ((gi x b0_1 3) = 24 → (Q (-5) x))))) ∧ (¬ (0 ≤ l5 ∧ l5 ≤ 9) → (Q (-2) x))))))))))) ∧ (¬ (0 ≤ ((l2 / 10) - (l2 / 10) / 100 * 100) ∧ ((l2 / 10) - (l2 / 10) / 100 * 100) ≤ 23) → (Q (-2) x)))))))))) : mSI mX8_ask [.ref b0, .int l1, .int l2, .int l3, .int l4, .int l5] K x Q := by
  refine s_I (by decide) (by simp [Value.category]) (Nat.le_of_ble_eq_true rfl) ?_
  show mGM mX8_ask 0 [some (.ref b0), some (.int l1), some (.int l2), some (.int l3), some (.int l4), some (.int l5), none] [] (hp K x) (PI K Q)
  refine r_iload_n (pc := 0) dX8_ask_0 rfl ?_
  refine r_bipush (pc := 1) (v := 10) dX8_ask_1 (by decide) ?_
  refine r_idiv (pc := 3) dX8_ask_3 (by decide) ?_
  refine r_bipush (pc := 4) (v := 100) dX8_ask_4 (by decide) ?_
  refine r_irem (pc := 6) dX8_ask_6 (by decide) ?_
  refine r_istore (pc := 7) dX8_ask_7 (by decide) ?_
  refine r_aload_n (pc := 9) (L := [some (.ref b0), some (.int l1), some (.int l2), some (.int l3), some (.int l4), some (.int l5), some (.int ((l2 / 10) - (l2 / 10) / 100 * 100))]) dX8_ask_9 rfl ?_
  refine r_iload_n (pc := 10) dX8_ask_10 rfl ?_
  obtain ⟨i_1, K0⟩ := K0
  refine s_VI (pc := 11) mX8_isCarrier (ci := 8) (a := b0) (As := [.int l1]) dX8_ask_11 lk_X8_265 in_X8_isCarrier mo_X8_isCarrier ⟨by decide, rfl⟩ ⟨by decide, by decide⟩ (Nat.le_of_ble_eq_true rfl) k_b0 (sp_X8_isCarrier k_b0 g_b0_1 k_b0_1 i_1 ?_)
  refine r_if_eq (pc := 14) (tgt := 55) dX8_ask_14 (by decide) (fun q => ?_) (fun q => ?_)
  · have q := (b2i_z _).mp q
    have K0 := K0.1 q
    refine r_bipush (pc := 55) (v := (-2)) dX8_ask_55 (by decide) ?_
    exact s_iret rfl dX8_ask_57 K0
  · have q := b2i_nz q
    have K0 := K0.2 q
    refine r_iload_n (pc := 17) dX8_ask_17 rfl ?_
    refine r_i2l (pc := 18) dX8_ask_18 ?_
    refine r_lconst (pc := 19) (v := 0) dX8_ask_19 (by decide) ?_
    refine r_ldc2 (pc := 20) (v := 6999) dX8_ask_20 cn_X8_393 ?_
    refine s_SI (pc := 23) mX8_in (As := [.long ((l2 : Int32).toInt64), .long 0, .long 6999]) dX8_ask_23 lk_X8_45 st_X8_in mo_X8_in ⟨by decide, by decide⟩ (Nat.le_of_ble_eq_true rfl) (sq_X8_in (v := l2) (lo := 0) (hi := 6999) rfl (by decide) (by decide) ?_)
    refine r_if_eq (pc := 26) (tgt := 55) dX8_ask_26 (by decide) (fun q => ?_) (fun q => ?_)
    · have q := (b2i_z _).mp q
      have K0 := K0.1 q
      refine r_bipush (pc := 55) (v := (-2)) dX8_ask_55 (by decide) ?_
      exact s_iret rfl dX8_ask_57 K0
    · have q := b2i_nz q
      have K0 := K0.2 q
      refine r_iload_n (pc := 29) dX8_ask_29 rfl ?_
      refine r_bipush (pc := 30) (v := 10) dX8_ask_30 (by decide) ?_
      refine r_irem (pc := 32) dX8_ask_32 (by decide) ?_
      refine r_i2l (pc := 33) dX8_ask_33 ?_
      refine r_lconst (pc := 34) (v := 0) dX8_ask_34 (by decide) ?_
      refine r_lconst (pc := 35) (v := 1) dX8_ask_35 (by decide) ?_
      refine s_SI (pc := 36) mX8_in (As := [.long (((l2 - l2 / 10 * 10) : Int32).toInt64), .long 0, .long 1]) dX8_ask_36 lk_X8_45 st_X8_in mo_X8_in ⟨by decide, by decide⟩ (Nat.le_of_ble_eq_true rfl) (sq_X8_in (v := (l2 - l2 / 10 * 10)) (lo := 0) (hi := 1) rfl (by decide) (by decide) ?_)
      refine r_if_eq (pc := 39) (tgt := 55) dX8_ask_39 (by decide) (fun q => ?_) (fun q => ?_)
      · have q := (b2i_z _).mp q
        have K0 := K0.1 q
        refine r_bipush (pc := 55) (v := (-2)) dX8_ask_55 (by decide) ?_
        exact s_iret rfl dX8_ask_57 K0
      · have q := b2i_nz q
        have K0 := K0.2 q
        refine r_iload (pc := 42) dX8_ask_42 rfl ?_
        refine r_i2l (pc := 44) dX8_ask_44 ?_
        refine r_lconst (pc := 45) (v := 0) dX8_ask_45 (by decide) ?_
        refine r_ldc2 (pc := 46) (v := 23) dX8_ask_46 cn_X8_55 ?_
        refine s_SI (pc := 49) mX8_in (As := [.long ((((l2 / 10) - (l2 / 10) / 100 * 100) : Int32).toInt64), .long 0, .long 23]) dX8_ask_49 lk_X8_45 st_X8_in mo_X8_in ⟨by decide, by decide⟩ (Nat.le_of_ble_eq_true rfl) (sq_X8_in (v := ((l2 / 10) - (l2 / 10) / 100 * 100)) (lo := 0) (hi := 23) rfl (by decide) (by decide) ?_)
        refine r_if_ne (pc := 52) (tgt := 58) dX8_ask_52 (by decide) (fun q => ?_) (fun q => ?_)
        · have q := b2i_nz q
          have K0 := K0.1 q
          refine r_aload_n (pc := 58) dX8_ask_58 rfl ?_
          refine r_iload_n (pc := 59) dX8_ask_59 rfl ?_
          obtain ⟨i_6, K0⟩ := K0
          refine s_VI (pc := 60) mX8_isWeek (ci := 8) (a := b0) (As := [.int l3]) dX8_ask_60 lk_X8_57 in_X8_isWeek mo_X8_isWeek ⟨by decide, rfl⟩ ⟨by decide, by decide⟩ (Nat.le_of_ble_eq_true rfl) k_b0 (sp_X8_isWeek k_b0 g_b0_1 k_b0_1 i_6 ?_)
          refine r_if_eq (pc := 63) (tgt := 96) dX8_ask_63 (by decide) (fun q => ?_) (fun q => ?_)
          · have q := (b2i_z _).mp q
            have K0 := K0.1 q
            refine r_bipush (pc := 96) (v := (-2)) dX8_ask_96 (by decide) ?_
            exact s_iret rfl dX8_ask_98 K0
          · have q := b2i_nz q
            have K0 := K0.2 q
            refine r_aload_n (pc := 66) dX8_ask_66 rfl ?_
            refine r_iload (pc := 67) dX8_ask_67 rfl ?_
            refine s_VI (pc := 69) mX8_isWeek (ci := 8) (a := b0) (As := [.int l4]) dX8_ask_69 lk_X8_57 in_X8_isWeek mo_X8_isWeek ⟨by decide, rfl⟩ ⟨by decide, by decide⟩ (Nat.le_of_ble_eq_true rfl) k_b0 (sp_X8_isWeek k_b0 g_b0_1 k_b0_1 i_6 ?_)
            refine r_if_eq (pc := 72) (tgt := 96) dX8_ask_72 (by decide) (fun q => ?_) (fun q => ?_)
            · have q := (b2i_z _).mp q
              have K0 := K0.1 q
              refine r_bipush (pc := 96) (v := (-2)) dX8_ask_96 (by decide) ?_
              exact s_iret rfl dX8_ask_98 K0
            · have q := b2i_nz q
              have K0 := K0.2 q
              refine r_iload (pc := 75) dX8_ask_75 rfl ?_
              refine r_iload_n (pc := 77) dX8_ask_77 rfl ?_
              refine r_iconst (pc := 78) (v := 4) dX8_ask_78 (by decide) ?_
              refine r_iadd (pc := 79) dX8_ask_79 ?_
              refine r_icmp_lt (pc := 80) (tgt := 96) dX8_ask_80 (by decide) (fun q => ?_) (fun q => ?_)
              · have K0 := K0.1 q
                refine r_bipush (pc := 96) (v := (-2)) dX8_ask_96 (by decide) ?_
                exact s_iret rfl dX8_ask_98 K0
              · have K0 := K0.2 q
                refine r_iload (pc := 83) dX8_ask_83 rfl ?_
                refine r_i2l (pc := 85) dX8_ask_85 ?_
                refine r_lconst (pc := 86) (v := 0) dX8_ask_86 (by decide) ?_
                refine r_ldc2 (pc := 87) (v := 9) dX8_ask_87 cn_X8_388 ?_
                refine s_SI (pc := 90) mX8_in (As := [.long ((l5 : Int32).toInt64), .long 0, .long 9]) dX8_ask_90 lk_X8_45 st_X8_in mo_X8_in ⟨by decide, by decide⟩ (Nat.le_of_ble_eq_true rfl) (sq_X8_in (v := l5) (lo := 0) (hi := 9) rfl (by decide) (by decide) ?_)
                refine r_if_ne (pc := 93) (tgt := 99) dX8_ask_93 (by decide) (fun q => ?_) (fun q => ?_)
                · have q := b2i_nz q
                  have K0 := K0.1 q
                  refine r_aload_n (pc := 99) dX8_ask_99 rfl ?_
                  refine s_getR (pc := 100) dX8_ask_100 fl_X8_9 rfl k_b0 g_b0_1 ?_
                  refine r_iconst (pc := 103) (v := 3) dX8_ask_103 (by decide) ?_
                  obtain ⟨i_11, K0⟩ := K0
                  refine s_iald (pc := 104) dX8_ask_104 k_b0_1 i_11 ?_
                  refine r_bipush (pc := 105) (v := 24) dX8_ask_105 (by decide) ?_
                  refine r_icmp_ne (pc := 107) (tgt := 113) dX8_ask_107 (by decide) (fun q => ?_) (fun q => ?_)
                  · have K0 := K0.1 q
                    refine r_aload_n (pc := 113) dX8_ask_113 rfl ?_
                    refine s_VV (pc := 114) mX8_keeps (ci := 8) (a := b0) (As := []) dX8_ask_114 lk_X8_366 in_X8_keeps mo_X8_keeps ⟨by decide, rfl⟩ ⟨by decide, by decide⟩ (Nat.le_of_ble_eq_true rfl) k_b0 (mSV_mono K0 (fun y_13 K0 => ?_))
                    refine r_aload_n (pc := 117) dX8_ask_117 rfl ?_
                    obtain ⟨c_14, g_15, K0⟩ := K0
                    refine s_getR (pc := 118) dX8_ask_118 fl_X8_27 rfl k_b0 g_15 ?_
                    refine r_iconst (pc := 121) (v := 0) dX8_ask_121 (by decide) ?_
                    refine r_iload_n (pc := 122) dX8_ask_122 rfl ?_
                    obtain ⟨n_17, e_16, K0⟩ := K0
                    obtain ⟨i_18, K0⟩ := K0
                    refine s_iast (pc := 123) dX8_ask_123 e_16 i_18 ?_
                    refine r_aload_n (pc := 124) dX8_ask_124 rfl ?_
                    refine s_getR (pc := 125) dX8_ask_125 fl_X8_27 rfl k_b0 g_15 ?_
                    refine r_iconst (pc := 128) (v := 1) dX8_ask_128 (by decide) ?_
                    refine r_iload_n (pc := 129) dX8_ask_129 rfl ?_
                    refine r_sipush (pc := 130) (v := 1000) dX8_ask_130 (by decide) ?_
                    refine r_idiv (pc := 133) dX8_ask_133 (by decide) ?_
                    obtain ⟨i_19, K0⟩ := K0
                    refine s_iast (pc := 134) dX8_ask_134 e_16 i_19 ?_
                    refine r_aload_n (pc := 135) dX8_ask_135 rfl ?_
                    refine s_getR (pc := 136) dX8_ask_136 fl_X8_27 rfl k_b0 g_15 ?_
                    refine r_iconst (pc := 139) (v := 2) dX8_ask_139 (by decide) ?_
                    refine r_iload (pc := 140) dX8_ask_140 rfl ?_
                    obtain ⟨i_20, K0⟩ := K0
                    refine s_iast (pc := 142) dX8_ask_142 e_16 i_20 ?_
                    refine r_aload_n (pc := 143) dX8_ask_143 rfl ?_
                    refine s_getR (pc := 144) dX8_ask_144 fl_X8_27 rfl k_b0 g_15 ?_
                    refine r_iconst (pc := 147) (v := 3) dX8_ask_147 (by decide) ?_
                    refine r_iload_n (pc := 148) dX8_ask_148 rfl ?_
                    refine r_bipush (pc := 149) (v := 10) dX8_ask_149 (by decide) ?_
                    refine r_irem (pc := 151) dX8_ask_151 (by decide) ?_
                    obtain ⟨i_21, K0⟩ := K0
                    refine s_iast (pc := 152) dX8_ask_152 e_16 i_21 ?_
                    refine r_aload_n (pc := 153) dX8_ask_153 rfl ?_
                    refine s_getR (pc := 154) dX8_ask_154 fl_X8_27 rfl k_b0 g_15 ?_
                    refine r_iconst (pc := 157) (v := 4) dX8_ask_157 (by decide) ?_
                    refine r_iload_n (pc := 158) dX8_ask_158 rfl ?_
                    obtain ⟨i_22, K0⟩ := K0
                    refine s_iast (pc := 159) dX8_ask_159 e_16 i_22 ?_
                    refine r_aload_n (pc := 160) dX8_ask_160 rfl ?_
                    refine s_getR (pc := 161) dX8_ask_161 fl_X8_27 rfl k_b0 g_15 ?_
                    refine r_iconst (pc := 164) (v := 5) dX8_ask_164 (by decide) ?_
                    refine r_iload (pc := 165) dX8_ask_165 rfl ?_
                    obtain ⟨i_23, K0⟩ := K0
                    refine s_iast (pc := 167) dX8_ask_167 e_16 i_23 ?_
                    refine r_aload_n (pc := 168) dX8_ask_168 rfl ?_
                    refine s_getR (pc := 169) dX8_ask_169 fl_X8_27 rfl k_b0 g_15 ?_
                    refine r_bipush (pc := 172) (v := 6) dX8_ask_172 (by decide) ?_
                    refine r_iload (pc := 174) dX8_ask_174 rfl ?_
                    obtain ⟨i_24, K0⟩ := K0
                    refine s_iast (pc := 176) dX8_ask_176 e_16 i_24 ?_
                    refine r_aload_n (pc := 177) dX8_ask_177 rfl ?_
                    refine s_VV (pc := 178) mX8_addsAsk (ci := 8) (a := b0) (As := []) dX8_ask_178 lk_X8_241 in_X8_addsAsk mo_X8_addsAsk ⟨by decide, rfl⟩ ⟨by decide, by decide⟩ (Nat.le_of_ble_eq_true rfl) k_b0 (mSV_mono K0 (fun y_25 K0 => ?_))
                    refine r_aload_n (pc := 181) dX8_ask_181 rfl ?_
                    obtain ⟨g_26, K0⟩ := K0
                    refine s_getR (pc := 182) dX8_ask_182 fl_X8_9 rfl k_b0 g_26 ?_
                    refine r_iconst (pc := 185) (v := 3) dX8_ask_185 (by decide) ?_
                    refine s_iald (pc := 186) dX8_ask_186 k_b0_1 i_11 ?_
                    exact s_iret rfl dX8_ask_187 K0
                  · have K0 := K0.2 q
                    refine r_bipush (pc := 110) (v := (-5)) dX8_ask_110 (by decide) ?_
                    exact s_iret rfl dX8_ask_112 K0
                · have q := (b2i_z _).mp q
                  have K0 := K0.2 q
                  refine r_bipush (pc := 96) (v := (-2)) dX8_ask_96 (by decide) ?_
                  exact s_iret rfl dX8_ask_98 K0
        · have q := (b2i_z _).mp q
          have K0 := K0.2 q
          refine r_bipush (pc := 55) (v := (-2)) dX8_ask_55 (by decide) ?_
          exact s_iret rfl dX8_ask_57 K0
section
theorem sq_X8_ask {y : Cn} {Q : Int32 → Cn → Prop} {T : TT} {W C S A N n : Nat} {H : Nat → TT} {a b f l e : Int32} (r : RS y T n H) (F : WF T W C S A N) (k1 : ¬ okA C W a b f l e → Q (-2) y) (k2 : okA C W a b f l e → A = 24 → Q (-5) y) (k3 : okA C W a b f l e → A < 24 → ∀ z, RFr y z → RS z (askT T A (askF a b f l e)) (pn n) (push H n T) → Q (nI (A + 1)) z) : mSI mX8_ask [.ref 717, .int a, .int b, .int f, .int l, .int e] KW y Q := by
  have hW : W ≤ 30 := F.2.2.1
  have hC : C ≤ 8 := F.2.2.2.2.1
  have hA : A ≤ 24 := F.2.2.2.2.2.2.2.2.1
  have M := r.1
  refine v_X8_ask_0 km M.1 km1 ⟨v0 (k := 1) (by decide) rfl rfl, ?_⟩
  rw [r.2.1, F.2.2.2.1, F.1, inN' (by omega), inN' (by omega), inN' (by omega), F.2.2.2.2.2.2.2.1, show (24 : Int32) = nI 24 by decide, nI_eq (by omega) (by decide)]
  by_cases hok : okA C W a b f l e
  · have k2 := k2 hok
    have k3 := k3 hok
    obtain ⟨c, k, f', l', e', h1, h2, h3, h4, h5, h6, h7, h8, h9, h10, h11, h12, h13⟩ := id hok
    subst h1 h3 h7 h9 h12
    rw [ky_3 (by omega), ky_4 (by omega)]
    refine ⟨fun z => absurd ⟨nI_pos' (by omega), nI_lt h2 (by omega)⟩ z, fun _ => ⟨fun z => absurd ⟨nI_pos' (by omega), nI_le (b := 6999) h4 (by decide)⟩ z, fun _ => ⟨fun z => absurd ⟨nI_pos' (by omega), nI_le (b := 1) h5 (by decide)⟩ z, fun _ => ⟨fun _ => ⟨v0 (k := 0) (by decide) rfl rfl, fun z => absurd ⟨nI_pos' (by omega), nI_lt h8 (by omega)⟩ z, fun _ => ⟨fun z => absurd ⟨nI_pos' (by omega), nI_lt h10 (by omega)⟩ z, fun _ => ⟨fun z => absurd z ?_, fun _ => ⟨fun _ => ⟨v0 (k := 3) (by decide) rfl rfl, fun z => ?_, fun z => k2 hok z⟩, fun z => absurd ⟨nI_pos' (by omega), nI_le (b := 9) h13 (by decide)⟩ z⟩⟩⟩⟩, fun z => absurd ⟨nI_pos' (by omega), nI_le (b := 23) h6 (by decide)⟩ z⟩⟩⟩⟩
    · rw [show nI f' + 4 = nI (f' + 4) from nI_add f' 4]
      exact nI_nlt h11 (by omega)
    · refine r.keeps (fun z f1 r1 => ⟨721, r1.1.2.2.2.2.1, 7, by decide, v0 (k := 0) (by decide) rfl rfl, v0 (k := 1) (by decide) rfl rfl, v0 (k := 2) (by decide) rfl rfl, v0 (k := 3) (by decide) rfl rfl, v0 (k := 4) (by decide) rfl rfl, v0 (k := 5) (by decide) rfl rfl, v0 (k := 6) (by decide) rfl rfl, ?_⟩)
      refine sp_X8_addsAsk (t := 718) (A := A) (f := askF (nI c) (nI k) (nI f') (nI l') (nI e')) (r1.1.keep rfl) km1 (by decide) ?_ (by omega) (fun j hj => ?_) (fun v v1 v2 v3 => ⟨(r1.1.keep v1).1, ?_⟩)
      · simp only [gi_ui, show ¬ (718 : Nat) = 721 by decide, false_and, if_false]
        rw [r1.2.1]; exact F.2.2.2.2.2.2.2.1
      · have e4 := ky_4 (k := k) (by omega)
        have e3 := ky_3 (k := k) (by omega)
        rcases lt7 hj with rfl | rfl | rfl | rfl | rfl | rfl | rfl <;> simp [gi_ui, askF, e3, e4]
      · have ez : gi (ui (ui (ui (ui (ui (ui (ui z 721 0 (nI c)) 721 1 (nI k / 1000)) 721 2 (nI (k / 10 % 100))) 721 3 (nI (k % 10))) 721 4 (nI f')) 721 5 (nI l')) 721 6 (nI e')) 718 = T := by
          rw [← r1.2.1]
          funext i
          simp only [gi_ui, show ¬ (718 : Nat) = 721 by decide, false_and, if_false]
        rw [ez] at v3
        obtain ⟨r2, f2⟩ := r1.mv (T' := askT T A (askF (nI c) (nI k) (nI f') (nI l') (nI e'))) v1 (fun b j b1 b2 b3 b4 b5 b6 => by rw [v2 b j b1]; simp only [gi_ui, b3, false_and, if_false]) v3
        rw [v3, show askT T A (askF (nI c) (nI k) (nI f') (nI l') (nI e')) 3 = nI (A + 1) from if_pos rfl]
        exact k3 (by omega) v (f1.tr f2) r2
  · refine ⟨fun _ => k1 hok, fun z1 => ⟨fun _ => k1 hok, fun z2 => ⟨fun _ => k1 hok, fun z3 => ⟨fun z4 => ⟨v0 (k := 0) (by decide) rfl rfl, fun _ => k1 hok, fun z5 => ⟨fun _ => k1 hok, fun z6 => ⟨fun _ => k1 hok, fun z7 => ⟨fun z8 => absurd ?_ hok, fun _ => k1 hok⟩⟩⟩⟩, fun _ => k1 hok⟩⟩⟩⟩
    obtain ⟨c, hc, rfl⟩ := inN (by omega) z1
    obtain ⟨k, hk, rfl⟩ := nI_of2 (M := 6999) (n := 6999) (by decide) (Int32.not_lt.mpr z2.1) z2.2
    obtain ⟨f', hf, rfl⟩ := inN (by omega) z5
    obtain ⟨l', hl, rfl⟩ := inN (by omega) z6
    obtain ⟨e', he, rfl⟩ := nI_of2 (M := 9) (n := 9) (by decide) (Int32.not_lt.mpr z8.1) z8.2
    rw [ky_3 (by omega)] at z3
    rw [ky_4 (by omega)] at z4
    rw [show nI f' + 4 = nI (f' + 4) from nI_add f' 4, nI_ltI (by omega) (by omega)] at z7
    exact ⟨c, k, f', l', e', rfl, hc, rfl, hk, (nI_leI (b := 1) (by omega) (by decide)).mp z3.2, (nI_leI (b := 23) (by omega) (by decide)).mp z4.2, rfl, hf, rfl, hl, by omega, rfl, he⟩
end
theorem eq_ask (a b f l e : Int32) : Both mX7_ask mX8_ask [.int a, .int b, .int f, .int l, .int e] := by
  intro x R
  obtain ⟨W, C, S, A, N, n, H, ac, rs, nm⟩ := R.ac
  have E := ac.2.2.2.2
  have hn := E.nums
  have hW : W ≤ 30 := hn.2.2.2.2.1
  have hC : C ≤ 8 := hn.2.2.2.2.2.1
  have hA : A ≤ 24 := hn.2.2.2.2.2.2.2.1
  refine v_X7_ask_0 k0 R.1.2.2.1 (by decide) R.1.2.1 (ks0 E.1) ?_
  rw [nm.1, hn.1, hn.2.2.2.1, show (24 : Int32) = nI 24 by decide, nI_ltI (a := A) (by omega) (by decide)]
  by_cases hok : okA C W a b f l e
  · obtain ⟨c, k, f', l', e', h1, h2, h3, h4, h5, h6, h7, h8, h9, h10, h11, h12, h13⟩ := id hok
    subst h1 h3 h7 h9 h12
    have hW0 : 0 < nI W := nI_lt (a := 0) (E.cw (by omega)) (by omega)
    have hway : nI (k % 10) = 0 ∨ nI (k % 10) = 1 := by
      have : k % 10 = 0 ∨ k % 10 = 1 := by omega
      rcases this with g | g
      · rw [g]; exact Or.inl rfl
      · rw [g]; exact Or.inr rfl
    rw [ky_3 (by omega), ky_2 (by omega), ky_1 (by omega)]
    refine ⟨fun z => absurd ⟨nI_pos' (by omega), nI_lt h2 (by omega)⟩ z, fun _ => ⟨fun z => absurd z (nI_pos (by omega)), fun _ => ⟨fun z => absurd ⟨hW0, nI_pos' (by omega), nI_lt (b := 7) (by omega) (by decide)⟩ z, fun _ => ⟨fun z => absurd ⟨hW0, nI_pos' (by omega), nI_lt (b := 24) (by omega) (by decide)⟩ z, fun _ => ⟨fun _ => ⟨fun z => absurd ⟨nI_pos' (by omega), nI_lt h8 (by omega)⟩ z, fun _ => ⟨fun z => absurd ⟨nI_pos' (by omega), nI_lt h10 (by omega)⟩ z, fun _ => ⟨fun z => absurd z ?_, fun _ => ⟨fun _ => ⟨fun z => ?_, fun z => ?_⟩, fun z => absurd ⟨nI_pos' (by omega), nI_le (b := 9) h13 (by decide)⟩ z⟩⟩⟩⟩, fun z => absurd hway z⟩⟩⟩⟩⟩
    · rw [pk_sub (by omega), nI_1]
      exact nI_nlt (b := 5) (by omega) (by omega)
    · refine ac.rem (fun _ _ => rfl) (fun y ay y1 y2 => ⟨ay.2.1.2.1, ?_⟩)
      have Ey := ay.2.2.2.2
      obtain ⟨j, hj, ej⟩ := Ey.2.1.2.2.2.2.2.2.2.1 A (by omega)
      have eA : gi y 2 4 = nI A := Ey.nums.2.2.2.1
      have mi : (if (23 : Int32) < nI A then 23 else nI A) = nI A := if_neg (fun g => absurd ((nI_ltI (a := 23) (b := A) (by decide) (by omega)).mp g) (by omega))
      refine v_X4_addAsk_0 (ks0 E.1) Ey.2.1.2.2.2.1 (ks4 E.1) ?_
      rw [eA, mi, nI_clamp (by omega), nI_1]
      refine ⟨vp_in_nI (by omega) (by decide), 2 + 30 + j, ej, ks30 E.1 hj, v_X0_placeAt_0 (ks30 E.1 hj) (v_X0_span_0 (ks30 E.1 hj) ⟨ay.2.1.2.1, ?_⟩)⟩
      have a2 : AC x (ui (ui (ui (ui (ui (ui (ui (ui y 2 4 (nI (A + 1))) (2 + 30 + j) 0 (nI c)) (2 + 30 + j) 1 (nI (k / 1000))) (2 + 30 + j) 2 (nI (k / 10 % 100))) (2 + 30 + j) 3 (nI (k % 10))) (2 + 30 + j) 4 (nI f')) (2 + 30 + j) 5 (nI l')) (2 + 30 + j) 6 (nI e')) W C S (A + 1) N (pn n) (askT (gi x 718) A (askF (nI c) (nI k) (nI f') (nI l') (nI e'))) (push H n (gi x 718)) := by
        have off : ∀ b i, b ≠ 2 + 30 + j → ¬ (b = 2 ∧ i = 4) → gi (ui (ui (ui (ui (ui (ui (ui (ui y 2 4 (nI (A + 1))) (2 + 30 + j) 0 (nI c)) (2 + 30 + j) 1 (nI (k / 1000))) (2 + 30 + j) 2 (nI (k / 10 % 100))) (2 + 30 + j) 3 (nI (k % 10))) (2 + 30 + j) 4 (nI f')) (2 + 30 + j) 5 (nI l')) (2 + 30 + j) 6 (nI e')) b i = gi y b i := fun b i b1 b2 => by
          simp only [gi_ui, b1, false_and, if_false]
          rw [if_neg b2]
        refine ay.up (fun b i hb => off b i (by omega) (by omega)) rfl (Ey.addA (p := 2 + 30 + j) (by omega) ej rfl (fun b i b1 b2 b3 b4 b5 => off b i b3 b4) ?_ (fun i hi => ?_) (fun i _ h3 h4 => askT_off h3 h4) (if_pos rfl) hok.was)
        · simp [gi_ui, show ¬ (2 : Nat) = 2 + 30 + j by omega]
        · rw [ao_askT hi]
          have e4 := ky_4 (k := k) (by omega)
          have e3 := ky_3 (k := k) (by omega)
          have e1 := ky_1 (k := k) (by omega)
          rcases lt7 hi with rfl | rfl | rfl | rfl | rfl | rfl | rfl <;> simp [gi_ui, askF, e3, e4, e1]
      have r4 : gi (ui (ui (ui (ui (ui (ui (ui (ui y 2 4 (nI (A + 1))) (2 + 30 + j) 0 (nI c)) (2 + 30 + j) 1 (nI (k / 1000))) (2 + 30 + j) 2 (nI (k / 10 % 100))) (2 + 30 + j) 3 (nI (k % 10))) (2 + 30 + j) 4 (nI f')) (2 + 30 + j) 5 (nI l')) (2 + 30 + j) 6 (nI e')) 2 4 = nI (A + 1) := a2.2.2.2.2.nums.2.2.2.1
      rw [r4]
      exact sq_X8_ask (a2.rs rs) E.2.2.2 (fun u => absurd hok u) (fun _ u => by omega) (fun _ _ v f2 r2 => ⟨rfl, a2.fin R nm (fun c hc => askT_off (by omega) (by omega)) f2 r2⟩)
    · exact sq_X8_ask rs E.2.2.2 (fun u => absurd hok u) (fun _ _ => ⟨rfl, R⟩) (fun _ u => absurd u z)
  · have no : mSI mX8_ask [.ref 717, .int a, .int b, .int f, .int l, .int e] KW x (fun r' z => -2 = r' ∧ Rel z) := sq_X8_ask rs E.2.2.2 (fun _ => ⟨rfl, R⟩) (fun u => absurd u hok) (fun u => absurd u hok)
    refine ⟨fun _ => no, fun z1 => ⟨fun _ => no, fun z2 => ⟨fun _ => no, fun z3 => ⟨fun _ => no, fun z4 => ⟨fun z5 => ⟨fun _ => no, fun z6 => ⟨fun _ => no, fun z7 => ⟨fun _ => no, fun z8 => ⟨fun z9 => absurd ?_ hok, fun _ => no⟩⟩⟩⟩, fun _ => no⟩⟩⟩⟩⟩
    obtain ⟨c, hc, rfl⟩ := inN (by omega) z1
    obtain ⟨k, hk, rfl⟩ := nI_of z2
    obtain ⟨f', hf, rfl⟩ := inN (by omega) z6
    obtain ⟨l', hl, rfl⟩ := inN (by omega) z7
    obtain ⟨e', he, rfl⟩ := nI_of2 (M := 9) (n := 9) (by decide) (Int32.not_lt.mpr z9.1) z9.2
    rw [ky_1 hk] at z3
    rw [ky_2 hk] at z4
    rw [ky_3 hk] at z5
    have g3 := (nI_ltI (b := 7) (by omega) (by decide)).mp z3.2.2
    have g4 := (nI_ltI (b := 24) (by omega) (by decide)).mp z4.2.2
    have g5 : k % 10 ≤ 1 := by
      rcases z5 with g | g
      · have := (nI_eq (b := 0) (by omega) (by decide)).mp g; omega
      · have := (nI_eq (b := 1) (by omega) (by decide)).mp g; omega
    have g8 : f' + 4 ≤ l' := by
      by_cases c9 : f' + 4 ≤ l'
      · exact c9
      · refine absurd ?_ z8
        by_cases cf : f' ≤ l'
        · rw [pk_sub cf, nI_1]
          exact nI_lt (b := 5) (by omega) (by decide)
        · have hneg : (nI l' - nI f' + 1).toInt = (l' : Int) - f' + 1 := by
            have h1 := pk_sub_toInt (a := l') (b := f') (by omega) (by omega)
            have e : nI l' - nI f' + 1 = nI (l' + 1) - nI f' := by
              rw [← nI_1]
              simp only [Int32.sub_eq_add_neg]
              rw [Int32.add_assoc, Int32.add_comm (-nI f') 1, ← Int32.add_assoc]
            rw [e, pk_sub_toInt (by omega) (by omega)]
            omega
          rw [Int32.lt_iff_toInt_lt, hneg, show (5 : Int32).toInt = 5 by decide]
          omega
    exact ⟨c, k, f', l', e', rfl, hc, rfl, by omega, g5, by omega, rfl, hf, rfl, hl, g8, rfl, he⟩
end
/-! 51.drop.lean.txt -/
section
theorem CRf.off {x y : Cn} (h : CRf x) (e : ∀ a k, ¬ (2 ≤ a ∧ a < 56) → gr y a k = gr x a k) : CRf y := by
  have sr : ∀ q, Isea q → q ≠ 2 → SRf x q → SRf y q := by
    intro q hq h2 g
    have c : ¬ (2 ≤ q ∧ q < 56) ∧ ¬ (2 ≤ q + 3 ∧ q + 3 < 56) ∧ ¬ (2 ≤ q + 4 ∧ q + 4 < 56) := by
      rcases hq with rfl | rfl | rfl | ⟨i, hi, rfl⟩ <;> omega
    unfold SRf at g ⊢
    simp only [e q _ c.1, e (q + 3) _ c.2.1, e (q + 4) _ c.2.2]
    exact g
  obtain ⟨a1, a2, a3, a4, a5, a6, a7, a8, a9, a10, a11, a12, a13, a14, a15, a16, a17, a18, a19, a20, a21, a22⟩ := h
  refine ⟨?_, ?_, ?_, ?_, ?_, ?_, ?_, ?_, ?_, ?_, ?_, ?_, ?_, ?_, ?_, ?_, ?_, sr 60 (by unfold Isea; omega) (by decide) a18, sr 118 (by unfold Isea; omega) (by decide) a19, fun j hj => sr _ (Or.inr (Or.inr (Or.inr ⟨j, hj, rfl⟩))) (by omega) (a20 j hj), ?_, ?_⟩
  all_goals simp only [e 0 _ (by omega), e 56 _ (by omega), e 58 _ (by omega), e 59 _ (by omega), e 114 _ (by omega), e 117 _ (by omega), e 175 _ (by omega)]
  all_goals assumption
theorem MRf.off {x y : Cn} {t : Nat} (h : MRf x t) (e : ∀ a k, ¬ (2 ≤ a ∧ a < 56) → gr y a k = gr x a k) : MRf y t := by
  unfold MRf at h ⊢
  simp only [e 717 _ (by omega)]
  exact h
theorem AC.up2 {x y z : Cn} {W C S A N W' S' A' N' n : Nat} {T T' : TT} {H : Nat → TT} (a : AC x y W C S A N n T H) (h1 : ∀ b k, ¬ (2 ≤ b ∧ b < 56) → gi z b k = gi y b k) (h2 : ∀ b k, ¬ (2 ≤ b ∧ b < 56) → gr z b k = gr y b k) (E : SEA z 2 T' W' C S' A' N') : AC x z W' C S' A' N' n T' H :=
  ⟨fun b k a1 a2 a3 a4 => (h1 b k a1).trans (a.1 b k a1 a2 a3 a4), a.2.1.off h2, a.2.2.1.off h2, a.2.2.2.1.mv a.2.1 (h1 0 5 (by omega)) (fun b k g1 g2 => h1 b k (by omega)) (fun b k hb => h2 b k (by omega)) (fun _ _ => rfl), E⟩
theorem Was.cg' {T T' : TT} {C W a a' : Nat} (w : Was T C W a) (h : ∀ k, k < 7 → ao T' a' k = ao T a k) : Was T' C W a' := by
  unfold Was at w ⊢
  simp only [h 0 (by decide), h 1 (by decide), h 2 (by decide), h 3 (by decide), h 4 (by decide), h 5 (by decide), h 6 (by decide)]
  exact w
/-- an ask goes out of the row -/
def drT (T : TT) (a A : Nat) : TT := fun i => if i = 3 then nI (A - 1) else if 350 + 7 * a ≤ i ∧ i < 511 then T (i + 7) else T i
def rot (a A k : Nat) : Nat := if k < a then k else if k + 1 < A then k + 1 else if k + 1 = A then a else k
theorem drT_off {T : TT} {a A i : Nat} (h3 : i ≠ 3) (h : i < 350) : drT T a A i = T i := by
  unfold drT
  rw [if_neg h3, if_neg (by omega)]
theorem ao_drT {T : TT} {a A b k : Nat} (hb : b + 1 < A) (hA : A ≤ 24) (hk : k < 7) : ao (drT T a A) b k = ao T (rot a A b) k := by
  unfold ao drT rot
  rw [if_neg (by omega)]
  by_cases c : b < a
  · rw [if_pos c, if_neg (by omega)]
  · rw [if_neg c, if_pos hb, if_pos (by omega)]
    congr 1
    omega
theorem rot_lt {a A k : Nat} (ha : a < A) (hA : A ≤ 24) (hk : k < 24) : rot a A k < 24 := by
  unfold rot
  split
  · omega
  · split
    · omega
    · split <;> omega
theorem rot_inj {a A k j : Nat} (ha : a < A) (h : rot a A k = rot a A j) : k = j := by
  unfold rot at h
  split at h <;> split at h <;> (try split at h) <;> (try split at h) <;> (try split at h) <;> (try split at h) <;> omega
theorem SEA.drop {x z : Cn} {q : Nat} {T : TT} {W C S A N a : Nat} (E : SEA x q T W C S A N) (ha : a < A) (h1 : ∀ b k, ¬ (b = q ∧ k = 4) → gi z b k = gi x b k) (h2 : gi z q 4 = nI (A - 1)) (h3 : ∀ b k, b ≠ q + 4 → gr z b k = gr x b k) (h4 : ∀ k, k < 24 → gr z (q + 4) k = gr x (q + 4) (rot a A k)) : SEA z q (drT T a A) W C S (A - 1) N := by
  obtain ⟨e1, e2, ⟨v0, v1, v2, v3, v4, v5, v6, v7⟩, w1, w2, w3, w4, w5, w6, w7, w8, w9, w10, w11, w12, w13, w14⟩ := E
  obtain ⟨r1, r2, r3, r4, r5, r6, r7, r8, r9⟩ := id e2
  have hT : ∀ i, i ≠ 3 → i < 350 → drT T a A i = T i := fun i => drT_off
  refine ⟨e1, ⟨?_, ?_, ?_, ?_, ?_, ?_, ?_, ?_, ?_⟩, ⟨?_, ?_, ?_, ?_, ?_, ?_, ?_, ?_⟩, ?_⟩
  · rw [h3 q 5 (by omega)]; exact r1
  · rw [h3 q 6 (by omega)]; exact r2
  · rw [h3 q 7 (by omega)]; exact r3
  · rw [h3 q 8 (by omega)]; exact r4
  · rw [h3 q 9 (by omega)]; exact r5
  · intro s hs; rw [h3 (q + 3) s (by omega)]; exact r6 s hs
  · intro s t hs ht; rw [h3 (q + 3) s (by omega), h3 (q + 3) t (by omega)]; exact r7 s t hs ht
  · intro s hs; rw [h4 s hs]; exact r8 _ (rot_lt ha w9 hs)
  · intro s t hs ht; rw [h4 s hs, h4 t ht]; exact fun g => rot_inj ha (r9 _ _ (rot_lt ha w9 hs) (rot_lt ha w9 ht) g)
  · rw [h1 q 0 (by omega), hT 0 (by decide) (by decide)]; exact v0
  · rw [h1 q 1 (by omega), hT 4 (by decide) (by decide)]; exact v1
  · rw [h1 q 2 (by omega), hT 5 (by decide) (by decide)]; exact v2
  · rw [h1 q 3 (by omega), hT 2 (by decide) (by decide)]; exact v3
  · rw [h2]; exact (if_pos rfl).symm
  · intro h hh
    rw [h1 (q + 1) h (by omega), h1 (q + 2) h (by omega), hT _ (by omega) (by omega), hT _ (by omega) (by omega)]
    exact v5 h hh
  · intro s p hs hp
    rw [h3 (q + 3) s (by omega)] at hp
    obtain ⟨j, hj, ej⟩ := r6 s (by omega)
    have ep : p = q + 6 + j := Option.some.inj (hp.symm.trans ej)
    exact (v6 s p hs hp).cg (fun k _ => h1 p k (by omega)) (fun k hk => hT _ (by omega) (by omega))
  · intro s p hs hp
    rw [h4 s (by omega)] at hp
    have hr : rot a A s < A := by
      unfold rot
      split
      · omega
      · rw [if_pos (by omega)]; omega
    obtain ⟨j, hj, ej⟩ := r8 _ (rot_lt ha w9 (show s < 24 by omega))
    have ep : p = q + 30 + j := Option.some.inj (hp.symm.trans ej)
    exact (v7 _ p hr hp).cg (fun k _ => h1 p k (by omega)) (fun k hk => ao_drT (by omega) w9 hk)
  · refine ⟨by rw [hT 0 (by decide) (by decide)]; exact w1, w2, w3, by rw [hT 1 (by decide) (by decide)]; exact w4, w5, by rw [hT 2 (by decide) (by decide)]; exact w6, w7, if_pos rfl, by omega, by rw [hT 4 (by decide) (by decide)]; exact w10, w11, fun h hh => by rw [hT _ (by omega) (by omega), hT _ (by omega) (by omega)]; exact w12 h hh, fun s hs => (w13 s hs).cg (fun k hk => hT _ (by omega) (by omega)), fun b hb => ?_⟩
    have hr : rot a A b < A := by
      unfold rot
      split
      · omega
      · rw [if_pos (by omega)]; omega
    exact (w14 _ hr).cg' (fun k hk => ao_drT (by omega) w9 hk)
set_option maxHeartbeats 2000000 in
theorem v_X4_removeAsk_0 {K : Sh} {x : Cn} {Q : Cn → Prop} {b0 : Nat} {l1 : Int32} {b0_8 : Nat} {n_b0_8 : Nat} (k_b0 : kk K b0 = some (4, 0)) (g_b0_8 : gr x b0 8 = some b0_8) (k_b0_8 : kk K b0_8 = some (24, n_b0_8)) (K0 : vp_in l1 n_b0_8 ∧ (∃ c_2 : Nat, gr x b0_8 ((l1 : Int32).toNatClampNeg) = some c_2 ∧ (GV mX4_removeAsk 11 [some (.ref b0), some (.int l1), some (.ref c_2), some (.int (l1 + 1))] [] K x Q))) : mSV mX4_removeAsk [.ref b0, .int l1] K x Q := by
  refine s_V (by decide) (by simp [Value.category]) (Nat.le_of_ble_eq_true rfl) ?_
  show mGM mX4_removeAsk 0 [some (.ref b0), some (.int l1), none, none] [] (hp K x) (PV K Q)
  refine r_aload_n (pc := 0) dX4_removeAsk_0 rfl ?_
  refine s_getR (pc := 1) dX4_removeAsk_1 fl_X4_42 rfl k_b0 g_b0_8 ?_
  refine r_iload_n (pc := 4) dX4_removeAsk_4 rfl ?_
  obtain ⟨i_1, K0⟩ := K0
  obtain ⟨c_2, g_3, K0⟩ := K0
  refine s_aald (pc := 5) dX4_removeAsk_5 (by decide) rfl k_b0_8 i_1 g_3 ?_
  refine r_astore_n (pc := 6) dX4_removeAsk_6 (by decide) ?_
  refine r_iload_n (pc := 7) (L := [some (.ref b0), some (.int l1), some (.ref c_2), none]) dX4_removeAsk_7 rfl ?_
  refine r_iconst (pc := 8) (v := 1) dX4_removeAsk_8 (by decide) ?_
  refine r_iadd (pc := 9) dX4_removeAsk_9 ?_
  refine r_istore_n (pc := 10) dX4_removeAsk_10 (by decide) ?_
  exact r_le (L' := [some (.ref b0), some (.int l1), some (.ref c_2), some (.int (l1 + 1))]) ⟨rfl, ⟨rfl, ⟨rfl, ⟨rfl, trivial⟩⟩⟩⟩ K0
set_option maxHeartbeats 2000000 in
theorem v_X4_removeAsk_11 {K : Sh} {x : Cn} {Q : Cn → Prop} {b0 : Nat} {l1 : Int32} {b2 : Nat} {l3 : Int32} {b0_8 : Nat} {n_b0_8 : Nat} (k_b0 : kk K b0 = some (4, 0)) (g_b0_8 : gr x b0 8 = some b0_8) (k_b0_8 : kk K b0_8 = some (24, n_b0_8)) (k_b2 : kk K b2 = some (0, 0)) (K0 : ((gi x b0 4) ≤ l3 → (vp_in (gi (ui x b0 4 ((gi x b0 4) - 1)) b0 4) n_b0_8 ∧ (Q (ur (ui x b0 4 ((gi x b0 4) - 1)) b0_8 ((gi (ui x b0 4 ((gi x b0 4) - 1)) b0 4) : Int32).toNatClampNeg (some b2))))) ∧ (¬ (gi x b0 4) ≤ l3 → (vp_in l3 n_b0_8 ∧ (∃ c_4 : Nat, gr x b0_8 ((l3 : Int32).toNatClampNeg) = some c_4 ∧ (kk K c_4 = some (0, 0) ∧ (vp_in (l3 - 1) n_b0_8 ∧ (GV mX4_removeAsk 11 [some (.ref b0), some (.int l1), some (.ref b2), some (.int (l3 + 1))] [] K (ur x b0_8 ((l3 - 1) : Int32).toNatClampNeg (some c_4)) Q))))))) : GV mX4_removeAsk 11 [some (.ref b0), some (.int l1), some (.ref b2), some (.int l3)] [] K x Q := by
  show mGM mX4_removeAsk 11 [some (.ref b0), some (.int l1), some (.ref b2), some (.int l3)] [] (hp K x) (PV K Q)
  refine r_iload_n (pc := 11) dX4_removeAsk_11 rfl ?_
  refine r_aload_n (pc := 12) dX4_removeAsk_12 rfl ?_
  refine s_getI (pc := 13) dX4_removeAsk_13 fl_X4_24 rfl k_b0 ?_
  refine r_icmp_ge (pc := 16) (tgt := 39) dX4_removeAsk_16 (by decide) (fun q => ?_) (fun q => ?_)
  · have K0 := K0.1 q
    refine r_aload_n (pc := 39) dX4_removeAsk_39 rfl ?_
    refine r_dup (pc := 40) dX4_removeAsk_40 rfl ?_
    refine s_getI (pc := 41) dX4_removeAsk_41 fl_X4_24 rfl k_b0 ?_
    refine r_iconst (pc := 44) (v := 1) dX4_removeAsk_44 (by decide) ?_
    refine r_isub (pc := 45) dX4_removeAsk_45 ?_
    refine s_putI (pc := 46) dX4_removeAsk_46 fl_X4_24 rfl rfl k_b0 ?_
    refine r_aload_n (pc := 49) dX4_removeAsk_49 rfl ?_
    refine s_getR (pc := 50) dX4_removeAsk_50 fl_X4_42 rfl k_b0 g_b0_8 ?_
    refine r_aload_n (pc := 53) dX4_removeAsk_53 rfl ?_
    refine s_getI (pc := 54) dX4_removeAsk_54 fl_X4_24 rfl k_b0 ?_
    refine r_aload_n (pc := 57) dX4_removeAsk_57 rfl ?_
    obtain ⟨i_2, K0⟩ := K0
    refine s_aast (pc := 58) dX4_removeAsk_58 (by decide) (by decide) rfl k_b0_8 k_b2 i_2 ?_
    exact s_ret rfl dX4_removeAsk_59 K0
  · have K0 := K0.2 q
    refine r_aload_n (pc := 19) dX4_removeAsk_19 rfl ?_
    refine s_getR (pc := 20) dX4_removeAsk_20 fl_X4_42 rfl k_b0 g_b0_8 ?_
    refine r_iload_n (pc := 23) dX4_removeAsk_23 rfl ?_
    refine r_iconst (pc := 24) (v := 1) dX4_removeAsk_24 (by decide) ?_
    refine r_isub (pc := 25) dX4_removeAsk_25 ?_
    refine r_aload_n (pc := 26) dX4_removeAsk_26 rfl ?_
    refine s_getR (pc := 27) dX4_removeAsk_27 fl_X4_42 rfl k_b0 g_b0_8 ?_
    refine r_iload_n (pc := 30) dX4_removeAsk_30 rfl ?_
    obtain ⟨i_3, K0⟩ := K0
    obtain ⟨c_4, g_5, K0⟩ := K0
    refine s_aald (pc := 31) dX4_removeAsk_31 (by decide) rfl k_b0_8 i_3 g_5 ?_
    obtain ⟨e_6, K0⟩ := K0
    obtain ⟨i_7, K0⟩ := K0
    refine s_aast (pc := 32) dX4_removeAsk_32 (by decide) (by decide) rfl k_b0_8 e_6 i_7 ?_
    refine r_iinc (pc := 33) (v := l3 + 1) dX4_removeAsk_33 rfl rfl (by decide) ?_
    refine r_goto (pc := 36) (L := [some (.ref b0), some (.int l1), some (.ref b2), some (.int (l3 + 1))]) (tgt := 11) dX4_removeAsk_36 (by decide) ?_
    exact r_le (L' := [some (.ref b0), some (.int l1), some (.ref b2), some (.int (l3 + 1))]) ⟨rfl, ⟨rfl, ⟨rfl, ⟨rfl, trivial⟩⟩⟩⟩ K0
section
theorem sp_X4_removeAsk {x : Cn} {Q : Cn → Prop} {q : Nat} {T : TT} {W C S A N a : Nat} (E : SEA x q T W C S A N) (ha : a < A) (k : ∀ z, (∀ b j, ¬ (b = q ∧ j = 4) → gi z b j = gi x b j) → gi z q 4 = nI (A - 1) → (∀ b j, b ≠ q + 4 → gr z b j = gr x b j) → (∀ j, j < 24 → gr z (q + 4) j = gr x (q + 4) (rot a A j)) → Q z) : mSV mX4_removeAsk [.ref q, .int (nI a)] KW x Q := by
  have hA : A ≤ 24 := E.nums.2.2.2.2.2.2.2.1
  obtain ⟨j, hj, ej⟩ := E.2.1.2.2.2.2.2.2.2.1 a (by omega)
  have key : ∀ c m y, m + c = A → a < m → y.1 = x.1 → (∀ b i, b ≠ q + 4 → gr y b i = gr x b i) → (∀ i, gr y (q + 4) i = if a ≤ i ∧ i + 1 < m then gr x (q + 4) (i + 1) else gr x (q + 4) i) → GV mX4_removeAsk 11 [some (.ref q), some (.int (nI a)), some (.ref (q + 30 + j)), some (.int (nI m))] [] KW y Q := by
    intro c
    induction c with
    | zero =>
      intro m y hm h0 y1 y2 y3
      have : m = A := by omega
      subst this
      have g1 : ∀ b i, gi y b i = gi x b i := fun b i => by unfold gi; rw [y1]
      have e4 : gi y q 4 = nI m := (g1 q 4).trans E.nums.2.2.2.1
      have r4 : gr y q 8 = some (q + 4) := by rw [y2 q 8 (by omega)]; exact E.2.1.2.2.2.1
      refine v_X4_removeAsk_11 (ks0 E.1) r4 (ks4 E.1) (ks30 E.1 hj) ⟨fun _ => ?_, fun z => absurd (by rw [e4]; exact Int32.le_refl _) z⟩
      have e5 : gi y q 4 - 1 = nI (m - 1) := by rw [e4]; exact pk_sub (b := 1) (by omega)
      rw [e5, show gi (ui y q 4 (nI (m - 1))) q 4 = nI (m - 1) by rw [gi_ui, if_pos ⟨rfl, rfl⟩], nI_clamp (show m - 1 < 2 ^ 31 by omega)]
      refine ⟨vp_in_nI (by omega) (by decide), k _ (fun b i hb => by rw [gi_ur, gi_ui, if_neg hb]; exact g1 b i) (by rw [gi_ur, gi_ui, if_pos ⟨rfl, rfl⟩]) (fun b i hb => by rw [gr_ur, if_neg (fun z => hb z.1), gr_ui]; exact y2 b i hb) (fun i hi => ?_)⟩
      rw [gr_ur, gr_ui]
      unfold rot
      by_cases c1 : i = m - 1
      · rw [if_pos ⟨rfl, c1⟩, if_neg (by omega), if_neg (by omega), if_pos (by omega), ej]
      · rw [if_neg (fun z => c1 z.2), y3]
        by_cases c2 : i < a
        · rw [if_neg (by omega), if_pos c2]
        · rw [if_neg c2]
          by_cases c3 : i + 1 < m
          · rw [if_pos (by omega), if_pos c3]
          · rw [if_neg (by omega), if_neg c3, if_neg (by omega)]
    | succ c ih =>
      intro m y hm h0 y1 y2 y3
      have g1 : ∀ b i, gi y b i = gi x b i := fun b i => by unfold gi; rw [y1]
      have e4 : gi y q 4 = nI A := (g1 q 4).trans E.nums.2.2.2.1
      have r4 : gr y q 8 = some (q + 4) := by rw [y2 q 8 (by omega)]; exact E.2.1.2.2.2.1
      obtain ⟨j2, hj2, ej2⟩ := E.2.1.2.2.2.2.2.2.2.1 m (by omega)
      have g2 : gr y (q + 4) m = some (q + 30 + j2) := by rw [y3, if_neg (by omega)]; exact ej2
      refine v_X4_removeAsk_11 (ks0 E.1) r4 (ks4 E.1) (ks30 E.1 hj) ⟨fun z => absurd (by rw [e4] at z; exact z) (nI_ge (by omega) (by omega)), fun _ => ?_⟩
      have em : nI m - 1 = nI (m - 1) := pk_sub (b := 1) (by omega)
      rw [em, nI_clamp (show m < 2 ^ 31 by omega), nI_clamp (show m - 1 < 2 ^ 31 by omega), nI_1]
      refine ⟨vp_in_nI (by omega) (by decide), _, g2, ks30 E.1 hj2, vp_in_nI (by omega) (by decide), ih (m + 1) _ (by omega) (by omega) y1 (fun b i hb => by rw [gr_ur, if_neg (fun z => hb z.1)]; exact y2 b i hb) (fun i => ?_)⟩
      rw [gr_ur]
      by_cases c1 : i = m - 1
      · rw [if_pos ⟨rfl, c1⟩, if_pos (by omega), ← ej2]
        congr 1
        omega
      · rw [if_neg (fun z => c1 z.2), y3]
        by_cases c2 : a ≤ i ∧ i + 1 < m
        · rw [if_pos c2, if_pos (by omega)]
        · rw [if_neg c2, if_neg (by omega)]
  refine v_X4_removeAsk_0 (ks0 E.1) E.2.1.2.2.2.1 (ks4 E.1) ?_
  rw [nI_clamp (show a < 2 ^ 31 by omega), nI_1]
  exact ⟨vp_in_nI (by omega) (by decide), _, ej, key (A - (a + 1)) (a + 1) x (by omega) (by omega) rfl (fun _ _ _ => rfl) (fun i => by rw [if_neg (by omega)])⟩
theorem EQx.rfr {x y : Cn} (h : EQx x y 718) : RFr x y := ⟨h.1, fun a k a1 _ _ _ _ _ _ => h.2 a k a1⟩
end
set_option maxHeartbeats 2000000 in
theorem v_X7_drop_0 {K : Sh} {x : Cn} {Q : Int32 → Cn → Prop} {b0 : Nat} {l1 : Int32} {b0_2 : Nat} (k_b0 : kk K b0 = some (7, 0)) (g_b0_2 : gr x b0 2 = some b0_2) (k_b0_2 : kk K b0_2 = some (4, 0)) (K0 : ((0 ≤ l1 ∧ l1 < gi x b0_2 4) → (mSV mX7_remember [.ref b0] K x (fun y_2 => gr y_2 b0 2 = some b0_2 ∧ (mSV mX4_removeAsk [.ref b0_2, .int l1] K y_2 (fun y_4 => gr y_4 b0 2 = some b0_2 ∧ (Q (gi y_4 b0_2 4) y_4)))))) ∧ (¬ (0 ≤ l1 ∧ l1 < gi x b0_2 4) → (Q (-2) x))) : mSI mX7_drop [.ref b0, .int l1] K x Q := by
  refine s_I (by decide) (by simp [Value.category]) (Nat.le_of_ble_eq_true rfl) ?_
  show mGM mX7_drop 0 [some (.ref b0), some (.int l1)] [] (hp K x) (PI K Q)
  refine r_aload_n (pc := 0) dX7_drop_0 rfl ?_
  refine r_iload_n (pc := 1) dX7_drop_1 rfl ?_
  refine s_VI (pc := 2) mX7_isAsk (ci := 7) (a := b0) (As := [.int l1]) dX7_drop_2 lk_X7_173 in_X7_isAsk mo_X7_isAsk ⟨by decide, rfl⟩ ⟨by decide, by decide⟩ (Nat.le_of_ble_eq_true rfl) k_b0 (sp_X7_isAsk k_b0 g_b0_2 k_b0_2 ?_)
  refine r_if_ne (pc := 5) (tgt := 11) dX7_drop_5 (by decide) (fun q => ?_) (fun q => ?_)
  · have q := b2i_nz q
    have K0 := K0.1 q
    refine r_aload_n (pc := 11) dX7_drop_11 rfl ?_
    refine s_VV (pc := 12) mX7_remember (ci := 7) (a := b0) (As := []) dX7_drop_12 lk_X7_333 in_X7_remember mo_X7_remember ⟨by decide, rfl⟩ ⟨by decide, by decide⟩ (Nat.le_of_ble_eq_true rfl) k_b0 (mSV_mono K0 (fun y_2 K0 => ?_))
    refine r_aload_n (pc := 15) dX7_drop_15 rfl ?_
    obtain ⟨g_3, K0⟩ := K0
    refine s_getR (pc := 16) dX7_drop_16 fl_X7_20 rfl k_b0 g_3 ?_
    refine r_iload_n (pc := 19) dX7_drop_19 rfl ?_
    refine s_VV (pc := 20) mX4_removeAsk (ci := 4) (a := b0_2) (As := [.int l1]) dX7_drop_20 lk_X7_373 in_X4_removeAsk mo_X4_removeAsk ⟨by decide, rfl⟩ ⟨by decide, by decide⟩ (Nat.le_of_ble_eq_true rfl) k_b0_2 (mSV_mono K0 (fun y_4 K0 => ?_))
    refine r_aload_n (pc := 23) dX7_drop_23 rfl ?_
    obtain ⟨g_5, K0⟩ := K0
    refine s_getR (pc := 24) dX7_drop_24 fl_X7_20 rfl k_b0 g_5 ?_
    refine s_getI (pc := 27) dX7_drop_27 fl_X7_100 rfl k_b0_2 ?_
    exact s_iret rfl dX7_drop_30 K0
  · have q := (b2i_z _).mp q
    have K0 := K0.2 q
    refine r_bipush (pc := 8) (v := (-2)) dX7_drop_8 (by decide) ?_
    exact s_iret rfl dX7_drop_10 K0
set_option maxHeartbeats 2000000 in
theorem v_X8_dropsAsk_0 {K : Sh} {x : Cn} {Q : Cn → Prop} {b0 : Nat} {l1 : Int32}   (K0 : GV mX8_dropsAsk 9 [some (.ref b0), some (.int l1), some (.int (350 + (7 * l1)))] [] K x Q) : mSV mX8_dropsAsk [.ref b0, .int l1] K x Q := by
  refine s_V (by decide) (by simp [Value.category]) (Nat.le_of_ble_eq_true rfl) ?_
  show mGM mX8_dropsAsk 0 [some (.ref b0), some (.int l1), none] [] (hp K x) (PV K Q)
  refine r_sipush (pc := 0) (v := 350) dX8_dropsAsk_0 (by decide) ?_
  refine r_bipush (pc := 3) (v := 7) dX8_dropsAsk_3 (by decide) ?_
  refine r_iload_n (pc := 5) dX8_dropsAsk_5 rfl ?_
  refine r_imul (pc := 6) dX8_dropsAsk_6 ?_
  refine r_iadd (pc := 7) dX8_dropsAsk_7 ?_
  refine r_istore_n (pc := 8) dX8_dropsAsk_8 (by decide) ?_
  exact r_le (L' := [some (.ref b0), some (.int l1), some (.int (350 + (7 * l1)))]) ⟨rfl, ⟨rfl, ⟨rfl, trivial⟩⟩⟩ K0
set_option maxHeartbeats 2000000 in
theorem v_X8_dropsAsk_9 {K : Sh} {x : Cn} {Q : Cn → Prop} {b0 : Nat} {l1 : Int32} {l2 : Int32} {b0_1 : Nat} {n_b0_1 : Nat} (k_b0 : kk K b0 = some (8, 0)) (g_b0_1 : gr x b0 1 = some b0_1) (k_b0_1 : kk K b0_1 = some (20, n_b0_1)) (K0 : (511 ≤ l2 → (vp_in 3 n_b0_1 ∧ (Q (ui x b0_1 3 ((gi x b0_1 3) - 1))))) ∧ (¬ 511 ≤ l2 → (vp_in (l2 + 7) n_b0_1 ∧ (vp_in l2 n_b0_1 ∧ (GV mX8_dropsAsk 9 [some (.ref b0), some (.int l1), some (.int (l2 + 1))] [] K (ui x b0_1 (l2 : Int32).toNatClampNeg (gi x b0_1 ((l2 + 7) : Int32).toNatClampNeg)) Q))))) : GV mX8_dropsAsk 9 [some (.ref b0), some (.int l1), some (.int l2)] [] K x Q := by
  show mGM mX8_dropsAsk 9 [some (.ref b0), some (.int l1), some (.int l2)] [] (hp K x) (PV K Q)
  refine r_iload_n (pc := 9) dX8_dropsAsk_9 rfl ?_
  refine r_sipush (pc := 10) (v := 511) dX8_dropsAsk_10 (by decide) ?_
  refine r_icmp_ge (pc := 13) (tgt := 37) dX8_dropsAsk_13 (by decide) (fun q => ?_) (fun q => ?_)
  · have K0 := K0.1 q
    refine r_aload_n (pc := 37) dX8_dropsAsk_37 rfl ?_
    refine s_getR (pc := 38) dX8_dropsAsk_38 fl_X8_9 rfl k_b0 g_b0_1 ?_
    refine r_iconst (pc := 41) (v := 3) dX8_dropsAsk_41 (by decide) ?_
    refine r_dup2 (pc := 42) dX8_dropsAsk_42 rfl rfl ?_
    obtain ⟨i_2, K0⟩ := K0
    refine s_iald (pc := 43) dX8_dropsAsk_43 k_b0_1 i_2 ?_
    refine r_iconst (pc := 44) (v := 1) dX8_dropsAsk_44 (by decide) ?_
    refine r_isub (pc := 45) dX8_dropsAsk_45 ?_
    refine s_iast (pc := 46) dX8_dropsAsk_46 k_b0_1 i_2 ?_
    exact s_ret rfl dX8_dropsAsk_47 K0
  · have K0 := K0.2 q
    refine r_aload_n (pc := 16) dX8_dropsAsk_16 rfl ?_
    refine s_getR (pc := 17) dX8_dropsAsk_17 fl_X8_9 rfl k_b0 g_b0_1 ?_
    refine r_iload_n (pc := 20) dX8_dropsAsk_20 rfl ?_
    refine r_aload_n (pc := 21) dX8_dropsAsk_21 rfl ?_
    refine s_getR (pc := 22) dX8_dropsAsk_22 fl_X8_9 rfl k_b0 g_b0_1 ?_
    refine r_iload_n (pc := 25) dX8_dropsAsk_25 rfl ?_
    refine r_bipush (pc := 26) (v := 7) dX8_dropsAsk_26 (by decide) ?_
    refine r_iadd (pc := 28) dX8_dropsAsk_28 ?_
    obtain ⟨i_3, K0⟩ := K0
    refine s_iald (pc := 29) dX8_dropsAsk_29 k_b0_1 i_3 ?_
    obtain ⟨i_4, K0⟩ := K0
    refine s_iast (pc := 30) dX8_dropsAsk_30 k_b0_1 i_4 ?_
    refine r_iinc (pc := 31) (v := l2 + 1) dX8_dropsAsk_31 rfl rfl (by decide) ?_
    refine r_goto (pc := 34) (L := [some (.ref b0), some (.int l1), some (.int (l2 + 1))]) (tgt := 9) dX8_dropsAsk_34 (by decide) ?_
    exact r_le (L' := [some (.ref b0), some (.int l1), some (.int (l2 + 1))]) ⟨rfl, ⟨rfl, ⟨rfl, trivial⟩⟩⟩ K0
section
theorem sp_X8_dropsAsk {x : Cn} {Q : Cn → Prop} {a A : Nat} {T : TT} {n : Nat} {H : Nat → TT} (r : RS x T n H) (h3 : T 3 = nI A) (ha : a < A) (hA : A ≤ 24) (q : ∀ y, EQx x y 718 → RS y (drT T a A) n H → Q y) : mSV mX8_dropsAsk [.ref 717, .int (nI a)] KW x Q := by
  have key : ∀ c m y, m + c = 511 → 350 + 7 * a ≤ m → EQx x y 718 → RS y (fun i => if 350 + 7 * a ≤ i ∧ i < m then T (i + 7) else T i) n H → GV mX8_dropsAsk 9 [some (.ref 717), some (.int (nI a)), some (.int (nI m))] [] KW y Q := by
    intro c
    induction c with
    | zero =>
      intro m y hm h0 f r1
      have : m = 511 := by omega
      subst this
      refine v_X8_dropsAsk_9 km r1.1.1 km1 ⟨fun _ => ⟨v0 (k := 3) (by decide) rfl rfl, ?_⟩, fun z => absurd (Int32.le_refl _) z⟩
      have e3 : gi y 718 3 - 1 = nI (A - 1) := by
        rw [r1.2.1]
        show (if 350 + 7 * a ≤ 3 ∧ 3 < 511 then T (3 + 7) else T 3) - 1 = _
        rw [if_neg (by omega), h3]
        exact pk_sub (b := 1) (by omega)
      rw [e3]
      refine q _ f.ui ?_
      have := r1.u8 (k := 3) (v := nI (A - 1))
      have e : uT (fun i => if 350 + 7 * a ≤ i ∧ i < 511 then T (i + 7) else T i) 3 (nI (A - 1)) = drT T a A := rfl
      rw [e] at this
      exact this
    | succ c ih =>
      intro m y hm h0 f r1
      refine v_X8_dropsAsk_9 km r1.1.1 km1 ⟨fun z => absurd z (nI_ge (b := 511) (by omega) (by decide)), fun _ => ?_⟩
      rw [show nI m + 7 = nI (m + 7) from nI_add m 7, nI_1, nI_clamp (show m < 2 ^ 31 by omega), nI_clamp (show m + 7 < 2 ^ 31 by omega)]
      refine ⟨vp_in_nI (by omega) (by decide), vp_in_nI (by omega) (by decide), ih (m + 1) _ (by omega) (by omega) f.ui ?_⟩
      have := r1.u8 (k := m) (v := gi y 718 (m + 7))
      have e : uT (fun i => if 350 + 7 * a ≤ i ∧ i < m then T (i + 7) else T i) m (gi y 718 (m + 7)) = (fun i => if 350 + 7 * a ≤ i ∧ i < m + 1 then T (i + 7) else T i) := by
        funext i
        rw [r1.2.1]
        show (if i = m then (if 350 + 7 * a ≤ m + 7 ∧ m + 7 < m then T (m + 7 + 7) else T (m + 7)) else if 350 + 7 * a ≤ i ∧ i < m then T (i + 7) else T i) = if 350 + 7 * a ≤ i ∧ i < m + 1 then T (i + 7) else T i
        by_cases c1 : i = m
        · rw [if_pos c1, if_neg (show ¬ (350 + 7 * a ≤ m + 7 ∧ m + 7 < m) by omega), if_pos (show 350 + 7 * a ≤ i ∧ i < m + 1 by omega), c1]
        · rw [if_neg c1]
          by_cases c2 : 350 + 7 * a ≤ i ∧ i < m
          · rw [if_pos c2, if_pos (show 350 + 7 * a ≤ i ∧ i < m + 1 by omega)]
          · rw [if_neg c2, if_neg (show ¬ (350 + 7 * a ≤ i ∧ i < m + 1) by omega)]
      rw [e] at this
      exact this
  refine v_X8_dropsAsk_0 ?_
  have e : (350 : Int32) + 7 * nI a = nI (350 + 7 * a) := by
    have := ix2 a (v := 0) 0 rfl
    rw [Int32.add_zero] at this
    exact this
  rw [e]
  refine key (511 - (350 + 7 * a)) (350 + 7 * a) x (by omega) (by omega) (EQx.rf x _) ?_
  have e2 : (fun i => if 350 + 7 * a ≤ i ∧ i < 350 + 7 * a then T (i + 7) else T i) = T := by
    funext i
    rw [if_neg (by omega)]
  rw [e2]
  exact r
end
set_option maxHeartbeats 2000000 in
theorem v_X8_drop_0 {K : Sh} {x : Cn} {Q : Int32 → Cn → Prop} {b0 : Nat} {l1 : Int32} {b0_1 : Nat} {n_b0_1 : Nat} (k_b0 : kk K b0 = some (8, 0)) (g_b0_1 : gr x b0 1 = some b0_1) (k_b0_1 : kk K b0_1 = some (20, n_b0_1)) (K0 : vp_in 3 n_b0_1 ∧ (((0 ≤ l1 ∧ l1 ≤ gi x b0_1 3 - 1) → (mSV mX8_keeps [.ref b0] K x (fun y_3 => mSV mX8_dropsAsk [.ref b0, .int l1] K y_3 (fun y_4 => gr y_4 b0 1 = some b0_1 ∧ (Q (gi y_4 b0_1 3) y_4))))) ∧ (¬ (0 ≤ l1 ∧ l1 ≤ gi x b0_1 3 - 1) → (Q (-2) x)))) : mSI mX8_drop [.ref b0, .int l1] K x Q := by
  refine s_I (by decide) (by simp [Value.category]) (Nat.le_of_ble_eq_true rfl) ?_
  show mGM mX8_drop 0 [some (.ref b0), some (.int l1)] [] (hp K x) (PI K Q)
  refine r_aload_n (pc := 0) dX8_drop_0 rfl ?_
  refine r_iload_n (pc := 1) dX8_drop_1 rfl ?_
  obtain ⟨i_1, K0⟩ := K0
  refine s_VI (pc := 2) mX8_isAsk (ci := 8) (a := b0) (As := [.int l1]) dX8_drop_2 lk_X8_281 in_X8_isAsk mo_X8_isAsk ⟨by decide, rfl⟩ ⟨by decide, by decide⟩ (Nat.le_of_ble_eq_true rfl) k_b0 (sp_X8_isAsk k_b0 g_b0_1 k_b0_1 i_1 ?_)
  refine r_if_ne (pc := 5) (tgt := 11) dX8_drop_5 (by decide) (fun q => ?_) (fun q => ?_)
  · have q := b2i_nz q
    have K0 := K0.1 q
    refine r_aload_n (pc := 11) dX8_drop_11 rfl ?_
    refine s_VV (pc := 12) mX8_keeps (ci := 8) (a := b0) (As := []) dX8_drop_12 lk_X8_366 in_X8_keeps mo_X8_keeps ⟨by decide, rfl⟩ ⟨by decide, by decide⟩ (Nat.le_of_ble_eq_true rfl) k_b0 (mSV_mono K0 (fun y_3 K0 => ?_))
    refine r_aload_n (pc := 15) dX8_drop_15 rfl ?_
    refine r_iload_n (pc := 16) dX8_drop_16 rfl ?_
    refine s_VV (pc := 17) mX8_dropsAsk (ci := 8) (a := b0) (As := [.int l1]) dX8_drop_17 lk_X8_376 in_X8_dropsAsk mo_X8_dropsAsk ⟨by decide, rfl⟩ ⟨by decide, by decide⟩ (Nat.le_of_ble_eq_true rfl) k_b0 (mSV_mono K0 (fun y_4 K0 => ?_))
    refine r_aload_n (pc := 20) dX8_drop_20 rfl ?_
    obtain ⟨g_5, K0⟩ := K0
    refine s_getR (pc := 21) dX8_drop_21 fl_X8_9 rfl k_b0 g_5 ?_
    refine r_iconst (pc := 24) (v := 3) dX8_drop_24 (by decide) ?_
    refine s_iald (pc := 25) dX8_drop_25 k_b0_1 i_1 ?_
    exact s_iret rfl dX8_drop_26 K0
  · have q := (b2i_z _).mp q
    have K0 := K0.2 q
    refine r_bipush (pc := 8) (v := (-2)) dX8_drop_8 (by decide) ?_
    exact s_iret rfl dX8_drop_10 K0
section
theorem sq_X8_drop {y : Cn} {Q : Int32 → Cn → Prop} {T : TT} {W C S A N n : Nat} {H : Nat → TT} {a : Int32} (r : RS y T n H) (F : WF T W C S A N) (k1 : ¬ (0 ≤ a ∧ a < nI A) → Q (-2) y) (k2 : ∀ b, a = nI b → b < A → ∀ z, RFr y z → RS z (drT T b A) (pn n) (push H n T) → Q (nI (A - 1)) z) : mSI mX8_drop [.ref 717, .int a] KW y Q := by
  have hA : A ≤ 24 := F.2.2.2.2.2.2.2.2.1
  refine v_X8_drop_0 km r.1.1 km1 ⟨v0 (k := 3) (by decide) rfl rfl, ?_⟩
  rw [r.2.1, F.2.2.2.2.2.2.2.1, inN' (by omega)]
  refine ⟨fun z => ?_, fun z => k1 z⟩
  obtain ⟨b, hb, rfl⟩ := inN (by omega) z
  refine r.keeps (fun z f1 r1 => sp_X8_dropsAsk r1 F.2.2.2.2.2.2.2.1 hb hA (fun v f2 r2 => ⟨r2.1.1, ?_⟩))
  rw [r2.2.1, show drT T b A 3 = nI (A - 1) from if_pos rfl]
  exact k2 b rfl hb v (f1.tr f2.rfr) r2
end
set_option maxHeartbeats 2000000 in
theorem v_X5_openIn_0 {K : Sh} {x : Cn} {Q : Cn → Prop} {b0 : Nat} {l1 : Int32}  (k_b0 : kk K b0 = some (5, 0)) (K0 : Q (ui (ui (ui (ui (ui x b0 7 l1) b0 8 0) b0 9 0) b0 10 0) b0 11 0)) : mSV mX5_openIn [.ref b0, .int l1] K x Q := by
  refine s_V (by decide) (by simp [Value.category]) (Nat.le_of_ble_eq_true rfl) ?_
  show mGM mX5_openIn 0 [some (.ref b0), some (.int l1)] [] (hp K x) (PV K Q)
  refine r_aload_n (pc := 0) dX5_openIn_0 rfl ?_
  refine r_iload_n (pc := 1) dX5_openIn_1 rfl ?_
  refine s_putI (pc := 2) dX5_openIn_2 fl_X5_34 rfl rfl k_b0 ?_
  refine r_aload_n (pc := 5) dX5_openIn_5 rfl ?_
  refine r_iconst (pc := 6) (v := 0) dX5_openIn_6 (by decide) ?_
  refine s_putI (pc := 7) dX5_openIn_7 fl_X5_37 rfl rfl k_b0 ?_
  refine r_aload_n (pc := 10) dX5_openIn_10 rfl ?_
  refine r_iconst (pc := 11) (v := 0) dX5_openIn_11 (by decide) ?_
  refine s_putI (pc := 12) dX5_openIn_12 fl_X5_40 rfl rfl k_b0 ?_
  refine r_aload_n (pc := 15) dX5_openIn_15 rfl ?_
  refine r_iconst (pc := 16) (v := 0) dX5_openIn_16 (by decide) ?_
  refine s_putI (pc := 17) dX5_openIn_17 fl_X5_43 rfl rfl k_b0 ?_
  refine r_aload_n (pc := 20) dX5_openIn_20 rfl ?_
  refine r_iconst (pc := 21) (v := 0) dX5_openIn_21 (by decide) ?_
  refine s_putI (pc := 22) dX5_openIn_22 fl_X5_46 rfl rfl k_b0 ?_
  exact s_ret rfl dX5_openIn_25 K0
section
theorem sp_X5_openIn_at {x : Cn} {Q : Cn → Prop} {p : Nat} {v : Int32} (h1 : kk KW p = some (5, 0)) (k : ∀ y, EQx x y p → (∀ j, j < 7 → gi y p j = gi x p j) → gi y p 7 = v → (∀ j, 8 ≤ j → j < 12 → gi y p j = 0) → Q y) : mSV mX5_openIn [.ref p, .int v] KW x Q := by
  refine v_X5_openIn_0 h1 (k _ ((((((EQx.rf x p).ui).ui).ui).ui).ui) (fun j hj => ?_) ?_ (fun j h8 h12 => ?_))
  · simp only [gi_ui]
    rw [if_neg (by omega), if_neg (by omega), if_neg (by omega), if_neg (by omega), if_neg (by omega)]
  · simp [gi_ui]
  · have : j = 8 ∨ j = 9 ∨ j = 10 ∨ j = 11 := by omega
    rcases this with rfl | rfl | rfl | rfl <;> simp [gi_ui]
/-- a series stays, in row m -/
def stf (T : TT) (s k : Nat) : Int32 := if k = 4 then 0 else if k = 7 then bas T s else if 8 ≤ k then 0 else so T s k
def stT (T : TT) (s m : Nat) : TT := fun i => if 62 + 12 * m ≤ i ∧ i < 74 + 12 * m then stf T s (i - (62 + 12 * m)) else T i
theorem so_stT {T : TT} {s m k : Nat} (hk : k < 12) : so (stT T s m) m k = stf T s k := by
  unfold so stT
  rw [if_pos (by omega)]
  congr 1
  omega
theorem so_stT' {T : TT} {s m j k : Nat} (hk : k < 12) (h : j ≠ m) : so (stT T s m) j k = so T j k := by
  unfold so stT
  rw [if_neg (by omega)]
theorem stT_off {T : TT} {s m i : Nat} (hm : m < 24) (h : i < 62 ∨ 350 ≤ i) : stT T s m i = T i := by
  unfold stT
  rw [if_neg (by omega)]
theorem bas_stT {T : TT} {s m : Nat} : bas (stT T s m) m = bas T s := by
  unfold bas
  rw [so_stT (by decide), so_stT (by decide), so_stT (by decide), so_stT (by decide)]
  show ((bas T s ||| 0) ||| 0) ||| 0 = _
  simp [bas]
theorem Wse.sta {T : TT} {C W s m : Nat} (w : Wse T C W s) : Wse (stT T s m) C W m := by
  obtain ⟨a1, a2, a3, a4, a5, a6, a7, a8⟩ := id w
  have e : ∀ k, k < 12 → so (stT T s m) m k = stf T s k := fun k hk => so_stT hk
  have z : ∀ k, k < 5 → k ≠ 0 → so (stT T s m) m (7 + k) = 0 := fun k hk h0 => by
    rw [e _ (by omega)]
    unfold stf
    rw [if_neg (by omega), if_neg (by omega), if_pos (by omega)]
  refine ⟨?_, ?_, ?_, ?_, ?_, ?_, ?_, ?_⟩
  · rw [e 0 (by decide)]; exact a1
  · rw [e 1 (by decide)]; exact a2
  · rw [e 2 (by decide)]; exact a3
  · rw [e 3 (by decide)]; exact a4
  · rw [e 4 (by decide)]; exact Or.inl rfl
  · rw [e 5 (by decide), e 6 (by decide)]; exact a6
  · intro i hi k j hk hj h1 h2
    by_cases c1 : k = 0
    · by_cases c2 : j = 0
      · omega
      · rw [z j hj c2, tb_0] at h2; cases h2
    · rw [z k hk c1, tb_0] at h1; cases h1
  · intro i k hk h1
    by_cases c1 : k = 0
    · subst c1
      rw [e (7 + 0) (by decide)] at h1
      exact bas_W w h1
    · rw [z k hk c1, tb_0] at h1; cases h1
end
set_option maxHeartbeats 2000000 in
theorem v_X8_stays_0 {K : Sh} {x : Cn} {Q : Cn → Prop} {b0 : Nat} {l1 : Int32} {l2 : Int32} {b0_3 : Nat} {n_b0_3 : Nat} (k_b0 : kk K b0 = some (8, 0)) (g_b0_3 : gr x b0 3 = some b0_3) (k_b0_3 : kk K b0_3 = some (20, n_b0_3)) (K0 : (l24 l1 n_b0_3) ∧ (GV mX8_stays 9 [some (.ref b0), some (.int l1), some (.int l2), some (.int (bas (gi x b0_3) (l1 : Int32).toNatClampNeg)), some (.int 0)] [] K x Q)) : mSV mX8_stays [.ref b0, .int l1, .int l2] K x Q := by
  refine s_V (by decide) (by simp [Value.category]) (Nat.le_of_ble_eq_true rfl) ?_
  show mGM mX8_stays 0 [some (.ref b0), some (.int l1), some (.int l2), none, none] [] (hp K x) (PV K Q)
  refine r_aload_n (pc := 0) dX8_stays_0 rfl ?_
  refine r_iload_n (pc := 1) dX8_stays_1 rfl ?_
  obtain ⟨p_1, K0⟩ := K0
  refine s_VI (pc := 2) mX8_basisOf (ci := 8) (a := b0) (As := [.int l1]) dX8_stays_2 lk_X8_71 in_X8_basisOf mo_X8_basisOf ⟨by decide, rfl⟩ ⟨by decide, by decide⟩ (Nat.le_of_ble_eq_true rfl) k_b0 (sr_X8_basisOf k_b0 g_b0_3 k_b0_3 p_1 ?_)
  refine r_istore_n (pc := 5) dX8_stays_5 (by decide) ?_
  refine r_iconst (pc := 6) (L := [some (.ref b0), some (.int l1), some (.int l2), some (.int (bas (gi x b0_3) (l1 : Int32).toNatClampNeg)), none]) (v := 0) dX8_stays_6 (by decide) ?_
  refine r_istore (pc := 7) dX8_stays_7 (by decide) ?_
  exact r_le (L' := [some (.ref b0), some (.int l1), some (.int l2), some (.int (bas (gi x b0_3) (l1 : Int32).toNatClampNeg)), some (.int 0)]) ⟨rfl, ⟨rfl, ⟨rfl, ⟨rfl, ⟨rfl, trivial⟩⟩⟩⟩⟩ K0
set_option maxHeartbeats 2000000 in
theorem v_X8_stays_9 {K : Sh} {x : Cn} {Q : Cn → Prop} {b0 : Nat} {l1 : Int32} {l2 : Int32} {l3 : Int32} {l4 : Int32} {b0_3 : Nat} {n_b0_3 : Nat} (k_b0 : kk K b0 = some (8, 0)) (g_b0_3 : gr x b0 3 = some b0_3) (k_b0_3 : kk K b0_3 = some (20, n_b0_3)) (K0 : (12 ≤ l4 → (GV mX8_stays 39 [some (.ref b0), some (.int l1), some (.int l2), some (.int l3), some (.int 0)] [] K x Q)) ∧ (¬ 12 ≤ l4 → ((l24 l1 n_b0_3) ∧ ((l12 l4) ∧ (mSV mX8_lays [.ref b0, .int l2, .int l4, .int (so (gi x b0_3) (l1 : Int32).toNatClampNeg (l4 : Int32).toNatClampNeg)] K x (fun y_4 => GV mX8_stays 9 [some (.ref b0), some (.int l1), some (.int l2), some (.int l3), some (.int (l4 + 1))] [] K y_4 Q)))))) : GV mX8_stays 9 [some (.ref b0), some (.int l1), some (.int l2), some (.int l3), some (.int l4)] [] K x Q := by
  show mGM mX8_stays 9 [some (.ref b0), some (.int l1), some (.int l2), some (.int l3), some (.int l4)] [] (hp K x) (PV K Q)
  refine r_iload (pc := 9) dX8_stays_9 rfl ?_
  refine r_bipush (pc := 11) (v := 12) dX8_stays_11 (by decide) ?_
  refine r_icmp_ge (pc := 13) (tgt := 36) dX8_stays_13 (by decide) (fun q => ?_) (fun q => ?_)
  · have K0 := K0.1 q
    refine r_iconst (pc := 36) (v := 0) dX8_stays_36 (by decide) ?_
    refine r_istore (pc := 37) dX8_stays_37 (by decide) ?_
    exact r_le (L' := [some (.ref b0), some (.int l1), some (.int l2), some (.int l3), some (.int 0)]) ⟨rfl, ⟨rfl, ⟨rfl, ⟨rfl, ⟨rfl, trivial⟩⟩⟩⟩⟩ K0
  · have K0 := K0.2 q
    refine r_aload_n (pc := 16) dX8_stays_16 rfl ?_
    refine r_iload_n (pc := 17) dX8_stays_17 rfl ?_
    refine r_iload (pc := 18) dX8_stays_18 rfl ?_
    refine r_aload_n (pc := 20) dX8_stays_20 rfl ?_
    refine r_iload_n (pc := 21) dX8_stays_21 rfl ?_
    refine r_iload (pc := 22) dX8_stays_22 rfl ?_
    obtain ⟨p_2, K0⟩ := K0
    obtain ⟨p_3, K0⟩ := K0
    refine s_VI (pc := 24) mX8_one (ci := 8) (a := b0) (As := [.int l1, .int l4]) dX8_stays_24 lk_X8_67 in_X8_one mo_X8_one ⟨by decide, rfl⟩ ⟨by decide, by decide⟩ (Nat.le_of_ble_eq_true rfl) k_b0 (sr_X8_one k_b0 g_b0_3 k_b0_3 p_2 p_3 ?_)
    refine s_VV (pc := 27) mX8_lays (ci := 8) (a := b0) (As := [.int l2, .int l4, .int (so (gi x b0_3) (l1 : Int32).toNatClampNeg (l4 : Int32).toNatClampNeg)]) dX8_stays_27 lk_X8_230 in_X8_lays mo_X8_lays ⟨by decide, rfl⟩ ⟨by decide, by decide⟩ (Nat.le_of_ble_eq_true rfl) k_b0 (mSV_mono K0 (fun y_4 K0 => ?_))
    refine r_iinc (pc := 30) (v := l4 + 1) dX8_stays_30 rfl rfl (by decide) ?_
    refine r_goto (pc := 33) (L := [some (.ref b0), some (.int l1), some (.int l2), some (.int l3), some (.int (l4 + 1))]) (tgt := 9) dX8_stays_33 (by decide) ?_
    exact r_le (L' := [some (.ref b0), some (.int l1), some (.int l2), some (.int l3), some (.int (l4 + 1))]) ⟨rfl, ⟨rfl, ⟨rfl, ⟨rfl, ⟨rfl, trivial⟩⟩⟩⟩⟩ K0
set_option maxHeartbeats 2000000 in
theorem v_X8_stays_39 {K : Sh} {x : Cn} {Q : Cn → Prop} {b0 : Nat} {l1 : Int32} {l2 : Int32} {l3 : Int32} {l4 : Int32}  (k_b0 : kk K b0 = some (8, 0)) (K0 : (5 ≤ l4 → (mSV mX8_lays [.ref b0, .int l2, .int 4, .int 0] K x (fun y_2 => Q y_2))) ∧ (¬ 5 ≤ l4 → ((¬ l4 = 0 → (mSV mX8_lays [.ref b0, .int l2, .int (7 + l4), .int 0] K x (fun y_4 => GV mX8_stays 39 [some (.ref b0), some (.int l1), some (.int l2), some (.int l3), some (.int (l4 + 1))] [] K y_4 Q))) ∧ (l4 = 0 → (mSV mX8_lays [.ref b0, .int l2, .int (7 + l4), .int l3] K x (fun y_5 => GV mX8_stays 39 [some (.ref b0), some (.int l1), some (.int l2), some (.int l3), some (.int (l4 + 1))] [] K y_5 Q)))))) : GV mX8_stays 39 [some (.ref b0), some (.int l1), some (.int l2), some (.int l3), some (.int l4)] [] K x Q := by
  show mGM mX8_stays 39 [some (.ref b0), some (.int l1), some (.int l2), some (.int l3), some (.int l4)] [] (hp K x) (PV K Q)
  refine r_iload (pc := 39) dX8_stays_39 rfl ?_
  refine r_iconst (pc := 41) (v := 5) dX8_stays_41 (by decide) ?_
  refine r_icmp_ge (pc := 42) (tgt := 71) dX8_stays_42 (by decide) (fun q => ?_) (fun q => ?_)
  · have K0 := K0.1 q
    refine r_aload_n (pc := 71) dX8_stays_71 rfl ?_
    refine r_iload_n (pc := 72) dX8_stays_72 rfl ?_
    refine r_iconst (pc := 73) (v := 4) dX8_stays_73 (by decide) ?_
    refine r_iconst (pc := 74) (v := 0) dX8_stays_74 (by decide) ?_
    refine s_VV (pc := 75) mX8_lays (ci := 8) (a := b0) (As := [.int l2, .int 4, .int 0]) dX8_stays_75 lk_X8_230 in_X8_lays mo_X8_lays ⟨by decide, rfl⟩ ⟨by decide, by decide⟩ (Nat.le_of_ble_eq_true rfl) k_b0 (mSV_mono K0 (fun y_2 K0 => ?_))
    exact s_ret rfl dX8_stays_78 K0
  · have K0 := K0.2 q
    refine r_aload_n (pc := 45) dX8_stays_45 rfl ?_
    refine r_iload_n (pc := 46) dX8_stays_46 rfl ?_
    refine r_bipush (pc := 47) (v := 7) dX8_stays_47 (by decide) ?_
    refine r_iload (pc := 49) dX8_stays_49 rfl ?_
    refine r_iadd (pc := 51) dX8_stays_51 ?_
    refine r_iload (pc := 52) dX8_stays_52 rfl ?_
    refine r_if_ne (pc := 54) (tgt := 61) dX8_stays_54 (by decide) (fun q => ?_) (fun q => ?_)
    · have K0 := K0.1 q
      refine r_iconst (pc := 61) (v := 0) dX8_stays_61 (by decide) ?_
      refine s_VV (pc := 62) mX8_lays (ci := 8) (a := b0) (As := [.int l2, .int (7 + l4), .int 0]) dX8_stays_62 lk_X8_230 in_X8_lays mo_X8_lays ⟨by decide, rfl⟩ ⟨by decide, by decide⟩ (Nat.le_of_ble_eq_true rfl) k_b0 (mSV_mono K0 (fun y_4 K0 => ?_))
      refine r_iinc (pc := 65) (v := l4 + 1) dX8_stays_65 rfl rfl (by decide) ?_
      refine r_goto (pc := 68) (L := [some (.ref b0), some (.int l1), some (.int l2), some (.int l3), some (.int (l4 + 1))]) (tgt := 39) dX8_stays_68 (by decide) ?_
      exact r_le (L' := [some (.ref b0), some (.int l1), some (.int l2), some (.int l3), some (.int (l4 + 1))]) ⟨rfl, ⟨rfl, ⟨rfl, ⟨rfl, ⟨rfl, trivial⟩⟩⟩⟩⟩ K0
    · have K0 := K0.2 q
      refine r_iload_n (pc := 57) dX8_stays_57 rfl ?_
      refine r_goto (pc := 58) (tgt := 62) dX8_stays_58 (by decide) ?_
      refine s_VV (pc := 62) mX8_lays (ci := 8) (a := b0) (As := [.int l2, .int (7 + l4), .int l3]) dX8_stays_62 lk_X8_230 in_X8_lays mo_X8_lays ⟨by decide, rfl⟩ ⟨by decide, by decide⟩ (Nat.le_of_ble_eq_true rfl) k_b0 (mSV_mono K0 (fun y_5 K0 => ?_))
      refine r_iinc (pc := 65) (v := l4 + 1) dX8_stays_65 rfl rfl (by decide) ?_
      refine r_goto (pc := 68) (L := [some (.ref b0), some (.int l1), some (.int l2), some (.int l3), some (.int (l4 + 1))]) (tgt := 39) dX8_stays_68 (by decide) ?_
      exact r_le (L' := [some (.ref b0), some (.int l1), some (.int l2), some (.int l3), some (.int (l4 + 1))]) ⟨rfl, ⟨rfl, ⟨rfl, ⟨rfl, ⟨rfl, trivial⟩⟩⟩⟩⟩ K0
section
theorem sp_X8_stays {x : Cn} {Q : Cn → Prop} {n s m : Nat} {T : TT} {H : Nat → TT} (r : RS x T n H) (hs : s < 24) (hm : m < 24) (q : ∀ y, RFr x y → RS y (stT T s m) n H → Q y) : mSV mX8_stays [.ref 717, .int (nI s), .int (nI m)] KW x Q := by
  let P1 : Nat → TT := fun k i => if 62 + 12 * m ≤ i ∧ i < 62 + 12 * m + k then so T s (i - (62 + 12 * m)) else T i
  let P2 : Nat → TT := fun k i => if 62 + 12 * m + 7 ≤ i ∧ i < 62 + 12 * m + 7 + k then (if i = 62 + 12 * m + 7 then bas T s else 0) else P1 12 i
  have key2 : ∀ c k y, k + c = 5 → RFr x y → RS y (P2 k) n H → GV mX8_stays 39 [some (.ref 717), some (.int (nI s)), some (.int (nI m)), some (.int (bas T s)), some (.int (nI k))] [] KW y Q := by
    intro c
    induction c with
    | zero =>
      intro k y hk f r1
      have : k = 5 := by omega
      subst this
      refine v_X8_stays_39 km ⟨fun _ => sp_X8_lays (k := 4) r1.1 km1 hm (by decide) (q _ f.u8 ?_), fun z => absurd (Int32.le_refl _) z⟩
      have := r1.u8 (k := 62 + 12 * m + 4) (v := 0)
      have e : uT (P2 5) (62 + 12 * m + 4) 0 = stT T s m := by
        funext i
        show (if i = 62 + 12 * m + 4 then 0 else if 62 + 12 * m + 7 ≤ i ∧ i < 62 + 12 * m + 7 + 5 then (if i = 62 + 12 * m + 7 then bas T s else 0) else if 62 + 12 * m ≤ i ∧ i < 62 + 12 * m + 12 then so T s (i - (62 + 12 * m)) else T i) = _
        unfold stT stf
        by_cases c1 : 62 + 12 * m ≤ i ∧ i < 74 + 12 * m
        · rw [if_pos c1]
          by_cases c2 : i = 62 + 12 * m + 4
          · rw [if_pos c2, if_pos (show i - (62 + 12 * m) = 4 by omega)]
          · rw [if_neg c2, if_neg (show ¬ i - (62 + 12 * m) = 4 by omega)]
            by_cases c3 : i = 62 + 12 * m + 7
            · rw [if_pos (show 62 + 12 * m + 7 ≤ i ∧ i < 62 + 12 * m + 7 + 5 by omega), if_pos c3, if_pos (show i - (62 + 12 * m) = 7 by omega)]
            · by_cases c4 : 62 + 12 * m + 7 ≤ i
              · rw [if_pos (show 62 + 12 * m + 7 ≤ i ∧ i < 62 + 12 * m + 7 + 5 by omega), if_neg c3, if_neg (show ¬ i - (62 + 12 * m) = 7 by omega), if_pos (show 8 ≤ i - (62 + 12 * m) by omega)]
              · rw [if_neg (show ¬ (62 + 12 * m + 7 ≤ i ∧ i < 62 + 12 * m + 7 + 5) by omega), if_pos (show 62 + 12 * m ≤ i ∧ i < 62 + 12 * m + 12 by omega), if_neg (show ¬ i - (62 + 12 * m) = 7 by omega), if_neg (show ¬ 8 ≤ i - (62 + 12 * m) by omega)]
        · rw [if_neg c1, if_neg (by omega), if_neg (by omega), if_neg (by omega)]
      rw [e] at this
      exact this
    | succ c ih =>
      intro k y hk f r1
      have e : ∀ v, v = (if k = 0 then bas T s else 0) → uT (P2 k) (62 + 12 * m + (7 + k)) v = P2 (k + 1) := by
        intro v hv
        funext i
        show (if i = 62 + 12 * m + (7 + k) then v else if 62 + 12 * m + 7 ≤ i ∧ i < 62 + 12 * m + 7 + k then (if i = 62 + 12 * m + 7 then bas T s else 0) else P1 12 i) = (if 62 + 12 * m + 7 ≤ i ∧ i < 62 + 12 * m + 7 + (k + 1) then (if i = 62 + 12 * m + 7 then bas T s else 0) else P1 12 i)
        by_cases c1 : i = 62 + 12 * m + (7 + k)
        · rw [if_pos c1, if_pos (by omega), hv]
          by_cases c2 : k = 0
          · rw [if_pos c2, if_pos (by omega)]
          · rw [if_neg c2, if_neg (by omega)]
        · rw [if_neg c1]
          by_cases c2 : 62 + 12 * m + 7 ≤ i ∧ i < 62 + 12 * m + 7 + k
          · rw [if_pos c2, if_pos (show 62 + 12 * m + 7 ≤ i ∧ i < 62 + 12 * m + 7 + (k + 1) by omega)]
          · rw [if_neg c2, if_neg (show ¬ (62 + 12 * m + 7 ≤ i ∧ i < 62 + 12 * m + 7 + (k + 1)) by omega)]
      refine v_X8_stays_39 km ⟨fun z => absurd z (nI_ge (b := 5) (by omega) (by decide)), fun _ => ?_⟩
      rw [show (7 : Int32) + nI k = nI (7 + k) from nI_add 7 k, nI_1, nI_z (by omega)]
      refine ⟨fun c0 => sp_X8_lays (k := 7 + k) r1.1 km1 hm (by omega) (ih (k + 1) _ (by omega) f.u8 ?_), fun c0 => sp_X8_lays (k := 7 + k) r1.1 km1 hm (by omega) (ih (k + 1) _ (by omega) f.u8 ?_)⟩
      · have := r1.u8 (k := 62 + 12 * m + (7 + k)) (v := 0)
        rw [e _ (by rw [if_neg c0])] at this
        exact this
      · have := r1.u8 (k := 62 + 12 * m + (7 + k)) (v := bas T s)
        rw [e _ (by rw [if_pos c0])] at this
        exact this
  have key1 : ∀ c k y, k + c = 12 → RFr x y → RS y (P1 k) n H → GV mX8_stays 9 [some (.ref 717), some (.int (nI s)), some (.int (nI m)), some (.int (bas T s)), some (.int (nI k))] [] KW y Q := by
    intro c
    induction c with
    | zero =>
      intro k y hk f r1
      have : k = 12 := by omega
      subst this
      refine v_X8_stays_9 km r1.1.2.2.1 km1 ⟨fun _ => key2 5 0 y (by omega) f ?_, fun z => absurd (Int32.le_refl _) z⟩
      have e : P2 0 = P1 12 := by
        funext i
        show (if 62 + 12 * m + 7 ≤ i ∧ i < 62 + 12 * m + 7 + 0 then (if i = 62 + 12 * m + 7 then bas T s else 0) else P1 12 i) = _
        rw [if_neg (by omega)]
      rw [e]
      exact r1
    | succ c ih =>
      intro k y hk f r1
      refine v_X8_stays_9 km r1.1.2.2.1 km1 ⟨fun z => absurd z (nI_ge (b := 12) (by omega) (by decide)), fun _ => ⟨l24_nI hs rfl, ⟨nI_pos' (by omega), nI_lt (b := 12) (by omega) (by decide)⟩, ?_⟩⟩
      rw [nI_1, nI_clamp (show k < 2 ^ 31 by omega), nI_clamp (show s < 2 ^ 31 by omega)]
      refine sp_X8_lays (k := k) r1.1 km1 hm (by omega) (ih (k + 1) _ (by omega) f.u8 ?_)
      have := r1.u8 (k := 62 + 12 * m + k) (v := so (gi y 718) s k)
      have e : uT (P1 k) (62 + 12 * m + k) (so (gi y 718) s k) = P1 (k + 1) := by
        funext i
        have e0 : so (gi y 718) s k = so T s k := by
          rw [r1.2.1]
          show (if 62 + 12 * m ≤ 62 + 12 * s + k ∧ 62 + 12 * s + k < 62 + 12 * m + k then _ else T (62 + 12 * s + k)) = _
          by_cases c1 : 62 + 12 * m ≤ 62 + 12 * s + k ∧ 62 + 12 * s + k < 62 + 12 * m + k
          · omega
          · rw [if_neg c1]; rfl
        rw [e0]
        show (if i = 62 + 12 * m + k then so T s k else if 62 + 12 * m ≤ i ∧ i < 62 + 12 * m + k then so T s (i - (62 + 12 * m)) else T i) = (if 62 + 12 * m ≤ i ∧ i < 62 + 12 * m + (k + 1) then so T s (i - (62 + 12 * m)) else T i)
        by_cases c1 : i = 62 + 12 * m + k
        · rw [if_pos c1, if_pos (by omega), c1]
          congr 1
          omega
        · rw [if_neg c1]
          by_cases c2 : 62 + 12 * m ≤ i ∧ i < 62 + 12 * m + k
          · rw [if_pos c2, if_pos (by omega)]
          · rw [if_neg c2, if_neg (by omega)]
      rw [e] at this
      exact this
  refine v_X8_stays_0 km r.1.2.2.1 km1 ⟨l24_nI hs rfl, ?_⟩
  rw [r.2.1, nI_clamp (show s < 2 ^ 31 by omega)]
  refine key1 12 0 x (by omega) (RFr.rf x) ?_
  have e : P1 0 = T := by
    funext i
    show (if 62 + 12 * m ≤ i ∧ i < 62 + 12 * m + 0 then so T s (i - (62 + 12 * m)) else T i) = _
    rw [if_neg (by omega)]
  rw [e]
  exact r
def enS : Nat → TT × Nat → TT × Nat := fun s t => if kw t.1 s 0 then (stT t.1 s t.2, t.2 + 1) else t
theorem enS_t {s : Nat} {t : TT × Nat} (c : kw t.1 s 0) : enS s t = (stT t.1 s t.2, t.2 + 1) := if_pos c
theorem enS_f {s : Nat} {t : TT × Nat} (c : ¬ kw t.1 s 0) : enS s t = t := if_neg c
def enF (T : TT) (S : Nat) : TT := uT (uT (uT (uT (accT enS S (T, 0)).1 2 (nI (accT enS S (T, 0)).2)) 3 0) 4 0) 5 ((accT enS S (T, 0)).1 5 + 1)
theorem en_bd {T : TT} : ∀ s, s ≤ 24 → (accT enS s (T, 0)).2 ≤ s ∧ ∀ i, i < 62 ∨ 350 ≤ i → (accT enS s (T, 0)).1 i = T i := by
  intro s
  induction s with
  | zero => intro _; exact ⟨Nat.le_refl _, fun i _ => rfl⟩
  | succ s ih =>
    intro hs
    obtain ⟨i1, i2⟩ := ih (by omega)
    simp only [accT]
    generalize accT enS s (T, 0) = t at i1 i2 ⊢
    by_cases c : kw t.1 s 0
    · rw [enS_t c]
      exact ⟨Nat.succ_le_succ i1, fun i hi => (stT_off (by omega) hi).trans (i2 i hi)⟩
    · rw [enS_f c]
      exact ⟨by omega, i2⟩
end
set_option maxHeartbeats 2000000 in
theorem v_X8_ends_0 {K : Sh} {x : Cn} {Q : Int32 → Cn → Prop} {b0 : Nat} {b0_1 : Nat} {n_b0_1 : Nat} (k_b0 : kk K b0 = some (8, 0)) (g_b0_1 : gr x b0 1 = some b0_1) (k_b0_1 : kk K b0_1 = some (20, n_b0_1)) (K0 : vp_in 0 n_b0_1 ∧ (((0 < gi x b0_1 0) → (vp_in 4 n_b0_1 ∧ (((gi x b0_1 0) ≤ (gi x b0_1 4) → (mSV mX8_keeps [.ref b0] K x (fun y_5 => GI mX8_ends 36 [some (.ref b0), some (.int 0), some (.int 0)] [] K y_5 Q))) ∧ (¬ (gi x b0_1 0) ≤ (gi x b0_1 4) → (Q (-6) x))))) ∧ (¬ (0 < gi x b0_1 0) → (Q (-2) x)))) : mSI mX8_ends [.ref b0] K x Q := by
  refine s_I (by decide) (by simp [Value.category]) (Nat.le_of_ble_eq_true rfl) ?_
  show mGM mX8_ends 0 [some (.ref b0), none, none] [] (hp K x) (PI K Q)
  refine r_aload_n (pc := 0) dX8_ends_0 rfl ?_
  obtain ⟨i_1, K0⟩ := K0
  refine s_VI (pc := 1) mX8_isThere (ci := 8) (a := b0) (As := []) dX8_ends_1 lk_X8_49 in_X8_isThere mo_X8_isThere ⟨by decide, rfl⟩ ⟨by decide, by decide⟩ (Nat.le_of_ble_eq_true rfl) k_b0 (sp_X8_isThere k_b0 g_b0_1 k_b0_1 i_1 ?_)
  refine r_if_ne (pc := 4) (tgt := 10) dX8_ends_4 (by decide) (fun q => ?_) (fun q => ?_)
  · have q := b2i_nz q
    have K0 := K0.1 q
    refine r_aload_n (pc := 10) dX8_ends_10 rfl ?_
    refine s_getR (pc := 11) dX8_ends_11 fl_X8_9 rfl k_b0 g_b0_1 ?_
    refine r_iconst (pc := 14) (v := 4) dX8_ends_14 (by decide) ?_
    obtain ⟨i_3, K0⟩ := K0
    refine s_iald (pc := 15) dX8_ends_15 k_b0_1 i_3 ?_
    refine r_aload_n (pc := 16) dX8_ends_16 rfl ?_
    refine s_getR (pc := 17) dX8_ends_17 fl_X8_9 rfl k_b0 g_b0_1 ?_
    refine r_iconst (pc := 20) (v := 0) dX8_ends_20 (by decide) ?_
    refine s_iald (pc := 21) dX8_ends_21 k_b0_1 i_1 ?_
    refine r_icmp_ge (pc := 22) (tgt := 28) dX8_ends_22 (by decide) (fun q => ?_) (fun q => ?_)
    · have K0 := K0.1 q
      refine r_aload_n (pc := 28) dX8_ends_28 rfl ?_
      refine s_VV (pc := 29) mX8_keeps (ci := 8) (a := b0) (As := []) dX8_ends_29 lk_X8_366 in_X8_keeps mo_X8_keeps ⟨by decide, rfl⟩ ⟨by decide, by decide⟩ (Nat.le_of_ble_eq_true rfl) k_b0 (mSV_mono K0 (fun y_5 K0 => ?_))
      refine r_iconst (pc := 32) (v := 0) dX8_ends_32 (by decide) ?_
      refine r_istore_n (pc := 33) dX8_ends_33 (by decide) ?_
      refine r_iconst (pc := 34) (L := [some (.ref b0), some (.int 0), none]) (v := 0) dX8_ends_34 (by decide) ?_
      refine r_istore_n (pc := 35) dX8_ends_35 (by decide) ?_
      exact r_le (L' := [some (.ref b0), some (.int 0), some (.int 0)]) ⟨rfl, ⟨rfl, ⟨rfl, trivial⟩⟩⟩ K0
    · have K0 := K0.2 q
      refine r_bipush (pc := 25) (v := (-6)) dX8_ends_25 (by decide) ?_
      exact s_iret rfl dX8_ends_27 K0
  · have q := (b2i_z _).mp q
    have K0 := K0.2 q
    refine r_bipush (pc := 7) (v := (-2)) dX8_ends_7 (by decide) ?_
    exact s_iret rfl dX8_ends_9 K0
set_option maxHeartbeats 2000000 in
theorem v_X8_ends_36 {K : Sh} {x : Cn} {Q : Int32 → Cn → Prop} {b0 : Nat} {l1 : Int32} {l2 : Int32} {b0_1 : Nat} {n_b0_1 : Nat} (k_b0 : kk K b0 = some (8, 0)) (g_b0_1 : gr x b0 1 = some b0_1) (k_b0_1 : kk K b0_1 = some (20, n_b0_1)) (K0 : vp_in 2 n_b0_1 ∧ (((gi x b0_1 2) ≤ l2 → (vp_in 3 n_b0_1 ∧ (vp_in 4 n_b0_1 ∧ (vp_in 5 n_b0_1 ∧ (Q l1 (ui (ui (ui (ui x b0_1 2 l1) b0_1 3 0) b0_1 4 0) b0_1 5 ((gi (ui (ui (ui x b0_1 2 l1) b0_1 3 0) b0_1 4 0) b0_1 5) + 1))))))) ∧ (¬ (gi x b0_1 2) ≤ l2 → (mSI mX8_isKept [.ref b0, .int l2, .int 0] K x (fun r_7 y_6 => (¬ r_7 = 0 → (mSV mX8_stays [.ref b0, .int l2, .int l1] K y_6 (fun y_9 => GI mX8_ends 36 [some (.ref b0), some (.int (l1 + 1)), some (.int (l2 + 1))] [] K y_9 Q))) ∧ (r_7 = 0 → (GI mX8_ends 36 [some (.ref b0), some (.int l1), some (.int (l2 + 1))] [] K y_6 Q))))))) : GI mX8_ends 36 [some (.ref b0), some (.int l1), some (.int l2)] [] K x Q := by
  show mGM mX8_ends 36 [some (.ref b0), some (.int l1), some (.int l2)] [] (hp K x) (PI K Q)
  refine r_iload_n (pc := 36) dX8_ends_36 rfl ?_
  refine r_aload_n (pc := 37) dX8_ends_37 rfl ?_
  refine s_getR (pc := 38) dX8_ends_38 fl_X8_9 rfl k_b0 g_b0_1 ?_
  refine r_iconst (pc := 41) (v := 2) dX8_ends_41 (by decide) ?_
  obtain ⟨i_1, K0⟩ := K0
  refine s_iald (pc := 42) dX8_ends_42 k_b0_1 i_1 ?_
  refine r_icmp_ge (pc := 43) (tgt := 73) dX8_ends_43 (by decide) (fun q => ?_) (fun q => ?_)
  · have K0 := K0.1 q
    refine r_aload_n (pc := 73) dX8_ends_73 rfl ?_
    refine s_getR (pc := 74) dX8_ends_74 fl_X8_9 rfl k_b0 g_b0_1 ?_
    refine r_iconst (pc := 77) (v := 2) dX8_ends_77 (by decide) ?_
    refine r_iload_n (pc := 78) dX8_ends_78 rfl ?_
    refine s_iast (pc := 79) dX8_ends_79 k_b0_1 i_1 ?_
    refine r_aload_n (pc := 80) dX8_ends_80 rfl ?_
    refine s_getR (pc := 81) dX8_ends_81 fl_X8_9 rfl k_b0 g_b0_1 ?_
    refine r_iconst (pc := 84) (v := 3) dX8_ends_84 (by decide) ?_
    refine r_iconst (pc := 85) (v := 0) dX8_ends_85 (by decide) ?_
    obtain ⟨i_3, K0⟩ := K0
    refine s_iast (pc := 86) dX8_ends_86 k_b0_1 i_3 ?_
    refine r_aload_n (pc := 87) dX8_ends_87 rfl ?_
    refine s_getR (pc := 88) dX8_ends_88 fl_X8_9 rfl k_b0 g_b0_1 ?_
    refine r_iconst (pc := 91) (v := 4) dX8_ends_91 (by decide) ?_
    refine r_iconst (pc := 92) (v := 0) dX8_ends_92 (by decide) ?_
    obtain ⟨i_4, K0⟩ := K0
    refine s_iast (pc := 93) dX8_ends_93 k_b0_1 i_4 ?_
    refine r_aload_n (pc := 94) dX8_ends_94 rfl ?_
    refine s_getR (pc := 95) dX8_ends_95 fl_X8_9 rfl k_b0 g_b0_1 ?_
    refine r_iconst (pc := 98) (v := 5) dX8_ends_98 (by decide) ?_
    refine r_dup2 (pc := 99) dX8_ends_99 rfl rfl ?_
    obtain ⟨i_5, K0⟩ := K0
    refine s_iald (pc := 100) dX8_ends_100 k_b0_1 i_5 ?_
    refine r_iconst (pc := 101) (v := 1) dX8_ends_101 (by decide) ?_
    refine r_iadd (pc := 102) dX8_ends_102 ?_
    refine s_iast (pc := 103) dX8_ends_103 k_b0_1 i_5 ?_
    refine r_iload_n (pc := 104) dX8_ends_104 rfl ?_
    exact s_iret rfl dX8_ends_105 K0
  · have K0 := K0.2 q
    refine r_aload_n (pc := 46) dX8_ends_46 rfl ?_
    refine r_iload_n (pc := 47) dX8_ends_47 rfl ?_
    refine r_iconst (pc := 48) (v := 0) dX8_ends_48 (by decide) ?_
    refine s_VI (pc := 49) mX8_isKept (ci := 8) (a := b0) (As := [.int l2, .int 0]) dX8_ends_49 lk_X8_302 in_X8_isKept mo_X8_isKept ⟨by decide, rfl⟩ ⟨by decide, by decide⟩ (Nat.le_of_ble_eq_true rfl) k_b0 (mSI_mono K0 (fun r_7 y_6 K0 => ?_))
    refine r_if_ne (pc := 52) (tgt := 58) dX8_ends_52 (by decide) (fun q => ?_) (fun q => ?_)
    · have K0 := K0.1 q
      refine r_aload_n (pc := 58) dX8_ends_58 rfl ?_
      refine r_iload_n (pc := 59) dX8_ends_59 rfl ?_
      refine r_iload_n (pc := 60) dX8_ends_60 rfl ?_
      refine s_VV (pc := 61) mX8_stays (ci := 8) (a := b0) (As := [.int l2, .int l1]) dX8_ends_61 lk_X8_395 in_X8_stays mo_X8_stays ⟨by decide, rfl⟩ ⟨by decide, by decide⟩ (Nat.le_of_ble_eq_true rfl) k_b0 (mSV_mono K0 (fun y_9 K0 => ?_))
      refine r_iinc (pc := 64) (v := l1 + 1) dX8_ends_64 rfl rfl (by decide) ?_
      refine r_iinc (pc := 67) (L := [some (.ref b0), some (.int (l1 + 1)), some (.int l2)]) (v := l2 + 1) dX8_ends_67 rfl rfl (by decide) ?_
      refine r_goto (pc := 70) (L := [some (.ref b0), some (.int (l1 + 1)), some (.int (l2 + 1))]) (tgt := 36) dX8_ends_70 (by decide) ?_
      exact r_le (L' := [some (.ref b0), some (.int (l1 + 1)), some (.int (l2 + 1))]) ⟨rfl, ⟨rfl, ⟨rfl, trivial⟩⟩⟩ K0
    · have K0 := K0.2 q
      refine r_goto (pc := 55) (tgt := 67) dX8_ends_55 (by decide) ?_
      refine r_iinc (pc := 67) (v := l2 + 1) dX8_ends_67 rfl rfl (by decide) ?_
      refine r_goto (pc := 70) (L := [some (.ref b0), some (.int l1), some (.int (l2 + 1))]) (tgt := 36) dX8_ends_70 (by decide) ?_
      exact r_le (L' := [some (.ref b0), some (.int l1), some (.int (l2 + 1))]) ⟨rfl, ⟨rfl, ⟨rfl, trivial⟩⟩⟩ K0
section
theorem sq_X8_ends {y : Cn} {Q : Int32 → Cn → Prop} {T : TT} {W C S A N n : Nat} {H : Nat → TT} (r : RS y T n H) (F : WF T W C S A N) (k1 : ¬ 0 < nI W → Q (-2) y) (k2 : 0 < nI W → ¬ W ≤ N → Q (-6) y) (k3 : 0 < nI W → W ≤ N → ∀ z, RFr y z → RS z (enF T S) (pn n) (push H n T) → Q (nI (accT enS S (T, 0)).2) z) : mSI mX8_ends [.ref 717] KW y Q := by
  have hS : S ≤ 24 := F.2.2.2.2.2.2.1
  have hW : W ≤ 30 := F.2.2.1
  have hN : N ≤ W := F.2.2.2.2.2.2.2.2.2.2.1
  refine v_X8_ends_0 km r.1.1 km1 ⟨v0 (k := 0) (by decide) rfl rfl, ?_⟩
  rw [r.2.1, F.1, F.2.2.2.2.2.2.2.2.2.1, nI_leI (by omega) (by omega)]
  refine ⟨fun z1 => ⟨v0 (k := 4) (by decide) rfl rfl, fun z2 => r.keeps (fun z f1 r1 => ?_), fun z2 => k2 z1 z2⟩, fun z => k1 z⟩
  have k3 := k3 z1 z2
  refine lp_acc enS (fun s t => t.2 ≤ s → t.1 2 = nI S → ∀ v, RFr y v → RS v t.1 (pn n) (push H n T) → GI mX8_ends 36 [some (.ref 717), some (.int (nI t.2)), some (.int (nI s))] [] KW v Q) S (T, 0) ?_ (fun s t hs n1 => ?_) (Nat.le_refl _) F.2.2.2.2.2.1 z f1 r1
  · intro t0 t2 v f r2
    refine v_X8_ends_36 km r2.1.1 km1 ⟨v0 (k := 2) (by decide) rfl rfl, fun _ => ⟨v0 (k := 3) (by decide) rfl rfl, v0 (k := 4) (by decide) rfl rfl, v0 (k := 5) (by decide) rfl rfl, ?_⟩, fun z => absurd (by rw [r2.2.1, t2]; exact Int32.le_refl _) z⟩
    have e5 : gi (ui (ui (ui v 718 2 (nI (accT enS S (T, 0)).2)) 718 3 0) 718 4 0) 718 5 = (accT enS S (T, 0)).1 5 := by
      simp [gi_ui, r2.2.1]
    rw [e5]
    exact k3 _ f.u8.u8.u8.u8 r2.u8.u8.u8.u8
  · intro t0 t2 v f r2
    refine v_X8_ends_36 km r2.1.1 km1 ⟨v0 (k := 2) (by decide) rfl rfl, fun z => absurd (by rw [r2.2.1, t2] at z; exact z) (nI_ge hs (by omega)), fun _ => sp_X8_isKept r2.1 km1 (by omega) ?_⟩
    rw [nI_1, nI_1, r2.2.1]
    refine ⟨fun z => ?_, fun z => ?_⟩
    · have c := b2i_nz z
      refine sp_X8_stays r2 (by omega) (by omega) (fun w f2 r3 => n1 (stT t.1 s t.2, t.2 + 1) ?_ ?_ ?_ w (f.tr f2) r3)
      · exact enS_t c
      · show t.2 + 1 ≤ s + 1; omega
      · show stT t.1 s t.2 2 = _
        rw [stT_off (by omega) (by omega)]; exact t2
    · have c : ¬ kw t.1 s 0 := (b2i_z _).mp z
      exact n1 t (enS_f c) (by omega) t2 v f r2
def sw (s m j : Nat) : Nat := if j = m then s else if j = s then m else j
theorem sw_lt {s m j : Nat} (hs : s < 24) (hm : m < 24) (hj : j < 24) : sw s m j < 24 := by
  unfold sw
  split
  · exact hs
  · split <;> omega
theorem sw_inj {s m j i : Nat} (h : sw s m j = sw s m i) : j = i := by
  unfold sw at h
  split at h <;> split at h <;> (try split at h) <;> (try split at h) <;> omega
/-- while the season begins anew: rows below m and from s on are shown -/
def ANW (x y : Cn) (q : Nat) (T : TT) (C W S s m : Nat) : Prop := SRf y q ∧ (∀ b k, ¬ (q + 6 ≤ b ∧ b < q + 30) → gi y b k = gi x b k) ∧ (∀ b k, b ≠ q + 3 → gr y b k = gr x b k) ∧ ∀ j p, (j < m ∨ (s ≤ j ∧ j < S)) → gr y (q + 3) j = some p → SER y p T j ∧ Wse T C W j
theorem ANW.st {x y : Cn} {q : Nat} {T : TT} {C W S s m p p' : Nat} (a : ANW x y q T C W S s m) (hs : s < S) (hS : S ≤ 24) (hm : m ≤ s) (hp : gr y (q + 3) s = some p) (hp' : gr y (q + 3) m = some p') {z : Cn} (h1 : ∀ b k, b ≠ p → gi z b k = gi y b k) (h2 : ∀ b k, b ≠ q + 3 → gr z b k = gr y b k) (h3 : ∀ j, gr z (q + 3) j = if j = m then some p else if j = s then some p' else gr y (q + 3) j) (g1 : ∀ j, j < 7 → gi z p j = if j = 4 then 0 else gi y p j) (g2 : gi z p 7 = bas T s) (g3 : ∀ j, 8 ≤ j → j < 12 → gi z p j = 0) : ANW x z q (stT T s m) C W S (s + 1) (m + 1) := by
  obtain ⟨e2, a2, a3, a4⟩ := a
  obtain ⟨r1, r2, r3, r4, r5, r6, r7, r8, r9⟩ := id e2
  have hz : ∀ j, gr z (q + 3) j = gr y (q + 3) (sw s m j) := fun j => by
    rw [h3]
    unfold sw
    by_cases c1 : j = m
    · rw [if_pos c1, if_pos c1, hp]
    · rw [if_neg c1, if_neg c1]
      by_cases c2 : j = s
      · rw [if_pos c2, if_pos c2, hp']
      · rw [if_neg c2, if_neg c2]
  obtain ⟨i0, hi0, ei0⟩ := r6 s (by omega)
  have ep : p = q + 6 + i0 := Option.some.inj (hp.symm.trans ei0)
  refine ⟨⟨?_, ?_, ?_, ?_, ?_, ?_, ?_, ?_, ?_⟩, fun b k hb => (h1 b k (by omega)).trans (a2 b k hb), fun b k hb => (h2 b k hb).trans (a3 b k hb), fun j p2 hj hp2 => ?_⟩
  · rw [h2 q 5 (by omega)]; exact r1
  · rw [h2 q 6 (by omega)]; exact r2
  · rw [h2 q 7 (by omega)]; exact r3
  · rw [h2 q 8 (by omega)]; exact r4
  · rw [h2 q 9 (by omega)]; exact r5
  · intro j hj; rw [hz j]; exact r6 _ (sw_lt (by omega) (by omega) hj)
  · intro j i hj hi; rw [hz j, hz i]; exact fun g => sw_inj (r7 _ _ (sw_lt (by omega) (by omega) hj) (sw_lt (by omega) (by omega) hi) g)
  · intro j hj; rw [h2 (q + 4) j (by omega)]; exact r8 j hj
  · intro j i hj hi; rw [h2 (q + 4) j (by omega), h2 (q + 4) i (by omega)]; exact r9 j i hj hi
  · obtain ⟨s1, s2⟩ := a4 s p (Or.inr ⟨Nat.le_refl _, hs⟩) hp
    rw [hz] at hp2
    by_cases c1 : j = m
    · subst c1
      have : p2 = p := by
        unfold sw at hp2
        rw [if_pos rfl] at hp2
        exact Option.some.inj (hp2.symm.trans hp)
      subst this
      refine ⟨⟨fun k hk h7 => ?_, ?_⟩, s2.sta⟩
      · rw [so_stT hk]
        unfold stf
        by_cases c2 : k < 7
        · rw [g1 k c2]
          by_cases c3 : k = 4
          · rw [if_pos c3, if_pos c3]
          · rw [if_neg c3, if_neg c3, if_neg (by omega), if_neg (by omega)]
            exact s1.1 k (by omega) (by omega)
        · rw [g3 k (by omega) hk, if_neg (by omega), if_neg (by omega), if_pos (by omega)]
      · rw [g2, bas_stT, so_stT (by decide)]
        show _ = bas T s ||| 0
        simp
    · have hjs : j ≠ s := by omega
      have hj2 : sw s m j = j := by
        unfold sw
        rw [if_neg c1, if_neg hjs]
      rw [hj2] at hp2
      have hne : p2 ≠ p := fun e => hjs (r7 j s (by omega) (by omega) (by rw [hp2, hp, e]))
      obtain ⟨t1, t2⟩ := a4 j p2 (by omega) hp2
      exact ⟨t1.cg (fun k _ => h1 p2 k hne) (fun k hk => so_stT' hk c1), t2.cg (fun k hk => so_stT' hk c1)⟩
end
set_option maxHeartbeats 2000000 in
theorem v_X4_startAnew_0 {K : Sh} {x : Cn} {Q : Cn → Prop} {b0 : Nat}   (K0 : GV mX4_startAnew 4 [some (.ref b0), some (.int 0), some (.int 0), none] [] K x Q) : mSV mX4_startAnew [.ref b0] K x Q := by
  refine s_V (by decide) (by simp [Value.category]) (Nat.le_of_ble_eq_true rfl) ?_
  show mGM mX4_startAnew 0 [some (.ref b0), none, none, none] [] (hp K x) (PV K Q)
  refine r_iconst (pc := 0) (v := 0) dX4_startAnew_0 (by decide) ?_
  refine r_istore_n (pc := 1) dX4_startAnew_1 (by decide) ?_
  refine r_iconst (pc := 2) (L := [some (.ref b0), some (.int 0), none, none]) (v := 0) dX4_startAnew_2 (by decide) ?_
  refine r_istore_n (pc := 3) dX4_startAnew_3 (by decide) ?_
  exact r_le (L' := [some (.ref b0), some (.int 0), some (.int 0), none]) ⟨rfl, ⟨rfl, ⟨rfl, trivial⟩⟩⟩ K0
set_option maxHeartbeats 2000000 in
theorem v_X4_startAnew_4 {K : Sh} {x : Cn} {Q : Cn → Prop} {b0 : Nat} {l1 : Int32} {l2 : Int32} {b0_7 : Nat} {n_b0_7 : Nat} (k_b0 : kk K b0 = some (4, 0)) (g_b0_7 : gr x b0 7 = some b0_7) (k_b0_7 : kk K b0_7 = some (23, n_b0_7)) (K0 : ((gi x b0 3) ≤ l2 → (Q (ui (ui (ui (ui x b0 3 l1) b0 4 0) b0 1 0) b0 2 ((gi (ui (ui (ui x b0 3 l1) b0 4 0) b0 1 0) b0 2) + 1)))) ∧ (¬ (gi x b0 3) ≤ l2 → (vp_in l2 n_b0_7 ∧ (∃ c_3 : Nat, gr x b0_7 ((l2 : Int32).toNatClampNeg) = some c_3 ∧ (kk K c_3 = some (5, 0) ∧ ((¬ (f_safe x c_3) → (GV mX4_startAnew 4 [some (.ref b0), some (.int l1), some (.int (l2 + 1)), none] [] K x Q)) ∧ ((f_safe x c_3) → (mSV mX5_openIn [.ref c_3, .int (f_held x c_3)] K x (fun y_7 => gr y_7 b0 7 = some b0_7 ∧ (vp_in l1 n_b0_7 ∧ (∃ c_10 : Nat, gr y_7 b0_7 ((l1 : Int32).toNatClampNeg) = some c_10 ∧ (kk K c_10 = some (5, 0) ∧ (gr (ur (ui y_7 c_3 4 0) b0_7 (l2 : Int32).toNatClampNeg (some c_10)) b0 7 = some b0_7 ∧ (GV mX4_startAnew 4 [some (.ref b0), some (.int (l1 + 1)), some (.int (l2 + 1)), none] [] K (ur (ur (ui y_7 c_3 4 0) b0_7 (l2 : Int32).toNatClampNeg (some c_10)) b0_7 (l1 : Int32).toNatClampNeg (some c_3)) Q)))))))))))))) : GV mX4_startAnew 4 [some (.ref b0), some (.int l1), some (.int l2), none] [] K x Q := by
  show mGM mX4_startAnew 4 [some (.ref b0), some (.int l1), some (.int l2), none] [] (hp K x) (PV K Q)
  refine r_iload_n (pc := 4) dX4_startAnew_4 rfl ?_
  refine r_aload_n (pc := 5) dX4_startAnew_5 rfl ?_
  refine s_getI (pc := 6) dX4_startAnew_6 fl_X4_21 rfl k_b0 ?_
  refine r_icmp_ge (pc := 9) (tgt := 67) dX4_startAnew_9 (by decide) (fun q => ?_) (fun q => ?_)
  · have K0 := K0.1 q
    refine r_aload_n (pc := 67) dX4_startAnew_67 rfl ?_
    refine r_iload_n (pc := 68) dX4_startAnew_68 rfl ?_
    refine s_putI (pc := 69) dX4_startAnew_69 fl_X4_21 rfl rfl k_b0 ?_
    refine r_aload_n (pc := 72) dX4_startAnew_72 rfl ?_
    refine r_iconst (pc := 73) (v := 0) dX4_startAnew_73 (by decide) ?_
    refine s_putI (pc := 74) dX4_startAnew_74 fl_X4_24 rfl rfl k_b0 ?_
    refine r_aload_n (pc := 77) dX4_startAnew_77 rfl ?_
    refine r_iconst (pc := 78) (v := 0) dX4_startAnew_78 (by decide) ?_
    refine s_putI (pc := 79) dX4_startAnew_79 fl_X4_15 rfl rfl k_b0 ?_
    refine r_aload_n (pc := 82) dX4_startAnew_82 rfl ?_
    refine r_dup (pc := 83) dX4_startAnew_83 rfl ?_
    refine s_getI (pc := 84) dX4_startAnew_84 fl_X4_18 rfl k_b0 ?_
    refine r_iconst (pc := 87) (v := 1) dX4_startAnew_87 (by decide) ?_
    refine r_iadd (pc := 88) dX4_startAnew_88 ?_
    refine s_putI (pc := 89) dX4_startAnew_89 fl_X4_18 rfl rfl k_b0 ?_
    exact s_ret rfl dX4_startAnew_92 K0
  · have K0 := K0.2 q
    refine r_aload_n (pc := 12) dX4_startAnew_12 rfl ?_
    refine s_getR (pc := 13) dX4_startAnew_13 fl_X4_36 rfl k_b0 g_b0_7 ?_
    refine r_iload_n (pc := 16) dX4_startAnew_16 rfl ?_
    obtain ⟨i_2, K0⟩ := K0
    obtain ⟨c_3, g_4, K0⟩ := K0
    refine s_aald (pc := 17) dX4_startAnew_17 (by decide) rfl k_b0_7 i_2 g_4 ?_
    refine r_astore_n (pc := 18) dX4_startAnew_18 (by decide) ?_
    refine r_aload_n (pc := 19) (L := [some (.ref b0), some (.int l1), some (.int l2), some (.ref c_3)]) dX4_startAnew_19 rfl ?_
    obtain ⟨e_5, K0⟩ := K0
    refine s_VI (pc := 20) mX5_isSafe (ci := 5) (a := c_3) (As := []) dX4_startAnew_20 lk_X4_154 in_X5_isSafe mo_X5_isSafe ⟨by decide, rfl⟩ ⟨by decide, by decide⟩ (Nat.le_of_ble_eq_true rfl) e_5 (sp_X5_isSafe e_5 ?_)
    refine r_if_eq (pc := 23) (tgt := 61) dX4_startAnew_23 (by decide) (fun q => ?_) (fun q => ?_)
    · have q := (b2i_z _).mp q
      have K0 := K0.1 q
      refine r_iinc (pc := 61) (v := l2 + 1) dX4_startAnew_61 rfl rfl (by decide) ?_
      refine r_goto (pc := 64) (L := [some (.ref b0), some (.int l1), some (.int (l2 + 1)), some (.ref c_3)]) (tgt := 4) dX4_startAnew_64 (by decide) ?_
      exact r_le (L' := [some (.ref b0), some (.int l1), some (.int (l2 + 1)), none]) ⟨rfl, ⟨rfl, ⟨rfl, trivial⟩⟩⟩ K0
    · have q := b2i_nz q
      have K0 := K0.2 q
      refine r_aload_n (pc := 26) dX4_startAnew_26 rfl ?_
      refine r_aload_n (pc := 27) dX4_startAnew_27 rfl ?_
      refine s_VI (pc := 28) mX5_heldBits (ci := 5) (a := c_3) (As := []) dX4_startAnew_28 lk_X4_88 in_X5_heldBits mo_X5_heldBits ⟨by decide, rfl⟩ ⟨by decide, by decide⟩ (Nat.le_of_ble_eq_true rfl) e_5 (sp_X5_heldBits e_5 ?_)
      refine s_VV (pc := 31) mX5_openIn (ci := 5) (a := c_3) (As := [.int (f_held x c_3)]) dX4_startAnew_31 lk_X4_157 in_X5_openIn mo_X5_openIn ⟨by decide, rfl⟩ ⟨by decide, by decide⟩ (Nat.le_of_ble_eq_true rfl) e_5 (mSV_mono K0 (fun y_7 K0 => ?_))
      refine r_aload_n (pc := 34) dX4_startAnew_34 rfl ?_
      refine r_iconst (pc := 35) (v := 0) dX4_startAnew_35 (by decide) ?_
      refine s_putZ (pc := 36) dX4_startAnew_36 fl_X4_137 rfl rfl e_5 (by decide) ?_
      refine r_aload_n (pc := 39) dX4_startAnew_39 rfl ?_
      obtain ⟨g_8, K0⟩ := K0
      refine s_getR (pc := 40) dX4_startAnew_40 fl_X4_36 rfl k_b0 g_8 ?_
      refine r_iload_n (pc := 43) dX4_startAnew_43 rfl ?_
      refine r_aload_n (pc := 44) dX4_startAnew_44 rfl ?_
      refine s_getR (pc := 45) dX4_startAnew_45 fl_X4_36 rfl k_b0 g_8 ?_
      refine r_iload_n (pc := 48) dX4_startAnew_48 rfl ?_
      obtain ⟨i_9, K0⟩ := K0
      obtain ⟨c_10, g_11, K0⟩ := K0
      refine s_aald (pc := 49) dX4_startAnew_49 (by decide) rfl k_b0_7 i_9 g_11 ?_
      obtain ⟨e_12, K0⟩ := K0
      refine s_aast (pc := 50) dX4_startAnew_50 (by decide) (by decide) rfl k_b0_7 e_12 i_2 ?_
      refine r_aload_n (pc := 51) dX4_startAnew_51 rfl ?_
      obtain ⟨g_13, K0⟩ := K0
      refine s_getR (pc := 52) dX4_startAnew_52 fl_X4_36 rfl k_b0 g_13 ?_
      refine r_iload_n (pc := 55) dX4_startAnew_55 rfl ?_
      refine r_aload_n (pc := 56) dX4_startAnew_56 rfl ?_
      refine s_aast (pc := 57) dX4_startAnew_57 (by decide) (by decide) rfl k_b0_7 e_5 i_9 ?_
      refine r_iinc (pc := 58) (v := l1 + 1) dX4_startAnew_58 rfl rfl (by decide) ?_
      refine r_iinc (pc := 61) (L := [some (.ref b0), some (.int (l1 + 1)), some (.int l2), some (.ref c_3)]) (v := l2 + 1) dX4_startAnew_61 rfl rfl (by decide) ?_
      refine r_goto (pc := 64) (L := [some (.ref b0), some (.int (l1 + 1)), some (.int (l2 + 1)), some (.ref c_3)]) (tgt := 4) dX4_startAnew_64 (by decide) ?_
      exact r_le (L' := [some (.ref b0), some (.int (l1 + 1)), some (.int (l2 + 1)), none]) ⟨rfl, ⟨rfl, ⟨rfl, trivial⟩⟩⟩ K0
section
theorem sp_X4_startAnew {x : Cn} {Q : Cn → Prop} {q : Nat} {T : TT} {W C S A N : Nat} (E : SEA x q T W C S A N) (k : ∀ z, (∀ b k, ¬ (q ≤ b ∧ b < q + 54) → gi z b k = gi x b k) → (∀ b k, b ≠ q + 3 → gr z b k = gr x b k) → SEA z q (enF T S) W C (accT enS S (T, 0)).2 0 0 → Q z) : mSV mX4_startAnew [.ref q] KW x Q := by
  have hS : S ≤ 24 := E.nums.2.2.2.2.2.2.1
  have e3 := E.nums.2.2.1
  refine v_X4_startAnew_0 (lp_acc enS (fun s t => t.2 ≤ s → ∀ y, ANW x y q t.1 C W S s t.2 → GV mX4_startAnew 4 [some (.ref q), some (.int (nI t.2)), some (.int (nI s)), none] [] KW y Q) S (T, 0) ?_ (fun s t hs n1 => ?_) (Nat.le_refl _) x ⟨E.2.1, fun _ _ _ => rfl, fun _ _ _ => rfl, fun j p hj hp => ⟨E.2.2.1.2.2.2.2.2.2.1 j p (by omega) hp, E.2.2.2.2.2.2.2.2.2.2.2.2.2.2.2.1 j (by omega)⟩⟩)
  · intro t0 y a
    obtain ⟨b1, b2⟩ := en_bd (T := T) S hS
    obtain ⟨a1, a2, a3, a4⟩ := a
    have e3' : gi y q 3 = nI S := (a2 q 3 (by omega)).trans e3
    refine v_X4_startAnew_4 (ks0 E.1) a1.2.2.1 (ks3 E.1) ⟨fun _ => ?_, fun z => absurd (by rw [e3']; exact Int32.le_refl _) z⟩
    obtain ⟨e1, e2, ⟨v0, v1, v2, v3, v4, v5, v6, v7⟩, w1, w2, w3, w4, w5, w6, w7, w8, w9, w10, w11, w12, w13, w14⟩ := E
    have hF : ∀ i, i ≠ 2 → i ≠ 3 → i ≠ 4 → i ≠ 5 → enF T S i = (accT enS S (T, 0)).1 i := fun i h2 h3 h4 h5 => by
      unfold enF
      rw [uT_ne _ _ h5, uT_ne _ _ h4, uT_ne _ _ h3, uT_ne _ _ h2]
    have hT : ∀ i, i < 62 → i ≠ 2 → i ≠ 3 → i ≠ 4 → i ≠ 5 → enF T S i = T i := fun i h h2 h3 h4 h5 => (hF i h2 h3 h4 h5).trans (b2 i (Or.inl h))
    have e5 : gi (ui (ui (ui y q 3 (nI (accT enS S (T, 0)).2)) q 4 0) q 1 0) q 2 = gi x q 2 := by
      simp only [gi_ui]
      rw [if_neg (by omega), if_neg (by omega), if_neg (by omega)]
      exact a2 q 2 (by omega)
    rw [e5]
    have off : ∀ b i, ¬ (b = q ∧ 1 ≤ i ∧ i ≤ 4) → gi (ui (ui (ui (ui y q 3 (nI (accT enS S (T, 0)).2)) q 4 0) q 1 0) q 2 (gi x q 2 + 1)) b i = gi y b i := fun b i c => by
      simp only [gi_ui]
      rw [if_neg (by omega), if_neg (by omega), if_neg (by omega), if_neg (by omega)]
    refine k _ (fun b i hb => (off b i (by omega)).trans (a2 b i (by omega))) (fun b i hb => a3 b i hb) ⟨e1, a1.keep rfl, ⟨?_, ?_, ?_, ?_, ?_, ?_, ?_, ?_⟩, ?_⟩
    · rw [off q 0 (by omega), a2 q 0 (by omega), hT 0 (by decide) (by decide) (by decide) (by decide) (by decide)]; exact v0
    · simp [gi_ui, enF, uT]
    · simp only [gi_ui, if_true, and_self]
      rw [v2]
      show _ = uT _ 5 _ 5
      rw [uT_at, b2 5 (by omega)]
    · simp [gi_ui, enF, uT]
    · simp [gi_ui, enF, uT]
    · intro h hh
      rw [off (q + 1) h (by omega), off (q + 2) h (by omega), a2 (q + 1) h (by omega), a2 (q + 2) h (by omega), hT _ (by omega) (by omega) (by omega) (by omega) (by omega), hT _ (by omega) (by omega) (by omega) (by omega) (by omega)]
      exact v5 h hh
    · intro j p hj hp
      obtain ⟨i0, hi0, ei0⟩ := a1.2.2.2.2.2.1 j (by omega)
      have ep : p = q + 6 + i0 := Option.some.inj ((show gr y (q + 3) j = some p from hp).symm.trans ei0)
      exact (a4 j p (Or.inl hj) hp).1.cg (fun k _ => off p k (by omega)) (fun k hk => hF _ (by omega) (by omega) (by omega) (by omega))
    · intro j p hj; omega
    · refine ⟨by rw [hT 0 (by decide) (by decide) (by decide) (by decide) (by decide)]; exact w1, w2, w3, by rw [hT 1 (by decide) (by decide) (by decide) (by decide) (by decide)]; exact w4, w5, by simp [enF, uT], by omega, by simp [enF, uT]; rfl, by decide, by simp [enF, uT]; rfl, by omega, fun h hh => by rw [hT _ (by omega) (by omega) (by omega) (by omega) (by omega), hT _ (by omega) (by omega) (by omega) (by omega) (by omega)]; exact w12 h hh, fun j hj => ?_, fun a ha => by omega⟩
      obtain ⟨i0, hi0, ei0⟩ := a1.2.2.2.2.2.1 j (by omega)
      exact (a4 j _ (Or.inl hj) ei0).2.cg (fun k hk => hF _ (by omega) (by omega) (by omega) (by omega))
  · intro t0 y a
    obtain ⟨a1, a2, a3, a4⟩ := id a
    have e3' : gi y q 3 = nI S := (a2 q 3 (by omega)).trans e3
    obtain ⟨i0, hi0, ei0⟩ := a1.2.2.2.2.2.1 s (by omega)
    obtain ⟨i1, hi1, ei1⟩ := a1.2.2.2.2.2.1 t.2 (by omega)
    obtain ⟨s1, s2⟩ := a4 s _ (Or.inr ⟨Nat.le_refl _, hs⟩) ei0
    refine v_X4_startAnew_4 (ks0 E.1) a1.2.2.1 (ks3 E.1) ⟨fun z => absurd (by rw [e3'] at z; exact z) (nI_ge hs (by omega)), fun _ => ?_⟩
    rw [nI_1, nI_1, nI_clamp (show s < 2 ^ 31 by omega), nI_clamp (show t.2 < 2 ^ 31 by omega)]
    refine ⟨vp_in_nI (by omega) (by decide), _, ei0, ks6 E.1 hi0, fun z => ?_, fun z => ?_⟩
    · have c : ¬ kw t.1 s 0 := fun u => z ((s1.safe s2).mpr u)
      refine n1 t (enS_f c) (by omega) y ⟨a1, a2, a3, fun j p hj hp => a4 j p (by omega) hp⟩
    · have c : kw t.1 s 0 := (s1.safe s2).mp z
      refine sp_X5_openIn_at (ks6 E.1 hi0) (fun v f v1 v2 v3 => ?_)
      have hg : ∀ b i, gr v b i = gr y b i := fun b i => by unfold gr; rw [f.1]
      refine ⟨(hg q 7).trans a1.2.2.1, vp_in_nI (by omega) (by decide), _, (hg _ _).trans ei1, ks6 E.1 hi1, ?_, n1 (stT t.1 s t.2, t.2 + 1) (enS_t c) (show t.2 + 1 ≤ s + 1 by omega) _ (a.st hs hS t0 ei0 ei1 (fun b i hb => ?_) (fun b i hb => ?_) (fun j => ?_) (fun j hj => ?_) ?_ (fun j h8 h12 => ?_))⟩
      · rw [gr_ur, if_neg (by omega), gr_ui, hg]; exact a1.2.2.1
      · rw [gi_ur, gi_ur, gi_ui, if_neg (fun z => hb z.1)]; exact f.2 b i hb
      · rw [gr_ur, if_neg (fun z => hb z.1), gr_ur, if_neg (fun z => hb z.1), gr_ui]; exact hg b i
      · rw [gr_ur, gr_ur, gr_ui]
        by_cases c1 : j = t.2
        · rw [if_pos ⟨rfl, c1⟩, if_pos c1]
        · rw [if_neg (fun z => c1 z.2), if_neg c1]
          by_cases c2 : j = s
          · rw [if_pos ⟨rfl, c2⟩, if_pos c2]
          · rw [if_neg (fun z => c2 z.2), if_neg c2]; exact hg _ _
      · rw [gi_ur, gi_ur, gi_ui]
        by_cases c1 : j = 4
        · rw [if_pos ⟨rfl, c1⟩, if_pos c1]
        · rw [if_neg (fun z => c1 z.2), if_neg c1]; exact v1 j hj
      · rw [gi_ur, gi_ur, gi_ui, if_neg (by omega), v2]; exact s1.held s2
      · rw [gi_ur, gi_ur, gi_ui, if_neg (by omega)]; exact v3 j h8 h12
end
set_option maxHeartbeats 2000000 in
theorem v_X7_ends_0 {K : Sh} {x : Cn} {Q : Int32 → Cn → Prop} {b0 : Nat} {b0_2 : Nat} (k_b0 : kk K b0 = some (7, 0)) (g_b0_2 : gr x b0 2 = some b0_2) (k_b0_2 : kk K b0_2 = some (4, 0)) (K0 : ((0 < gi x b0_2 0) → (((gi x b0_2 0 ≤ gi x b0_2 1) → (mSV mX7_remember [.ref b0] K x (fun y_3 => gr y_3 b0 2 = some b0_2 ∧ (mSV mX4_startAnew [.ref b0_2] K y_3 (fun y_5 => gr y_5 b0 2 = some b0_2 ∧ (Q (gi y_5 b0_2 3) y_5)))))) ∧ (¬ (gi x b0_2 0 ≤ gi x b0_2 1) → (Q (-6) x)))) ∧ (¬ (0 < gi x b0_2 0) → (Q (-2) x))) : mSI mX7_ends [.ref b0] K x Q := by
  refine s_I (by decide) (by simp [Value.category]) (Nat.le_of_ble_eq_true rfl) ?_
  show mGM mX7_ends 0 [some (.ref b0)] [] (hp K x) (PI K Q)
  refine r_aload_n (pc := 0) dX7_ends_0 rfl ?_
  refine s_VI (pc := 1) mX7_hasText (ci := 7) (a := b0) (As := []) dX7_ends_1 lk_X7_121 in_X7_hasText mo_X7_hasText ⟨by decide, rfl⟩ ⟨by decide, by decide⟩ (Nat.le_of_ble_eq_true rfl) k_b0 (sp_X7_hasText k_b0 g_b0_2 k_b0_2 ?_)
  refine r_if_ne (pc := 4) (tgt := 10) dX7_ends_4 (by decide) (fun q => ?_) (fun q => ?_)
  · have q := b2i_nz q
    have K0 := K0.1 q
    refine r_aload_n (pc := 10) dX7_ends_10 rfl ?_
    refine s_getR (pc := 11) dX7_ends_11 fl_X7_20 rfl k_b0 g_b0_2 ?_
    refine s_VI (pc := 14) mX4_isOver (ci := 4) (a := b0_2) (As := []) dX7_ends_14 lk_X7_279 in_X4_isOver mo_X4_isOver ⟨by decide, rfl⟩ ⟨by decide, by decide⟩ (Nat.le_of_ble_eq_true rfl) k_b0_2 (sp_X4_isOver k_b0_2 ?_)
    refine r_if_ne (pc := 17) (tgt := 23) dX7_ends_17 (by decide) (fun q => ?_) (fun q => ?_)
    · have q := b2i_nz q
      have K0 := K0.1 q
      refine r_aload_n (pc := 23) dX7_ends_23 rfl ?_
      refine s_VV (pc := 24) mX7_remember (ci := 7) (a := b0) (As := []) dX7_ends_24 lk_X7_333 in_X7_remember mo_X7_remember ⟨by decide, rfl⟩ ⟨by decide, by decide⟩ (Nat.le_of_ble_eq_true rfl) k_b0 (mSV_mono K0 (fun y_3 K0 => ?_))
      refine r_aload_n (pc := 27) dX7_ends_27 rfl ?_
      obtain ⟨g_4, K0⟩ := K0
      refine s_getR (pc := 28) dX7_ends_28 fl_X7_20 rfl k_b0 g_4 ?_
      refine s_VV (pc := 31) mX4_startAnew (ci := 4) (a := b0_2) (As := []) dX7_ends_31 lk_X7_376 in_X4_startAnew mo_X4_startAnew ⟨by decide, rfl⟩ ⟨by decide, by decide⟩ (Nat.le_of_ble_eq_true rfl) k_b0_2 (mSV_mono K0 (fun y_5 K0 => ?_))
      refine r_aload_n (pc := 34) dX7_ends_34 rfl ?_
      obtain ⟨g_6, K0⟩ := K0
      refine s_getR (pc := 35) dX7_ends_35 fl_X7_20 rfl k_b0 g_6 ?_
      refine s_getI (pc := 38) dX7_ends_38 fl_X7_97 rfl k_b0_2 ?_
      exact s_iret rfl dX7_ends_41 K0
    · have q := (b2i_z _).mp q
      have K0 := K0.2 q
      refine r_bipush (pc := 20) (v := (-6)) dX7_ends_20 (by decide) ?_
      exact s_iret rfl dX7_ends_22 K0
  · have q := (b2i_z _).mp q
    have K0 := K0.2 q
    refine r_bipush (pc := 7) (v := (-2)) dX7_ends_7 (by decide) ?_
    exact s_iret rfl dX7_ends_9 K0
theorem eq_drop (a : Int32) : Both mX7_drop mX8_drop [.int a] := by
  intro x R
  obtain ⟨W, C, S, A, N, n, H, ac, rs, nm⟩ := R.ac
  have E := ac.2.2.2.2
  have hn := E.nums
  have hA : A ≤ 24 := hn.2.2.2.2.2.2.2.1
  have hC : C ≤ 8 := hn.2.2.2.2.2.1
  refine v_X7_drop_0 k0 R.1.2.1 (ks0 E.1) ?_
  rw [hn.2.2.2.1]
  refine ⟨fun z => ac.rem (fun _ _ => rfl) (fun y ay y1 y2 => ⟨ay.2.1.2.1, ?_⟩), fun z => sq_X8_drop rs E.2.2.2 (fun _ => ⟨rfl, R⟩) (fun b hb hb2 => absurd ⟨hb ▸ nI_pos' (by omega), hb ▸ nI_lt hb2 (by omega)⟩ z)⟩
  obtain ⟨b, hb, rfl⟩ := inN (by omega) z
  refine sp_X4_removeAsk ay.2.2.2.2 hb (fun v v1 v2 v3 v4 => ?_)
  have a2 : AC x v W C S (A - 1) N (pn n) (drT (gi x 718) b A) (push H n (gi x 718)) := ay.up2 (fun d i hd => v1 d i (by omega)) (fun d i hd => v3 d i (by omega)) (ay.2.2.2.2.drop hb v1 v2 v3 v4)
  refine ⟨a2.2.1.2.1, ?_⟩
  rw [v2]
  exact sq_X8_drop (a2.rs rs) E.2.2.2 (fun u => absurd z u) (fun b' hb' hb2 w f2 r2 => ⟨rfl, by
    have : b' = b := ((nI_eq (by omega) (by omega)).mp hb').symm
    subst this
    exact a2.fin R nm (fun c hc => drT_off (by omega) (by omega)) f2 r2⟩)
theorem eq_ends : Both mX7_ends mX8_ends [] := by
  intro x R
  obtain ⟨W, C, S, A, N, n, H, ac, rs, nm⟩ := R.ac
  have E := ac.2.2.2.2
  have hn := E.nums
  have hS : S ≤ 24 := hn.2.2.2.2.2.2.1
  have hC : C ≤ 8 := hn.2.2.2.2.2.1
  have hW : W ≤ 30 := hn.2.2.2.2.1
  have hN : N ≤ W := hn.2.2.2.2.2.2.2.2
  refine v_X7_ends_0 k0 R.1.2.1 (ks0 E.1) ?_
  rw [hn.1, hn.2.1, nI_leI (by omega) (by omega)]
  refine ⟨fun z1 => ⟨fun z2 => ac.rem (fun _ _ => rfl) (fun y ay y1 y2 => ⟨ay.2.1.2.1, sp_X4_startAnew ay.2.2.2.2 (fun v v1 v2 v3 => ?_)⟩), fun z2 => sq_X8_ends rs E.2.2.2 (fun u => absurd z1 u) (fun _ _ => ⟨rfl, R⟩) (fun _ u => absurd u z2)⟩, fun z => sq_X8_ends rs E.2.2.2 (fun _ => ⟨rfl, R⟩) (fun u => absurd u z) (fun u => absurd u z)⟩
  have a2 : AC x v W C (accT enS S (gi x 718, 0)).2 0 0 (pn n) (enF (gi x 718) S) (push H n (gi x 718)) := ay.up2 (fun d i hd => v1 d i (by omega)) (fun d i hd => v2 d i (by omega)) v3
  refine ⟨a2.2.1.2.1, ?_⟩
  rw [v3.nums.2.2.1]
  refine sq_X8_ends (a2.rs rs) E.2.2.2 (fun u => absurd z1 u) (fun _ u => absurd z2 u) (fun _ _ w f2 r2 => ⟨rfl, a2.fin R nm (fun c hc => ?_) f2 r2⟩)
  unfold enF
  rw [uT_ne _ _ (by omega), uT_ne _ _ (by omega), uT_ne _ _ (by omega), uT_ne _ _ (by omega)]
  exact (en_bd S hS).2 _ (by omega)
end

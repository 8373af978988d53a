/-- an hour would have more than so many -/
def abv (T : TT) (S W N h n m : Nat) : Prop := ∃ i d, N ≤ i ∧ i < W ∧ d < 7 ∧ (n < nW T S i (nI d) (nI h) 0 0 ∨ m < nW T S i (nI d) (nI h) 1 0)
theorem nW_le (T : TT) {S : Nat} (hS : S ≤ 24) (i : Nat) (d h io wo : Int32) : nW T S i d h io wo ≤ 24 := Nat.le_trans (cnt_le _ _) hS
set_option maxHeartbeats 2000000 in
theorem v_X4_holdsMore_0 {K : Sh} {x : Cn} {Q : Int32 → Cn → Prop} {b0 : Nat} {l1 : Int32} {l2 : Int32} {l3 : Int32}   (K0 : GI mX4_holdsMore 6 [some (.ref b0), some (.int l1), some (.int l2), some (.int l3), some (.int 0), some (.int 0)] [] K x Q) : mSI mX4_holdsMore [.ref b0, .int l1, .int l2, .int l3] K x Q := by
  refine s_I (by decide) (by simp [Value.category]) (Nat.le_of_ble_eq_true rfl) ?_
  show mGM mX4_holdsMore 0 [some (.ref b0), some (.int l1), some (.int l2), some (.int l3), none, none] [] (hp K x) (PI K Q)
  refine r_iconst (pc := 0) (v := 0) dX4_holdsMore_0 (by decide) ?_
  refine r_istore (pc := 1) dX4_holdsMore_1 (by decide) ?_
  refine r_iconst (pc := 3) (L := [some (.ref b0), some (.int l1), some (.int l2), some (.int l3), some (.int 0), none]) (v := 0) dX4_holdsMore_3 (by decide) ?_
  refine r_istore (pc := 4) dX4_holdsMore_4 (by decide) ?_
  exact r_le (L' := [some (.ref b0), some (.int l1), some (.int l2), some (.int l3), some (.int 0), some (.int 0)]) ⟨rfl, ⟨rfl, ⟨rfl, ⟨rfl, ⟨rfl, ⟨rfl, trivial⟩⟩⟩⟩⟩⟩ K0
set_option maxHeartbeats 2000000 in
theorem v_X4_holdsMore_6 {K : Sh} {x : Cn} {Q : Int32 → Cn → Prop} {b0 : Nat} {l1 : Int32} {l2 : Int32} {l3 : Int32} {l4 : Int32} {l5 : Int32}  (k_b0 : kk K b0 = some (4, 0)) (K0 : (7 ≤ l5 → (((l4 &&& (f_wtc (gi x b0 1) (gi x b0 0))) = 0 → (Q 0 x)) ∧ (¬ (l4 &&& (f_wtc (gi x b0 1) (gi x b0 0))) = 0 → (Q 1 x)))) ∧ (¬ 7 ≤ l5 → (mSI mX4_weeksLoaded [.ref b0, .int l5, .int l1, .int (l2 + 1), .int 0, .int 0] K x (fun r_4 y_3 => mSI mX4_weeksLoaded [.ref b0, .int l5, .int l1, .int (l3 + 1), .int 1, .int 0] K y_3 (fun r_6 y_5 => GI mX4_holdsMore 6 [some (.ref b0), some (.int l1), some (.int l2), some (.int l3), some (.int ((l4 ||| r_4) ||| r_6)), some (.int (l5 + 1))] [] K y_5 Q))))) : GI mX4_holdsMore 6 [some (.ref b0), some (.int l1), some (.int l2), some (.int l3), some (.int l4), some (.int l5)] [] K x Q := by
  show mGM mX4_holdsMore 6 [some (.ref b0), some (.int l1), some (.int l2), some (.int l3), some (.int l4), some (.int l5)] [] (hp K x) (PI K Q)
  refine r_iload (pc := 6) dX4_holdsMore_6 rfl ?_
  refine r_bipush (pc := 8) (v := 7) dX4_holdsMore_8 (by decide) ?_
  refine r_icmp_ge (pc := 10) (tgt := 53) dX4_holdsMore_10 (by decide) (fun q => ?_) (fun q => ?_)
  · have K0 := K0.1 q
    refine r_iload (pc := 53) dX4_holdsMore_53 rfl ?_
    refine r_aload_n (pc := 55) dX4_holdsMore_55 rfl ?_
    refine s_VI (pc := 56) mX4_weeksToCome (ci := 4) (a := b0) (As := []) dX4_holdsMore_56 lk_X4_141 in_X4_weeksToCome mo_X4_weeksToCome ⟨by decide, rfl⟩ ⟨by decide, by decide⟩ (Nat.le_of_ble_eq_true rfl) k_b0 (sp_X4_weeksToCome k_b0 ?_)
    refine r_iand (pc := 59) dX4_holdsMore_59 ?_
    refine r_if_eq (pc := 60) (tgt := 67) dX4_holdsMore_60 (by decide) (fun q => ?_) (fun q => ?_)
    · have K0 := K0.1 q
      refine r_iconst (pc := 67) (v := 0) dX4_holdsMore_67 (by decide) ?_
      exact s_zret rfl (by decide) dX4_holdsMore_68 K0
    · have K0 := K0.2 q
      refine r_iconst (pc := 63) (v := 1) dX4_holdsMore_63 (by decide) ?_
      refine r_goto (pc := 64) (tgt := 68) dX4_holdsMore_64 (by decide) ?_
      exact s_zret rfl (by decide) dX4_holdsMore_68 K0
  · have K0 := K0.2 q
    refine r_iload (pc := 13) dX4_holdsMore_13 rfl ?_
    refine r_aload_n (pc := 15) dX4_holdsMore_15 rfl ?_
    refine r_iload (pc := 16) dX4_holdsMore_16 rfl ?_
    refine r_iload_n (pc := 18) dX4_holdsMore_18 rfl ?_
    refine r_iload_n (pc := 19) dX4_holdsMore_19 rfl ?_
    refine r_iconst (pc := 20) (v := 1) dX4_holdsMore_20 (by decide) ?_
    refine r_iadd (pc := 21) dX4_holdsMore_21 ?_
    refine r_iconst (pc := 22) (v := 0) dX4_holdsMore_22 (by decide) ?_
    refine r_iconst (pc := 23) (v := 0) dX4_holdsMore_23 (by decide) ?_
    refine s_VI (pc := 24) mX4_weeksLoaded (ci := 4) (a := b0) (As := [.int l5, .int l1, .int (l2 + 1), .int 0, .int 0]) dX4_holdsMore_24 lk_X4_96 in_X4_weeksLoaded mo_X4_weeksLoaded ⟨by decide, rfl⟩ ⟨by decide, by decide⟩ (Nat.le_of_ble_eq_true rfl) k_b0 (mSI_mono K0 (fun r_4 y_3 K0 => ?_))
    refine r_ior (pc := 27) dX4_holdsMore_27 ?_
    refine r_istore (pc := 28) dX4_holdsMore_28 (by decide) ?_
    refine r_iload (pc := 30) (L := [some (.ref b0), some (.int l1), some (.int l2), some (.int l3), some (.int (l4 ||| r_4)), some (.int l5)]) dX4_holdsMore_30 rfl ?_
    refine r_aload_n (pc := 32) dX4_holdsMore_32 rfl ?_
    refine r_iload (pc := 33) dX4_holdsMore_33 rfl ?_
    refine r_iload_n (pc := 35) dX4_holdsMore_35 rfl ?_
    refine r_iload_n (pc := 36) dX4_holdsMore_36 rfl ?_
    refine r_iconst (pc := 37) (v := 1) dX4_holdsMore_37 (by decide) ?_
    refine r_iadd (pc := 38) dX4_holdsMore_38 ?_
    refine r_iconst (pc := 39) (v := 1) dX4_holdsMore_39 (by decide) ?_
    refine r_iconst (pc := 40) (v := 0) dX4_holdsMore_40 (by decide) ?_
    refine s_VI (pc := 41) mX4_weeksLoaded (ci := 4) (a := b0) (As := [.int l5, .int l1, .int (l3 + 1), .int 1, .int 0]) dX4_holdsMore_41 lk_X4_96 in_X4_weeksLoaded mo_X4_weeksLoaded ⟨by decide, rfl⟩ ⟨by decide, by decide⟩ (Nat.le_of_ble_eq_true rfl) k_b0 (mSI_mono K0 (fun r_6 y_5 K0 => ?_))
    refine r_ior (pc := 44) dX4_holdsMore_44 ?_
    refine r_istore (pc := 45) dX4_holdsMore_45 (by decide) ?_
    refine r_iinc (pc := 47) (L := [some (.ref b0), some (.int l1), some (.int l2), some (.int l3), some (.int ((l4 ||| r_4) ||| r_6)), some (.int l5)]) (v := l5 + 1) dX4_holdsMore_47 rfl rfl (by decide) ?_
    refine r_goto (pc := 50) (L := [some (.ref b0), some (.int l1), some (.int l2), some (.int l3), some (.int ((l4 ||| r_4) ||| r_6)), some (.int (l5 + 1))]) (tgt := 6) dX4_holdsMore_50 (by decide) ?_
    exact r_le (L' := [some (.ref b0), some (.int l1), some (.int l2), some (.int l3), some (.int ((l4 ||| r_4) ||| r_6)), some (.int (l5 + 1))]) ⟨rfl, ⟨rfl, ⟨rfl, ⟨rfl, ⟨rfl, ⟨rfl, trivial⟩⟩⟩⟩⟩⟩ K0
section
variable {x : Cn} {Q : Int32 → Cn → Prop}
theorem sp_X4_holdsMore {q : Nat} {T : TT} {W C S A N : Nat} (E : SEA x q T W C S A N) {h n m : Nat} (hh : h < 24) (hn9 : n ≤ 9) (hm9 : m ≤ 9) (k : ∀ y, EQx x y (q + 5) → Q (bP (abv T S W N h n m)) y) : mSI mX4_holdsMore [.ref q, .int (nI h), .int (nI n), .int (nI m)] KW x Q := by
  have hn := E.nums
  have hS : S ≤ 24 := hn.2.2.2.2.2.2.1
  have hW : W ≤ 30 := hn.2.2.2.2.1
  have hN : N ≤ W := hn.2.2.2.2.2.2.2.2
  have key : ∀ c d l y, d + c = 7 → EQx x y (q + 5) → (∀ i, i < 32 → (tb l i = true ↔ ∃ d', d' < d ∧ (n < nW T S i (nI d') (nI h) 0 0 ∨ m < nW T S i (nI d') (nI h) 1 0))) → GI mX4_holdsMore 6 [some (.ref q), some (.int (nI h)), some (.int (nI n)), some (.int (nI m)), some (.int l), some (.int (nI d))] [] KW y Q := by
    intro c
    induction c with
    | zero =>
      intro d l y hd hy hl
      have : d = 7 := by omega
      subst this
      have hy2 := (E.eqx hy (Or.inl rfl)).nums
      refine v_X4_holdsMore_6 (ks0 E.1) ⟨fun _ => ?_, fun z => absurd (Int32.le_refl _) z⟩
      rw [hy2.1, hy2.2.1]
      have iff : (l &&& f_wtc (nI N) (nI W)) = 0 ↔ ¬ abv T S W N h n m := by
        constructor
        · rintro u ⟨i, d, h1, h2, h3, h4⟩
          have v := congrArg (fun v => tb v i) u
          simp only [tb_0, tb_and, tb_wtc hW hN (show i < 32 by omega), decide_eq_true (show N ≤ i ∧ i < W from ⟨h1, h2⟩), Bool.and_true] at v
          have := (hl i (by omega)).mpr ⟨d, h3, h4⟩
          rw [v] at this
          cases this
        · intro u
          apply tb_ext
          intro i hi
          rw [tb_0, tb_and, tb_wtc hW hN hi]
          by_cases e : N ≤ i ∧ i < W
          · have : ¬ tb l i = true := fun g => by
              obtain ⟨d', h3, h4⟩ := (hl i hi).mp g
              exact u ⟨i, d', e.1, e.2, h3, h4⟩
            rw [Bool.eq_false_iff.mpr this, Bool.false_and]
          · rw [decide_eq_false e, Bool.and_false]
      rw [iff]
      exact ⟨fun u => (bP_k (k y hy)).2 u, fun u => (bP_k (k y hy)).1 (Classical.byContradiction u)⟩
    | succ c ih =>
      intro d l y hd hy hl
      refine v_X4_holdsMore_6 (ks0 E.1) ⟨fun z => absurd z (nI_ge (b := 7) (by omega) (by decide)), fun _ => ?_⟩
      rw [nI_1, nI_1, nI_1]
      have E2 := E.eqx hy (Or.inl rfl)
      refine sp_X4_weeksLoaded E2 (fun r1 y1 hy1 hr1 => ?_)
      refine sp_X4_weeksLoaded (E2.eqx hy1 (Or.inl rfl)) (fun r2 y2 hy2 hr2 => ?_)
      refine ih (d + 1) _ y2 (by omega) ((hy.tr hy1).tr hy2) (fun i hi => ?_)
      have b1 := nW_le T hS i (nI d) (nI h) 0 0
      have b2 := nW_le T hS i (nI d) (nI h) 1 0
      have u1 := hr1 i hi
      have u2 := hr2 i hi
      rw [nI_leI (by omega) (by omega)] at u1 u2
      rw [tb_or, tb_or, Bool.or_eq_true, Bool.or_eq_true, hl i hi, u1, u2]
      constructor
      · rintro ((⟨d', g1, g2⟩ | g) | g)
        · exact ⟨d', by omega, g2⟩
        · exact ⟨d, by omega, Or.inl (by omega)⟩
        · exact ⟨d, by omega, Or.inr (by omega)⟩
      · rintro ⟨d', g1, g2⟩
        by_cases e : d' = d
        · rw [e] at g2
          rcases g2 with g | g
          · exact Or.inl (Or.inr (by omega))
          · exact Or.inr (by omega)
        · exact Or.inl (Or.inl ⟨d', by omega, g2⟩)
  exact v_X4_holdsMore_0 (key 7 0 0 x (by omega) (EQx.rf _ _) (fun i hi => by
    rw [tb_0]
    exact ⟨fun z => (by cases z), fun ⟨d', g, _⟩ => by omega⟩))
end

theorem lb_X4_weeksLoaded_49 {x : Cn} {Q : Int32 → Cn → Prop} {q : Nat} {T : TT} {W C S A N : Nat} (E : SEB x q T W C S A N) {d h io wo : Int32} {m : Nat} (hm : m ≤ S)
    (k : ∀ r y, EQx x y (q + 5) → isWL T S d h io wo (nI m) r → Q r y) :
    ∀ (n s : Nat) (y : Cn), s + n = S → EQx x y (q + 5) → (∀ j, j ≤ m → ∀ i, i < 32 → tb (gi y (q + 5) j) i = decide (j ≤ nW T s i d h io wo)) → GI mX4_weeksLoaded 49 [some (.ref q), some (.int d), some (.int h), some (.int (nI m)), some (.int io), some (.int wo), some (.int (nI s)), none, none, none] [] KW y Q := by
  have hS := E.nums.2.2.2.2.2.2.1
  intro n
  induction n with
  | zero =>
    intro s y hs hy h0
    have E2 := E.eqx hy (Or.inl rfl)
    have hn := E2.nums
    refine v_X4_weeksLoaded_49 (ks0 E.1) E2.2.1.2.2.2.2.1 (ks5 E.1) E2.2.1.2.2.1 (ks3 E.1) ⟨fun _ => ⟨vp_in_nI (by omega) (by decide), ?_⟩, fun z => ?_⟩
    · rw [nI_clamp (by omega)]
      refine k _ y hy (fun i hi => ?_)
      have hc : nW T S i d h io wo ≤ S := cnt_le _ _
      rw [h0 m (Nat.le_refl _) i hi, decide_eq_true_iff, show s = S by omega, nI_leI (by omega) (by omega)]
    · exact absurd (by rw [hn.2.2.1]; exact nI_le (by omega) (by omega)) z
  | succ n ih =>
    intro s y hs hy h0
    have E2 := E.eqx hy (Or.inl rfl)
    have hn := E2.nums
    obtain ⟨p, e1, e2, e3, e4, -, -⟩ := E2.ser (s := s) (by omega)
    have skip : ¬ (so T s 1 = d ∧ so T s 2 = h ∧ ¬ tb wo s = true ∧ (so T s 3 = 0 ∨ io = 0)) → GI mX4_weeksLoaded 49 [some (.ref q), some (.int d), some (.int h), some (.int (nI m)), some (.int io), some (.int wo), some (.int (nI s + 1)), none, none, none] [] KW y Q := by
      intro z
      rw [nI_1]
      refine ih (s + 1) y (by omega) hy (fun j hj i hi => ?_)
      rw [h0 j hj i hi]
      have : nW T (s + 1) i d h io wo = nW T s i d h io wo + (if cW T s i d h io wo = true then 1 else 0) := rfl
      rw [this, show cW T s i d h io wo = false by unfold cW; rw [decide_eq_false z]; rfl]
      rfl
    have take : (so T s 1 = d ∧ so T s 2 = h ∧ ¬ tb wo s = true ∧ (so T s 3 = 0 ∨ io = 0)) → GI mX4_weeksLoaded 118 [some (.ref q), some (.int d), some (.int h), some (.int (nI m)), some (.int io), some (.int wo), some (.int (nI s)), some (.ref p), some (.int (f_held y p)), some (.int (nI m))] [] KW y Q := by
      intro z
      refine lb_X4_weeksLoaded_118 E (by omega) (fun i hi => ?_) (by omega) (fun y2 hy2 g => ih (s + 1) y2 (by omega) hy2 g) m y (Nat.le_refl _) hy h0 (fun j h1 h2 => by omega)
      rw [e4]
      unfold cW
      rw [decide_eq_true z]
      simp
    refine v_X4_weeksLoaded_49 (ks0 E.1) E2.2.1.2.2.2.2.1 (ks5 E.1) E2.2.1.2.2.1 (ks3 E.1) ⟨fun z => ?_, fun _ => ⟨vp_in_nI (by omega) (by decide), p, by rw [nI_clamp (by omega)]; exact e1, e2, ?_⟩⟩
    · rw [hn.2.2.1] at z
      exact absurd z (nI_ge (by omega) (by omega))
    · rw [e3.1 1 (by decide) (by decide), e3.1 2 (by decide) (by decide), e3.1 3 (by decide) (by decide), f_bit_tb _ (by omega)]
      exact ⟨fun z => skip (fun g => z g.1), fun z1 => ⟨fun z => skip (fun g => z g.2.1), fun z2 => ⟨fun z => skip (fun g => g.2.2.1 z), fun z3 => ⟨fun z => take ⟨z1, z2, z3, Or.inl z⟩, fun z4 => ⟨fun z => skip (fun g => g.2.2.2.elim z4 z), fun z => take ⟨z1, z2, z3, Or.inr z⟩⟩⟩⟩⟩⟩
theorem lb_X4_weeksLoaded_26 {x : Cn} {Q : Int32 → Cn → Prop} {q : Nat} {T : TT} {W C S A N : Nat} (E : SEB x q T W C S A N) {d h io wo : Int32} {m : Nat} (hm : m ≤ S)
    (k : ∀ r y, EQx x y (q + 5) → isWL T S d h io wo (nI m) r → Q r y) :
    ∀ (n j : Nat) (y : Cn), j + n = m + 1 → 1 ≤ j → EQx x y (q + 5) → gi y (q + 5) 0 = -1 → (∀ i, 1 ≤ i → i < j → gi y (q + 5) i = 0) → GI mX4_weeksLoaded 26 [some (.ref q), some (.int d), some (.int h), some (.int (nI m)), some (.int io), some (.int wo), some (.int (nI j)), none, none, none] [] KW y Q := by
  have hS := E.nums.2.2.2.2.2.2.1
  intro n
  induction n with
  | zero =>
    intro j y hj h1 hy g0 g1
    have E2 := E.eqx hy (Or.inl rfl)
    refine v_X4_weeksLoaded_26 (ks0 E.1) E2.2.1.2.2.2.2.1 (ks5 E.1) ⟨fun _ => ?_, fun z => ?_⟩
    · refine lb_X4_weeksLoaded_49 E hm k S 0 y (by omega) hy (fun i hi b hb => ?_)
      rcases Nat.eq_zero_or_pos i with rfl | hp
      · rw [g0, tb_m1 hb]
        simp
      · rw [g1 i hp (by omega), tb_0]
        show false = decide (i ≤ 0)
        rw [decide_eq_false (by omega)]
    · exact absurd (nI_lt (show m < j by omega) (by omega)) z
  | succ n ih =>
    intro j y hj h1 hy g0 g1
    have E2 := E.eqx hy (Or.inl rfl)
    refine v_X4_weeksLoaded_26 (ks0 E.1) E2.2.1.2.2.2.2.1 (ks5 E.1) ⟨fun z => ?_, fun _ => ⟨vp_in_nI (by omega) (by decide), ?_⟩⟩
    · exact absurd z (nI_nlt (by omega) (by omega))
    · rw [nI_1, nI_clamp (by omega)]
      refine ih (j + 1) _ (by omega) (by omega) hy.ui ?_ (fun i hi hij => ?_)
      · rw [gi_ui, if_neg (by omega)]
        exact g0
      · by_cases hij2 : i = j
        · subst hij2
          rw [gi_ui, if_pos ⟨rfl, rfl⟩]
        · rw [gi_ui, if_neg (fun z => hij2 z.2)]
          exact g1 i hi (by omega)
theorem sb_X4_weeksLoaded {x : Cn} {Q : Int32 → Cn → Prop} {q : Nat} {T : TT} {W C S A N : Nat} (E : SEB x q T W C S A N) {d h least io wo : Int32} (k : ∀ r y, EQx x y (q + 5) → isWL T S d h io wo least r → Q r y) : mSI mX4_weeksLoaded [.ref q, .int d, .int h, .int least, .int io, .int wo] KW x Q := by
  have hn := E.nums
  have hS := hn.2.2.2.2.2.2.1
  refine v_X4_weeksLoaded_0 (ks0 E.1) E.2.1.2.2.2.2.1 (ks5 E.1) ⟨fun z => ⟨fun z2 => ⟨iv0 0 25 (by decide) (by decide) (by decide), ?_⟩, fun z2 => ?_⟩, fun z => ?_⟩
  · obtain ⟨m, hm, rfl⟩ := nI_of (x := least) (Int32.not_lt.mpr (Int32.le_of_lt z))
    rw [hn.2.2.1, nI_leI hm (by omega)] at z2
    exact lb_X4_weeksLoaded_26 E z2 k m 1 _ (by omega) (by omega) (EQx.rf x _).ui (by rw [gi_ui, if_pos ⟨rfl, rfl⟩]) (fun i h1 h2 => by omega)
  · refine k 0 x (EQx.rf x _) (fun i hi => ⟨fun g => ?_, fun g => ?_⟩)
    · rw [tb_0] at g
      cases g
    · have hc : nW T S i d h io wo ≤ S := cnt_le _ _
      refine absurd (Int32.le_trans g ?_) z2
      rw [hn.2.2.1]
      exact nI_le hc (by omega)
  · refine k (-1) x (EQx.rf x _) (fun i hi => ⟨fun _ => ?_, fun _ => tb_m1 hi⟩)
    have hc : nW T S i d h io wo ≤ S := cnt_le _ _
    exact Int32.le_trans (Int32.not_lt.mp z) (nI_pos' (by omega))

section
variable {x : Cn} {Q : Int32 → Cn → Prop} {q : Nat} {T : TT} {W C S A N : Nat}
end

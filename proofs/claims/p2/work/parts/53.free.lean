def WFB (T : TT) (W C S A N : Nat) : Prop := T 0 = nI W ∧ ((W = 0 ∧ C = 0) ∨ 5 ≤ W) ∧ W ≤ 30 ∧ T 1 = nI C ∧ C ≤ 8 ∧ T 2 = nI S ∧ S ≤ 24 ∧ T 3 = nI A ∧ A ≤ 24 ∧ T 4 = nI N ∧ N ≤ W ∧ (∀ h : Nat, h < 24 → True) ∧ (∀ s, s < S → Wse T C W s) ∧ ∀ a, a < A → Was T C W a
def SEB (x : Cn) (q : Nat) (T : TT) (W C S A N : Nat) : Prop := Isea q ∧ SRf x q ∧ SVl x q T S A ∧ WFB T W C S A N
def LM9 (T : TT) : Prop := ∀ h, h < 24 → ∃ a b, a ≤ 10 ∧ b ≤ 10 ∧ T (6 + 2 * h) = nI a ∧ T (7 + 2 * h) = nI b
theorem WF.b {T : TT} {W C S A N : Nat} (F : WF T W C S A N) : WFB T W C S A N := by
  obtain ⟨w1, w2, w3, w4, w5, w6, w7, w8, w9, w10, w11, w12, w13, w14⟩ := F
  exact ⟨w1, w2, w3, w4, w5, w6, w7, w8, w9, w10, w11, fun _ _ => trivial, w13, w14⟩
theorem WFB.w {T : TT} {W C S A N : Nat} (F : WFB T W C S A N) (l : LM9 T) : WF T W C S A N := by
  obtain ⟨w1, w2, w3, w4, w5, w6, w7, w8, w9, w10, w11, w12, w13, w14⟩ := F
  exact ⟨w1, w2, w3, w4, w5, w6, w7, w8, w9, w10, w11, l, w13, w14⟩
theorem SEA.b {x : Cn} {q : Nat} {T : TT} {W C S A N : Nat} (E : SEA x q T W C S A N) : SEB x q T W C S A N := ⟨E.1, E.2.1, E.2.2.1, E.2.2.2.b⟩
theorem SEB.w {x : Cn} {q : Nat} {T : TT} {W C S A N : Nat} (E : SEB x q T W C S A N) (l : LM9 T) : SEA x q T W C S A N := ⟨E.1, E.2.1, E.2.2.1, E.2.2.2.w l⟩
theorem WFB.cg {T T' : TT} {W C S A N : Nat} (w : WFB T W C S A N) (h : ∀ i, i < 518 → T' i = T i) : WFB T' W C S A N := by
  obtain ⟨w1, w2, w3, w4, w5, w6, w7, w8, w9, w10, w11, w12, w13, w14⟩ := w
  exact ⟨by rw [h 0 (by decide)]; exact w1, w2, w3, by rw [h 1 (by decide)]; exact w4, w5, by rw [h 2 (by decide)]; exact w6, w7, by rw [h 3 (by decide)]; exact w8, w9, by rw [h 4 (by decide)]; exact w10, w11, w12, fun s hs => (w13 s hs).cg (fun k hk => h _ (by omega)), fun a ha => (w14 a ha).cg (fun k hk => h _ (by omega))⟩
theorem SEB.ser {x : Cn} {q : Nat} {T : TT} {W C S A N s : Nat} (E : SEB x q T W C S A N) (hs : s < S) : ∃ p, gr x (q + 3) s = some p ∧ kk KW p = some (5, 0) ∧ SER x p T s ∧ f_held x p = bas T s ∧ f_open x p = so T s 7 ∧ Wse T C W s := by
  obtain ⟨h1, ⟨-, -, -, -, -, h2, -⟩, ⟨-, -, -, -, -, -, h3, -⟩, ⟨-, -, -, -, -, -, hS, -, -, -, -, -, h4, -⟩⟩ := E
  obtain ⟨j, hj, e⟩ := h2 s (by omega)
  have hse := h3 s _ hs e
  exact ⟨_, e, ks6 h1 hj, hse, hse.held (h4 s hs), hse.opn (h4 s hs), h4 s hs⟩
theorem SEB.ask {x : Cn} {q : Nat} {T : TT} {W C S A N s : Nat} (E : SEB x q T W C S A N) (hs : s < A) : ∃ p, gr x (q + 4) s = some p ∧ kk KW p = some (0, 0) ∧ ASR x p T s ∧ Was T C W s := by
  obtain ⟨h1, ⟨-, -, -, -, -, -, -, h2, -⟩, ⟨-, -, -, -, -, -, -, h3⟩, ⟨-, -, -, -, -, -, -, -, hA, -, -, -, -, h4⟩⟩ := E
  obtain ⟨j, hj, e⟩ := h2 s (by omega)
  exact ⟨_, e, ks30 h1 hj, h3 s _ hs e, h4 s hs⟩
theorem SEB.nums {x : Cn} {q : Nat} {T : TT} {W C S A N : Nat} (E : SEB x q T W C S A N) : gi x q 0 = nI W ∧ gi x q 1 = nI N ∧ gi x q 3 = nI S ∧ gi x q 4 = nI A ∧ W ≤ 30 ∧ C ≤ 8 ∧ S ≤ 24 ∧ A ≤ 24 ∧ N ≤ W := by
  obtain ⟨h1, -, ⟨v0, v1, -, v3, v4, -⟩, ⟨w0, -, w1, -, w2, w3, w4, w5, w6, w7, w8, -⟩⟩ := E
  exact ⟨v0.trans w0, v1.trans w7, v3.trans w3, v4.trans w5, w1, w2, w4, w6, w8⟩
theorem SEB.eqx {x y : Cn} {q : Nat} {T : TT} {W C S A N : Nat} (E : SEB x q T W C S A N) {a : Nat} (h : EQx x y a) (ha : a = q + 5 ∨ a < q ∨ q + 54 ≤ a) : SEB y q T W C S A N := by
  obtain ⟨e1, e2, ⟨v0, v1, v2, v3, v4, v5, v6, v7⟩, e4⟩ := E
  have hg : ∀ b k, gr y b k = gr x b k := fun b k => by unfold gr; rw [h.1]
  have hi : ∀ b k, b ≠ a → gi y b k = gi x b k := h.2
  have hr := e2
  obtain ⟨r1, r2, r3, r4, r5, r6, r7, r8, r9⟩ := e2
  refine ⟨e1, ?_, ⟨?_, ?_, ?_, ?_, ?_, ?_, ?_, ?_⟩, e4⟩
  · unfold SRf at hr ⊢
    simp only [hg]
    exact hr
  · rw [hi q 0 (by omega)]; exact v0
  · rw [hi q 1 (by omega)]; exact v1
  · rw [hi q 2 (by omega)]; exact v2
  · rw [hi q 3 (by omega)]; exact v3
  · rw [hi q 4 (by omega)]; exact v4
  · intro hh h24
    rw [hi (q + 1) hh (by omega), hi (q + 2) hh (by omega)]
    exact v5 hh h24
  · intro s p hs hp
    rw [hg] at hp
    have h0 := v6 s p hs hp
    obtain ⟨j, hj, ej⟩ := r6 s (by have := e4.2.2.2.2.2.2.1; omega)
    have hpe : p = q + 6 + j := Option.some.inj (hp.symm.trans ej)
    exact ⟨fun k h1 h2 => by rw [hi p k (by omega)]; exact h0.1 k h1 h2, by rw [hi p 7 (by omega)]; exact h0.2⟩
  · intro s p hs hp
    rw [hg] at hp
    have h0 := v7 s p hs hp
    obtain ⟨j, hj, ej⟩ := r8 s (by have := e4.2.2.2.2.2.2.2.2.1; omega)
    have hpe : p = q + 30 + j := Option.some.inj (hp.symm.trans ej)
    exact fun k h1 => by rw [hi p k (by omega)]; exact h0 k h1
theorem lb_X4_weeksLoaded_118 {x : Cn} {Q : Int32 → Cn → Prop} {q : Nat} {T : TT} {W C S A N : Nat} (E : SEB x q T W C S A N) {d h io wo held : Int32} {b7 m s : Nat} (hm : m ≤ 24) (hh : ∀ i, i < 32 → tb held i = cW T s i d h io wo) (hs : s < 24)
    (k : ∀ y, EQx x y (q + 5) → (∀ j, j ≤ m → ∀ i, i < 32 → tb (gi y (q + 5) j) i = decide (j ≤ nW T (s + 1) i d h io wo)) → GI mX4_weeksLoaded 49 [some (.ref q), some (.int d), some (.int h), some (.int (nI m)), some (.int io), some (.int wo), some (.int (nI (s + 1))), none, none, none] [] KW y Q) :
    ∀ (n : Nat) (y : Cn), n ≤ m → EQx x y (q + 5) → (∀ j, j ≤ n → ∀ i, i < 32 → tb (gi y (q + 5) j) i = decide (j ≤ nW T s i d h io wo)) → (∀ j, n < j → j ≤ m → ∀ i, i < 32 → tb (gi y (q + 5) j) i = decide (j ≤ nW T (s + 1) i d h io wo)) → GI mX4_weeksLoaded 118 [some (.ref q), some (.int d), some (.int h), some (.int (nI m)), some (.int io), some (.int wo), some (.int (nI s)), some (.ref b7), some (.int held), some (.int (nI n))] [] KW y Q := by
  intro n
  induction n with
  | zero =>
    intro y hn hy h0 h1
    have E2 := E.eqx hy (Or.inl rfl)
    refine v_X4_weeksLoaded_118 (ks0 E.1) E2.2.1.2.2.2.2.1 (ks5 E.1) ⟨fun _ => ?_, fun z => ?_⟩
    · rw [nI_1]
      refine k y hy (fun j hj i hi => ?_)
      rcases Nat.eq_zero_or_pos j with rfl | hp
      · rw [h0 0 (Nat.le_refl 0) i hi]
        simp
      · exact h1 j hp hj i hi
    · exact absurd (by decide) z
  | succ n ih =>
    intro y hn hy h0 h1
    have E2 := E.eqx hy (Or.inl rfl)
    refine v_X4_weeksLoaded_118 (ks0 E.1) E2.2.1.2.2.2.2.1 (ks5 E.1) ⟨fun z => ?_, fun _ => ⟨vp_in_nI (by omega) (by decide), ?_, ?_⟩⟩
    · exact absurd z (show ¬ nI (n + 1) < nI 1 from nI_nlt (by omega) (by omega))
    · rw [nI_pred]
      exact vp_in_nI (by omega) (by decide)
    · rw [pk_m1, nI_pred, nI_clamp (by omega), nI_clamp (by omega)]
      refine ih _ (by omega) hy.ui (fun j hj i hi => ?_) (fun j hj hjm i hi => ?_)
      · rw [gi_ui, if_neg (by omega)]
        exact h0 j (by omega) i hi
      · by_cases hjn : j = n + 1
        · subst hjn
          rw [gi_ui, if_pos ⟨rfl, rfl⟩, tb_or, tb_and, h0 (n + 1) (Nat.le_refl _) i hi, h0 n (by omega) i hi, hh i hi]
          have : nW T (s + 1) i d h io wo = nW T s i d h io wo + (if cW T s i d h io wo = true then 1 else 0) := rfl
          rw [this]
          cases cW T s i d h io wo <;> simp <;> omega
        · rw [gi_ui, if_neg (by omega)]
          exact h1 j (by omega) hjm i hi
theorem lb_X4_weeksLoaded_49 {x : Cn} {Q : Int32 → Cn → Prop} {q : Nat} {T : TT} {W C S A N : Nat} (E : SEB x q T W C S A N) {d h io wo : Int32} {m : Nat} (hm : m ≤ S)
    (k : ∀ r y, EQx x y (q + 5) → isWL T S d h io wo (nI m) r → Q r y) :
    ∀ (n s : Nat) (y : Cn), s + n = S → EQx x y (q + 5) → (∀ j, j ≤ m → ∀ i, i < 32 → tb (gi y (q + 5) j) i = decide (j ≤ nW T s i d h io wo)) → GI mX4_weeksLoaded 49 [some (.ref q), some (.int d), some (.int h), some (.int (nI m)), some (.int io), some (.int wo), some (.int (nI s)), none, none, none] [] KW y Q := by
  have hS := E.nums.2.2.2.2.2.2.1
  intro n
  induction n with
  | zero =>
    intro s y hs hy h0
    have E2 := E.eqx hy (Or.inl rfl)
    have hn := E2.nums
    refine v_X4_weeksLoaded_49 (ks0 E.1) E2.2.1.2.2.2.2.1 (ks5 E.1) E2.2.1.2.2.1 (ks3 E.1) ⟨fun _ => ⟨vp_in_nI (by omega) (by decide), ?_⟩, fun z => ?_⟩
    · rw [nI_clamp (by omega)]
      refine k _ y hy (fun i hi => ?_)
      have hc : nW T S i d h io wo ≤ S := cnt_le _ _
      rw [h0 m (Nat.le_refl _) i hi, decide_eq_true_iff, show s = S by omega, nI_leI (by omega) (by omega)]
    · exact absurd (by rw [hn.2.2.1]; exact nI_le (by omega) (by omega)) z
  | succ n ih =>
    intro s y hs hy h0
    have E2 := E.eqx hy (Or.inl rfl)
    have hn := E2.nums
    obtain ⟨p, e1, e2, e3, e4, -, -⟩ := E2.ser (s := s) (by omega)
    have skip : ¬ (so T s 1 = d ∧ so T s 2 = h ∧ ¬ tb wo s = true ∧ (so T s 3 = 0 ∨ io = 0)) → GI mX4_weeksLoaded 49 [some (.ref q), some (.int d), some (.int h), some (.int (nI m)), some (.int io), some (.int wo), some (.int (nI s + 1)), none, none, none] [] KW y Q := by
      intro z
      rw [nI_1]
      refine ih (s + 1) y (by omega) hy (fun j hj i hi => ?_)
      rw [h0 j hj i hi]
      have : nW T (s + 1) i d h io wo = nW T s i d h io wo + (if cW T s i d h io wo = true then 1 else 0) := rfl
      rw [this, show cW T s i d h io wo = false by unfold cW; rw [decide_eq_false z]; rfl]
      rfl
    have take : (so T s 1 = d ∧ so T s 2 = h ∧ ¬ tb wo s = true ∧ (so T s 3 = 0 ∨ io = 0)) → GI mX4_weeksLoaded 118 [some (.ref q), some (.int d), some (.int h), some (.int (nI m)), some (.int io), some (.int wo), some (.int (nI s)), some (.ref p), some (.int (f_held y p)), some (.int (nI m))] [] KW y Q := by
      intro z
      refine lb_X4_weeksLoaded_118 E (by omega) (fun i hi => ?_) (by omega) (fun y2 hy2 g => ih (s + 1) y2 (by omega) hy2 g) m y (Nat.le_refl _) hy h0 (fun j h1 h2 => by omega)
      rw [e4]
      unfold cW
      rw [decide_eq_true z]
      simp
    refine v_X4_weeksLoaded_49 (ks0 E.1) E2.2.1.2.2.2.2.1 (ks5 E.1) E2.2.1.2.2.1 (ks3 E.1) ⟨fun z => ?_, fun _ => ⟨vp_in_nI (by omega) (by decide), p, by rw [nI_clamp (by omega)]; exact e1, e2, ?_⟩⟩
    · rw [hn.2.2.1] at z
      exact absurd z (nI_ge (by omega) (by omega))
    · rw [e3.1 1 (by decide) (by decide), e3.1 2 (by decide) (by decide), e3.1 3 (by decide) (by decide), f_bit_tb _ (by omega)]
      exact ⟨fun z => skip (fun g => z g.1), fun z1 => ⟨fun z => skip (fun g => z g.2.1), fun z2 => ⟨fun z => skip (fun g => g.2.2.1 z), fun z3 => ⟨fun z => take ⟨z1, z2, z3, Or.inl z⟩, fun z4 => ⟨fun z => skip (fun g => g.2.2.2.elim z4 z), fun z => take ⟨z1, z2, z3, Or.inr z⟩⟩⟩⟩⟩⟩
theorem lb_X4_weeksLoaded_26 {x : Cn} {Q : Int32 → Cn → Prop} {q : Nat} {T : TT} {W C S A N : Nat} (E : SEB x q T W C S A N) {d h io wo : Int32} {m : Nat} (hm : m ≤ S)
    (k : ∀ r y, EQx x y (q + 5) → isWL T S d h io wo (nI m) r → Q r y) :
    ∀ (n j : Nat) (y : Cn), j + n = m + 1 → 1 ≤ j → EQx x y (q + 5) → gi y (q + 5) 0 = -1 → (∀ i, 1 ≤ i → i < j → gi y (q + 5) i = 0) → GI mX4_weeksLoaded 26 [some (.ref q), some (.int d), some (.int h), some (.int (nI m)), some (.int io), some (.int wo), some (.int (nI j)), none, none, none] [] KW y Q := by
  have hS := E.nums.2.2.2.2.2.2.1
  intro n
  induction n with
  | zero =>
    intro j y hj h1 hy g0 g1
    have E2 := E.eqx hy (Or.inl rfl)
    refine v_X4_weeksLoaded_26 (ks0 E.1) E2.2.1.2.2.2.2.1 (ks5 E.1) ⟨fun _ => ?_, fun z => ?_⟩
    · refine lb_X4_weeksLoaded_49 E hm k S 0 y (by omega) hy (fun i hi b hb => ?_)
      rcases Nat.eq_zero_or_pos i with rfl | hp
      · rw [g0, tb_m1 hb]
        simp
      · rw [g1 i hp (by omega), tb_0]
        show false = decide (i ≤ 0)
        rw [decide_eq_false (by omega)]
    · exact absurd (nI_lt (show m < j by omega) (by omega)) z
  | succ n ih =>
    intro j y hj h1 hy g0 g1
    have E2 := E.eqx hy (Or.inl rfl)
    refine v_X4_weeksLoaded_26 (ks0 E.1) E2.2.1.2.2.2.2.1 (ks5 E.1) ⟨fun z => ?_, fun _ => ⟨vp_in_nI (by omega) (by decide), ?_⟩⟩
    · exact absurd z (nI_nlt (by omega) (by omega))
    · rw [nI_1, nI_clamp (by omega)]
      refine ih (j + 1) _ (by omega) (by omega) hy.ui ?_ (fun i hi hij => ?_)
      · rw [gi_ui, if_neg (by omega)]
        exact g0
      · by_cases hij2 : i = j
        · subst hij2
          rw [gi_ui, if_pos ⟨rfl, rfl⟩]
        · rw [gi_ui, if_neg (fun z => hij2 z.2)]
          exact g1 i hi (by omega)
theorem sb_X4_weeksLoaded {x : Cn} {Q : Int32 → Cn → Prop} {q : Nat} {T : TT} {W C S A N : Nat} (E : SEB x q T W C S A N) {d h least io wo : Int32} (k : ∀ r y, EQx x y (q + 5) → isWL T S d h io wo least r → Q r y) : mSI mX4_weeksLoaded [.ref q, .int d, .int h, .int least, .int io, .int wo] KW x Q := by
  have hn := E.nums
  have hS := hn.2.2.2.2.2.2.1
  refine v_X4_weeksLoaded_0 (ks0 E.1) E.2.1.2.2.2.2.1 (ks5 E.1) ⟨fun z => ⟨fun z2 => ⟨iv0 0 25 (by decide) (by decide) (by decide), ?_⟩, fun z2 => ?_⟩, fun z => ?_⟩
  · obtain ⟨m, hm, rfl⟩ := nI_of (x := least) (Int32.not_lt.mpr (Int32.le_of_lt z))
    rw [hn.2.2.1, nI_leI hm (by omega)] at z2
    exact lb_X4_weeksLoaded_26 E z2 k m 1 _ (by omega) (by omega) (EQx.rf x _).ui (by rw [gi_ui, if_pos ⟨rfl, rfl⟩]) (fun i h1 h2 => by omega)
  · refine k 0 x (EQx.rf x _) (fun i hi => ⟨fun g => ?_, fun g => ?_⟩)
    · rw [tb_0] at g
      cases g
    · have hc : nW T S i d h io wo ≤ S := cnt_le _ _
      refine absurd (Int32.le_trans g ?_) z2
      rw [hn.2.2.1]
      exact nI_le hc (by omega)
  · refine k (-1) x (EQx.rf x _) (fun i hi => ⟨fun _ => ?_, fun _ => tb_m1 hi⟩)
    have hc : nW T S i d h io wo ≤ S := cnt_le _ _
    exact Int32.le_trans (Int32.not_lt.mp z) (nI_pos' (by omega))

section
variable {x : Cn} {Q : Int32 → Cn → Prop} {q : Nat} {T : TT} {W C S A N : Nat}
theorem sb_X4_hasPlace (E : SEB x q T W C S A N) {d way bits wo : Int32} {h : Nat} (hh : h < 24) (k : ∀ y, EQx x y (q + 5) → Q (bP (fitC T S N d h way bits wo)) y) : mSI mX4_hasPlace [.ref q, .int d, .int (nI h), .int way, .int bits, .int wo] KW x Q := by
  have hn := E.nums
  have hl := E.2.2.1.2.2.2.2.2.1 h hh
  refine v_X4_hasPlace_0 (ks0 E.1) E.2.1.1 (ks1 E.1) ⟨vp_in_nI hh (by decide), ?_⟩
  rw [nI_clamp (show h < 2 ^ 31 by omega), hl.1, hn.2.1]
  refine sb_X4_weeksLoaded E (fun r y hy hr => ?_)
  have E2 := E.eqx hy (Or.inl rfl)
  have hl2 := E2.2.2.1.2.2.2.2.2.1 h hh
  refine ⟨fun z => ?_, fun z => ?_⟩
  · have g1 := (and3_0 (by omega) hr).mp z
    refine ⟨fun w => (bP_k (k y hy)).1 (fun i hi h1 h2 => ⟨g1 i hi h1 h2, fun u => absurd w u⟩), fun w => ⟨q + 2, E2.2.1.2.1, 24, ks2 E.1, vp_in_nI hh (by decide), ?_⟩⟩
    rw [hl2.2]
    refine sb_X4_weeksLoaded E2 (fun r2 y2 hy2 hr2 => ⟨fun z2 => ?_, fun z2 => ?_⟩)
    · have := k y2 (hy.tr hy2)
      rwa [bP_f (fun f => z2 ((and3_0 (by omega) hr2).mpr (fun i hi h1 h2 => (f i hi h1 h2).2 w)))] at this
    · have g2 := (and3_0 (by omega) hr2).mp z2
      exact (bP_k (k y2 (hy.tr hy2))).1 (fun i hi h1 h2 => ⟨g1 i hi h1 h2, fun _ => g2 i hi h1 h2⟩)
  · have := k y hy
    rwa [bP_f (fun f => z ((and3_0 (by omega) hr).mpr (fun i hi h1 h2 => (f i hi h1 h2).1)))] at this
end
section
variable {x : Cn} {Q : Int32 → Cn → Prop}
theorem sb_X8_canBe {t : Nat} (M : MRf x t) (ht : kk KW t = some (20, 518)) {W C S A N : Nat} (F : WFB (gi x t) W C S A N) {d way bits b wo : Int32} {h : Nat} (hh : h < 24) (hw : way = 0 ∨ way = 1) (hb : ∀ i, i < 32 → tb bits i = true → N ≤ i → i < W) (hwo : ∀ s, s < 24 → (tb wo s = true ↔ nI s = b)) (k : Q (bP (fitC (gi x t) S N d h way bits wo)) x) : mSI mX8_canBe [.ref 717, .int bits, .int d, .int (nI h), .int way, .int b] KW x Q := by
  obtain ⟨t0, t1, hW, t2, t3, t4, hS, t6, t7, t8, hN, hl, -, -⟩ := F
  have key : ∀ n w, w + n = W → (∀ i, i < w → tb bits i = true → N ≤ i → ¬ gi x t (6 + 2 * h) ≤ nI (nW (gi x t) S i d (nI h) 0 wo) ∧ (¬ way = 1 → ¬ gi x t (7 + 2 * h) ≤ nI (nW (gi x t) S i d (nI h) 1 wo))) → GI mX8_canBe 3 [some (.ref 717), some (.int bits), some (.int d), some (.int (nI h)), some (.int way), some (.int b), some (.int (nI w))] [] KW x Q := by
    intro n
    induction n with
    | zero =>
      intro w hw2 g
      refine v_X8_canBe_3 km M.2.2.1 ht ⟨v0 (k := 0) (by decide) rfl rfl, fun _ => ?_, fun z => absurd (by rw [t0]; exact nI_le (by omega) (by omega)) z⟩
      exact (bP_k k).1 (fun i hi h1 h2 => g i (by have := hb i hi h1 h2; omega) h1 h2)
    | succ n ih =>
      intro w hw2 g
      have nx : (tb bits w = true → N ≤ w → ¬ gi x t (6 + 2 * h) ≤ nI (nW (gi x t) S w d (nI h) 0 wo) ∧ (¬ way = 1 → ¬ gi x t (7 + 2 * h) ≤ nI (nW (gi x t) S w d (nI h) 1 wo))) → GI mX8_canBe 3 [some (.ref 717), some (.int bits), some (.int d), some (.int (nI h)), some (.int way), some (.int b), some (.int (nI w + 1))] [] KW x Q := by
        intro gg
        rw [nI_1]
        refine ih (w + 1) (by omega) (fun i hi => ?_)
        by_cases c : i = w
        · rw [c]; exact gg
        · exact g i (by omega)
      refine v_X8_canBe_3 km M.2.2.1 ht ⟨v0 (k := 0) (by decide) rfl rfl, fun z => absurd (by rw [t0] at z; exact z) (nI_ge (by omega) (by omega)), fun _ => ⟨v0 (k := 4) (by decide) rfl rfl, ?_⟩⟩
      rw [f_has_tb _ (by omega), tb_and, t8, t0, tb_fn hW hN (by omega) (by omega)]
      refine ⟨fun z => ?_, fun z => nx (fun z1 z2 => absurd (by rw [z1, decide_eq_true (by omega)]; rfl) z)⟩
      simp only [Bool.and_eq_true, decide_eq_true_eq] at z
      refine sp_X8_loadBut M ht t4 hS (by omega) ⟨M.2.2.1, ?_⟩
      rw [ixh1, ixh, nI_clamp (show 6 + 2 * h < 2 ^ 31 by omega), nI_clamp (show 7 + 2 * h < 2 ^ 31 by omega), ldB_nW0 hwo S hS]
      refine ⟨vp_in_nI (by omega) (by decide), fun z2 => ⟨fun z3 => nx (fun _ _ => ⟨Int32.not_le.mpr z2, fun u => absurd (hw.resolve_left z3) u⟩), fun z3 => ?_⟩, fun z2 => ?_⟩
      · refine sp_X8_loadBut M ht t4 hS (by omega) ⟨M.2.2.1, vp_in_nI (by omega) (by decide), ?_⟩
        rw [ldB_nW1 hwo S hS]
        refine ⟨fun z4 => nx (fun _ _ => ⟨Int32.not_le.mpr z2, fun _ => Int32.not_le.mpr z4⟩), fun z4 => ?_⟩
        exact (bP_k k).2 (fun f => (f w (by omega) z.1 z.2.1).2 (by rw [z3]; decide) (Int32.not_lt.mp z4))
      · exact (bP_k k).2 (fun f => (f w (by omega) z.1 z.2.1).1 (Int32.not_lt.mp z2))
  exact v_X8_canBe_0 (key W 0 (by omega) (fun i hi => absurd hi (by omega)))
theorem sb_X8_canAsk {t : Nat} (M : MRf x t) (ht : kk KW t = some (20, 518)) {W C S A N : Nat} (F : WFB (gi x t) W C S A N) {b wo : Int32} {a h : Nat} (ha : a < A) (hh : h < 24) (hwo : ∀ s, s < 24 → (tb wo s = true ↔ nI s = b)) (k : Q (bP (fitA (gi x t) S N a h wo)) x) : mSI mX8_canAsk [.ref 717, .int (nI a), .int (nI h), .int b] KW x Q := by
  have hA : A ≤ 24 := F.2.2.2.2.2.2.2.2.1
  have hW : W ≤ 30 := F.2.2.1
  have hN : N ≤ W := F.2.2.2.2.2.2.2.2.2.2.1
  obtain ⟨-, -, -, a3, ⟨f, l, f1, f2, f3, f4⟩, -⟩ := F.2.2.2.2.2.2.2.2.2.2.2.2.2 a ha
  refine v_X8_canAsk_0 km M.2.2.1 ht ⟨l24_nI (by omega) rfl, ?_⟩
  rw [nI_clamp (by omega), F.1, F.2.2.2.2.2.2.2.2.2.1]
  refine sb_X8_canBe M ht F hh a3 ?_ hwo ⟨bP_01 _, ?_⟩
  · intro i hi z1 z2
    rw [tb_and, Bool.and_eq_true, tb_fn hW hN hi (by omega)] at z1
    exact (of_decide_eq_true z1.2).2
  · rw [bP_congr (fitC_bits (b2 := f_sb (ao (gi x t) a 4) (ao (gi x t) a 5)) (fun i hi h2 => ?_))]
    · exact k
    · rw [tb_and, tb_fn hW hN hi (by omega), f3, f4, sb_span (by omega) (by omega), tb_span0 f (by omega) l (by omega) i hi]
      by_cases c : f ≤ i ∧ i ≤ l
      · rw [decide_eq_true c, decide_eq_true (show N ≤ i ∧ i < W by omega)]; rfl
      · rw [decide_eq_false c]; rfl
theorem sb_X4_hasPlaceFor {q : Nat} {T : TT} {W C S A N : Nat} (E : SEB x q T W C S A N) {a p h : Nat} {wo : Int32} (hp : kk KW p = some (0, 0)) (hq : ASR x p T a) (hh : h < 24) (k : ∀ y, EQx x y (q + 5) → Q (bP (fitA T S N a h wo)) y) : mSI mX4_hasPlaceFor [.ref q, .ref p, .int (nI h), .int wo] KW x Q := by
  refine v_X4_hasPlaceFor_0 hp (ks0 E.1) ?_
  rw [hq 1 (by decide), hq 3 (by decide), hq 4 (by decide), hq 5 (by decide)]
  exact sb_X4_hasPlace E hh (fun y hy => ⟨bP_01 _, k y hy⟩)
theorem sb_X4_hourFor {q : Nat} {T : TT} {W C S A N : Nat} (E : SEB x q T W C S A N) {a p : Nat} (ha : a < A) (hg : gr x (q + 4) a = some p) (k : ∀ y, EQx x y (q + 5) → Q (hrF T S N a) y) : mSI mX4_hourFor [.ref q, .ref p] KW x Q := by
  have hn := E.nums
  have hA : A ≤ 24 := hn.2.2.2.2.2.2.2.1
  have hS : S ≤ 24 := hn.2.2.2.2.2.2.1
  obtain ⟨p', e1, e2, e3, ⟨-, -, ⟨h, h1, h2⟩, -, ⟨f, l, f1, f2, f3, f4⟩, ⟨b, b1, b2⟩⟩⟩ := E.ask ha
  have epp : p' = p := Option.some.inj (e1.symm.trans hg)
  subst epp
  have hW : W ≤ 30 := hn.2.2.2.2.1
  have hN : N ≤ W := hn.2.2.2.2.2.2.2.2
  have ep : ∀ y, EQx x y (q + 5) → ASR y p' T a := fun y hy => (E.eqx hy (Or.inl rfl)).2.2.1.2.2.2.2.2.2.2 a p' ha (by unfold gr; rw [hy.1]; exact hg)
  refine v_X4_hourFor_0 (ks0 E.1) e2 ?_
  rw [hn.2.2.1, hn.2.1, e3 5 (by decide), f4, e3 2 (by decide), h2]
  refine ⟨fun z => ?_, fun z => ⟨fun z2 => ?_, fun z2 => ?_⟩⟩
  · have hz : S = 24 := by
      have := (nI_leI (a := 24) (b := S) (by decide) (by omega)).mp z
      omega
    have := k x (EQx.rf _ _)
    unfold hrF at this
    rwa [if_pos (Or.inr hz)] at this
  · have z3 : N ≤ l := (nI_leI (by omega) (by omega)).mp z2
    have z4 : ¬ S = 24 := fun e => z (by rw [e]; exact Int32.le_refl _)
    have k2 : ∀ y, EQx x y (q + 5) → Q (lpR (stH (fun h => fitA T S N a h 0) h) (fun _ => -1) (b + 1) 0 ()) y := by
      intro y hy
      have := k y hy
      unfold hrF at this
      rwa [f4, nI_clamp (by omega), if_neg (by omega), h2, nI_clamp (by omega), b2, nI_clamp (by omega)] at this
    rw [e3 1 (by decide), e3 3 (by decide), e3 4 (by decide), f3]
    have fA : ∀ h, fitC T S N (ao T a 1) h (ao T a 3) (f_sb (nI f) (nI l)) 0 = fitA T S N a h 0 := fun h => by unfold fitA; rw [f3, f4]
    refine sb_X4_hasPlace E h1 (fun y hy => ?_)
    rw [fA]
    refine ⟨fun w => ?_, fun w => ?_⟩
    · have k3 : ∀ y, EQx x y (q + 5) → Q (lpR (stH (fun h => fitA T S N a h 0) h) (fun _ => -1) b 1 ()) y := by
        intro y hy
        have := k2 y hy
        simp only [lpR] at this
        have e0 : stH (fun h => fitA T S N a h 0) h 0 () = .inl () := by
          unfold stH
          rw [if_neg (fun u => u.2 (by simpa using w)), if_neg (fun u => u.2 (by simpa using w))]
        rw [e0] at this
        exact this
      refine lp_gen (stH (fun h => fitA T S N a h 0) h) (fun _ => -1) (fun d _ => ∀ y, EQx x y (q + 5) → GI mX4_hourFor 55 [some (.ref q), some (.ref p'), some (.int (f_sb (nI f) (nI l))), some (.int (nI d)), none, none] [] KW y Q) (fun r => ∀ y, EQx x y (q + 5) → Q r y) (b + 1) (fun _ k y hy => ?_) (fun d _ hd n1 n2 y hy => ?_) b 1 () (by omega) k3 y hy
      · refine v_X4_hourFor_55 e2 (ks0 E.1) ?_
        rw [ep y hy 6 (by decide), b2]
        exact ⟨fun _ => k y hy, fun z => absurd (nI_lt (by omega) (by omega)) z⟩
      · have E2 := E.eqx hy (Or.inl rfl)
        refine v_X4_hourFor_55 e2 (ks0 E.1) ?_
        rw [ep y hy 6 (by decide), b2, ep y hy 2 (by decide), h2, ep y hy 1 (by decide), ep y hy 3 (by decide), nI_add, nI_1]
        refine ⟨fun z => absurd z (nI_nlt (by omega) (by omega)), fun _ => ?_⟩
        have up : ∀ y, EQx x y (q + 5) → ¬ (d ≤ h ∧ ¬ bP (fitA T S N a (h - d) 0) = 0) → (nI 24 ≤ nI (h + d) → GI mX4_hourFor 55 [some (.ref q), some (.ref p'), some (.int (f_sb (nI f) (nI l))), some (.int (nI (d + 1))), none, none] [] KW y Q) ∧ (¬ nI 24 ≤ nI (h + d) → mSI mX4_hasPlace [.ref q, .int (ao T a 1), .int (nI (h + d)), .int (ao T a 3), .int (f_sb (nI f) (nI l)), .int 0] KW y (fun r y_4 => (r = 0 → GI mX4_hourFor 55 [some (.ref q), some (.ref p'), some (.int (f_sb (nI f) (nI l))), some (.int (nI (d + 1))), none, none] [] KW y_4 Q) ∧ (¬ r = 0 → Q (nI (h + d)) y_4))) := by
          intro y hy w
          refine ⟨fun z => n1 () ?_ y hy, fun z => ?_⟩
          · unfold stH
            rw [if_neg w, if_neg (fun u => nI_ge u.1 (by decide) z)]
          · have hd2 : h + d < 24 := by
              by_cases c : h + d < 24
              · exact c
              · exact absurd (nI_le (by omega) (by omega)) z
            refine sb_X4_hasPlace (E.eqx hy (Or.inl rfl)) hd2 (fun y2 hy2 => ?_)
            rw [fA]
            refine ⟨fun u => n1 () ?_ y2 (hy.tr hy2), fun u => n2 _ ?_ y2 (hy.tr hy2)⟩
            · unfold stH
              rw [if_neg w, if_neg (fun g => g.2 u)]
            · unfold stH
              rw [if_neg w, if_pos ⟨hd2, u⟩]
        refine ⟨fun z => up y hy (fun u => ?_), fun z => ?_⟩
        · rw [pk_sub u.1] at z
          exact nI_pos (by omega) z
        · have hd2 : d ≤ h := by
            by_cases c : d ≤ h
            · exact c
            · exact absurd (pk_sneg (by omega) (by omega)) z
          rw [pk_sub hd2]
          refine sb_X4_hasPlace E2 (by omega) (fun y2 hy2 => ?_)
          rw [fA]
          refine ⟨fun u => ?_, fun u => n2 _ ?_ y2 (hy.tr hy2)⟩
          · have hy3 := hy.tr hy2
            rw [ep y2 hy3 2 (by decide), h2, ep y2 hy3 1 (by decide), ep y2 hy3 3 (by decide), nI_add]
            exact up y2 hy3 (fun g => g.2 u)
          · unfold stH
            rw [if_pos ⟨hd2, u⟩]
    · have := k2 y hy
      simp only [lpR] at this
      have e0 : stH (fun h => fitA T S N a h 0) h 0 () = .inr (nI h) := by
        unfold stH
        rw [if_pos ⟨Nat.zero_le _, by simpa using w⟩]
        rfl
      rw [e0] at this
      rw [ep y hy 2 (by decide), h2]
      exact this
  · have z3 : l < N := by
      by_cases c : l < N
      · exact c
      · exact absurd (nI_le (by omega) (by omega)) z2
    have := k x (EQx.rf _ _)
    unfold hrF at this
    rw [f4, nI_clamp (by omega), if_pos (Or.inl z3)] at this
    exact this
theorem sb_X8_hourFor {t : Nat} (M : MRf x t) (ht : kk KW t = some (20, 518)) {W C S A N : Nat} (F : WFB (gi x t) W C S A N) {a : Nat} (ha : a < A) (k : Q (hrF (gi x t) S N a) x) : mSI mX8_hourFor [.ref 717, .int (nI a)] KW x Q := by
  have hA : A ≤ 24 := F.2.2.2.2.2.2.2.2.1
  have hS : S ≤ 24 := F.2.2.2.2.2.2.1
  have hW : W ≤ 30 := F.2.2.1
  have hN : N ≤ W := F.2.2.2.2.2.2.2.2.2.2.1
  obtain ⟨-, -, ⟨h, h1, h2⟩, a3, ⟨f, l, f1, f2, f3, f4⟩, ⟨b, b1, b2⟩⟩ := F.2.2.2.2.2.2.2.2.2.2.2.2.2 a ha
  refine v_X8_hourFor_0 km M.2.2.1 ht ⟨l24_nI (by omega) rfl, ?_⟩
  rw [nI_clamp (by omega), F.1, F.2.2.2.2.2.2.2.2.2.1, f3, f4, span_and0 (by omega) f2 hW hN, F.2.2.2.2.2.1, h2]
  unfold hrF at k
  rw [f4, nI_clamp (by omega), h2, nI_clamp (by omega), b2, nI_clamp (by omega)] at k
  refine ⟨fun z => by rwa [if_pos (Or.inl z)] at k, fun z => ⟨v0 (k := 2) (by decide) rfl rfl, fun z2 => ?_, fun z2 => ?_⟩⟩
  · rw [if_neg (fun u => u.elim z (fun e => z2 (by rw [e]; rfl)))] at k
    refine lp_gen (stH (fun h => fitA (gi x t) S N a h 0) h) (fun _ => -1) (fun d _ => GI mX8_hourFor 30 [some (.ref 717), some (.int (nI a)), some (.int (nI h)), some (.int (nI d))] [] KW x Q) (fun r => Q r x) (b + 1) (fun _ k => ?_) (fun d _ hd n1 n2 => ?_) (b + 1) 0 () (by omega) k
    · refine v_X8_hourFor_30 km M.2.2.1 ht ⟨l24_nI (by omega) rfl, ?_⟩
      rw [nI_clamp (by omega), b2]
      exact ⟨fun _ => k, fun z => absurd (nI_lt (by omega) (by omega)) z⟩
    · refine v_X8_hourFor_30 km M.2.2.1 ht ⟨l24_nI (by omega) rfl, ?_⟩
      rw [nI_clamp (by omega), b2, nI_add, nI_1]
      refine ⟨fun z => absurd z (nI_nlt (by omega) (by omega)), fun _ => ?_⟩
      have up : ¬ (d ≤ h ∧ ¬ bP (fitA (gi x t) S N a (h - d) 0) = 0) → (nI 24 ≤ nI (h + d) → GI mX8_hourFor 30 [some (.ref 717), some (.int (nI a)), some (.int (nI h)), some (.int (nI (d + 1)))] [] KW x Q) ∧ (¬ nI 24 ≤ nI (h + d) → mSI mX8_canAsk [.ref 717, .int (nI a), .int (nI (h + d)), .int (-1)] KW x (fun r y_4 => (r = 0 → GI mX8_hourFor 30 [some (.ref 717), some (.int (nI a)), some (.int (nI h)), some (.int (nI (d + 1)))] [] KW y_4 Q) ∧ (¬ r = 0 → Q (nI (h + d)) y_4))) := by
        intro w
        refine ⟨fun z => n1 () ?_, fun z => ?_⟩
        · unfold stH
          rw [if_neg w, if_neg (fun u => nI_ge u.1 (by decide) z)]
        · have hd2 : h + d < 24 := by
            by_cases c : h + d < 24
            · exact c
            · exact absurd (nI_le (by omega) (by omega)) z
          refine sb_X8_canAsk M ht F ha hd2 wo_0 ⟨fun u => n1 () ?_, fun u => n2 _ ?_⟩
          · unfold stH
            rw [if_neg w, if_neg (fun g => g.2 u)]
          · unfold stH
            rw [if_neg w, if_pos ⟨hd2, u⟩]
      refine ⟨fun z => up (fun u => nI_nlt u.1 (by omega) z), fun z => ?_⟩
      have hd2 : d ≤ h := by
        by_cases c : d ≤ h
        · exact c
        · exact absurd (nI_lt (by omega) (by omega)) z
      rw [pk_sub hd2]
      refine sb_X8_canAsk M ht F ha (by omega) wo_0 ⟨fun u => up (fun g => g.2 u), fun u => n2 _ ?_⟩
      unfold stH
      rw [if_pos ⟨hd2, u⟩]
  · have hz : S = 24 := (nI_eq (b := 24) (by omega) (by decide)).mp z2
    rwa [if_pos (Or.inr hz)] at k
end
theorem SEB.mv {x y : Cn} {q : Nat} {T T' : TT} {W C S A N : Nat} (E : SEB x q T W C S A N) (h1 : ∀ a k, q ≤ a → a < q + 54 → gr y a k = gr x a k) (h2 : ∀ a k, q ≤ a → a < q + 54 → a ≠ q + 5 → gi y a k = gi x a k) (hT : ∀ i, i < 518 → T' i = T i) : SEB y q T' W C S A N := by
  obtain ⟨e1, e2, ⟨v0, v1, v2, v3, v4, v5, v6, v7⟩, e4⟩ := E
  have hS : S ≤ 24 := e4.2.2.2.2.2.2.1
  have hA : A ≤ 24 := e4.2.2.2.2.2.2.2.2.1
  have g0 : ∀ k, gr y q k = gr x q k := fun k => h1 q k (by omega) (by omega)
  have g3 : ∀ k, gr y (q + 3) k = gr x (q + 3) k := fun k => h1 (q + 3) k (by omega) (by omega)
  have g4 : ∀ k, gr y (q + 4) k = gr x (q + 4) k := fun k => h1 (q + 4) k (by omega) (by omega)
  have hr := e2
  obtain ⟨r1, r2, r3, r4, r5, r6, r7, r8, r9⟩ := e2
  refine ⟨e1, ?_, ⟨?_, ?_, ?_, ?_, ?_, ?_, ?_, ?_⟩, e4.cg hT⟩
  · unfold SRf at hr ⊢
    simp only [g0, g3, g4]
    exact hr
  · rw [h2 q 0 (by omega) (by omega) (by omega), hT 0 (by decide)]; exact v0
  · rw [h2 q 1 (by omega) (by omega) (by omega), hT 4 (by decide)]; exact v1
  · rw [h2 q 2 (by omega) (by omega) (by omega), hT 5 (by decide)]; exact v2
  · rw [h2 q 3 (by omega) (by omega) (by omega), hT 2 (by decide)]; exact v3
  · rw [h2 q 4 (by omega) (by omega) (by omega), hT 3 (by decide)]; exact v4
  · intro hh h24
    rw [h2 (q + 1) hh (by omega) (by omega) (by omega), h2 (q + 2) hh (by omega) (by omega) (by omega), hT _ (by omega), hT _ (by omega)]
    exact v5 hh h24
  · intro s p hs hp
    rw [g3] at hp
    obtain ⟨j, hj, ej⟩ := r6 s (by omega)
    have hpe : p = q + 6 + j := Option.some.inj (hp.symm.trans ej)
    exact (v6 s p hs hp).cg (fun k _ => h2 p k (by omega) (by omega) (by omega)) (fun k hk => hT _ (by omega))
  · intro s p hs hp
    rw [g4] at hp
    obtain ⟨j, hj, ej⟩ := r8 s (by omega)
    have hpe : p = q + 30 + j := Option.some.inj (hp.symm.trans ej)
    exact (v7 s p hs hp).cg (fun k _ => h2 p k (by omega) (by omega) (by omega)) (fun k hk => hT _ (by omega))
theorem SEB.off {x y : Cn} {p q : Nat} {T : TT} {W C S A N : Nat} (E : SEB x p T W C S A N) (hq : Isea q) (h : p ≠ q) (f : Frq x y q) : SEB y p T W C S A N := by
  have d := Isea.dis E.1 hq h
  exact E.mv (fun a k _ _ => f.rr a k) (fun a k h1 h2 _ => f.2 a k (by omega)) (fun _ _ => rfl)

/-! 53.free.lean.txt -/
section
def WFB (T : TT) (W C S A N : Nat) : Prop := T 0 = nI W ∧ ((W = 0 ∧ C = 0) ∨ 5 ≤ W) ∧ W ≤ 30 ∧ T 1 = nI C ∧ C ≤ 8 ∧ T 2 = nI S ∧ S ≤ 24 ∧ T 3 = nI A ∧ A ≤ 24 ∧ T 4 = nI N ∧ N ≤ W ∧ (∀ h : Nat, h < 24 → True) ∧ (∀ s, s < S → Wse T C W s) ∧ ∀ a, a < A → Was T C W a
def SEB (x : Cn) (q : Nat) (T : TT) (W C S A N : Nat) : Prop := Isea q ∧ SRf x q ∧ SVl x q T S A ∧ WFB T W C S A N
def LM9 (T : TT) : Prop := ∀ h, h < 24 → ∃ a b, a ≤ 10 ∧ b ≤ 10 ∧ T (6 + 2 * h) = nI a ∧ T (7 + 2 * h) = nI b
theorem WF.b {T : TT} {W C S A N : Nat} (F : WF T W C S A N) : WFB T W C S A N := by
  obtain ⟨w1, w2, w3, w4, w5, w6, w7, w8, w9, w10, w11, w12, w13, w14⟩ := F
  exact ⟨w1, w2, w3, w4, w5, w6, w7, w8, w9, w10, w11, fun _ _ => trivial, w13, w14⟩
theorem WFB.w {T : TT} {W C S A N : Nat} (F : WFB T W C S A N) (l : LM9 T) : WF T W C S A N := by
  obtain ⟨w1, w2, w3, w4, w5, w6, w7, w8, w9, w10, w11, w12, w13, w14⟩ := F
  exact ⟨w1, w2, w3, w4, w5, w6, w7, w8, w9, w10, w11, l, w13, w14⟩
theorem SEA.b {x : Cn} {q : Nat} {T : TT} {W C S A N : Nat} (E : SEA x q T W C S A N) : SEB x q T W C S A N := ⟨E.1, E.2.1, E.2.2.1, E.2.2.2.b⟩
theorem SEB.w {x : Cn} {q : Nat} {T : TT} {W C S A N : Nat} (E : SEB x q T W C S A N) (l : LM9 T) : SEA x q T W C S A N := ⟨E.1, E.2.1, E.2.2.1, E.2.2.2.w l⟩
theorem WFB.cg {T T' : TT} {W C S A N : Nat} (w : WFB T W C S A N) (h : ∀ i, i < 518 → T' i = T i) : WFB T' W C S A N := by
  obtain ⟨w1, w2, w3, w4, w5, w6, w7, w8, w9, w10, w11, w12, w13, w14⟩ := w
  exact ⟨by rw [h 0 (by decide)]; exact w1, w2, w3, by rw [h 1 (by decide)]; exact w4, w5, by rw [h 2 (by decide)]; exact w6, w7, by rw [h 3 (by decide)]; exact w8, w9, by rw [h 4 (by decide)]; exact w10, w11, w12, fun s hs => (w13 s hs).cg (fun k hk => h _ (by omega)), fun a ha => (w14 a ha).cg (fun k hk => h _ (by omega))⟩
theorem SEB.ser {x : Cn} {q : Nat} {T : TT} {W C S A N s : Nat} (E : SEB x q T W C S A N) (hs : s < S) : ∃ p, gr x (q + 3) s = some p ∧ kk KW p = some (5, 0) ∧ SER x p T s ∧ f_held x p = bas T s ∧ f_open x p = so T s 7 ∧ Wse T C W s := by
  obtain ⟨h1, ⟨-, -, -, -, -, h2, -⟩, ⟨-, -, -, -, -, -, h3, -⟩, ⟨-, -, -, -, -, -, hS, -, -, -, -, -, h4, -⟩⟩ := E
  obtain ⟨j, hj, e⟩ := h2 s (by omega)
  have hse := h3 s _ hs e
  exact ⟨_, e, ks6 h1 hj, hse, hse.held (h4 s hs), hse.opn (h4 s hs), h4 s hs⟩
theorem SEB.ask {x : Cn} {q : Nat} {T : TT} {W C S A N s : Nat} (E : SEB x q T W C S A N) (hs : s < A) : ∃ p, gr x (q + 4) s = some p ∧ kk KW p = some (0, 0) ∧ ASR x p T s ∧ Was T C W s := by
  obtain ⟨h1, ⟨-, -, -, -, -, -, -, h2, -⟩, ⟨-, -, -, -, -, -, -, h3⟩, ⟨-, -, -, -, -, -, -, -, hA, -, -, -, -, h4⟩⟩ := E
  obtain ⟨j, hj, e⟩ := h2 s (by omega)
  exact ⟨_, e, ks30 h1 hj, h3 s _ hs e, h4 s hs⟩
theorem SEB.nums {x : Cn} {q : Nat} {T : TT} {W C S A N : Nat} (E : SEB x q T W C S A N) : gi x q 0 = nI W ∧ gi x q 1 = nI N ∧ gi x q 3 = nI S ∧ gi x q 4 = nI A ∧ W ≤ 30 ∧ C ≤ 8 ∧ S ≤ 24 ∧ A ≤ 24 ∧ N ≤ W := by
  obtain ⟨h1, -, ⟨v0, v1, -, v3, v4, -⟩, ⟨w0, -, w1, -, w2, w3, w4, w5, w6, w7, w8, -⟩⟩ := E
  exact ⟨v0.trans w0, v1.trans w7, v3.trans w3, v4.trans w5, w1, w2, w4, w6, w8⟩
theorem SEB.eqx {x y : Cn} {q : Nat} {T : TT} {W C S A N : Nat} (E : SEB x q T W C S A N) {a : Nat} (h : EQx x y a) (ha : a = q + 5 ∨ a < q ∨ q + 54 ≤ a) : SEB y q T W C S A N := by
  obtain ⟨e1, e2, ⟨v0, v1, v2, v3, v4, v5, v6, v7⟩, e4⟩ := E
  have hg : ∀ b k, gr y b k = gr x b k := fun b k => by unfold gr; rw [h.1]
  have hi : ∀ b k, b ≠ a → gi y b k = gi x b k := h.2
  have hr := e2
  obtain ⟨r1, r2, r3, r4, r5, r6, r7, r8, r9⟩ := e2
  refine ⟨e1, ?_, ⟨?_, ?_, ?_, ?_, ?_, ?_, ?_, ?_⟩, e4⟩
  · unfold SRf at hr ⊢
    simp only [hg]
    exact hr
  · rw [hi q 0 (by omega)]; exact v0
  · rw [hi q 1 (by omega)]; exact v1
  · rw [hi q 2 (by omega)]; exact v2
  · rw [hi q 3 (by omega)]; exact v3
  · rw [hi q 4 (by omega)]; exact v4
  · intro hh h24
    rw [hi (q + 1) hh (by omega), hi (q + 2) hh (by omega)]
    exact v5 hh h24
  · intro s p hs hp
    rw [hg] at hp
    have h0 := v6 s p hs hp
    obtain ⟨j, hj, ej⟩ := r6 s (by have := e4.2.2.2.2.2.2.1; omega)
    have hpe : p = q + 6 + j := Option.some.inj (hp.symm.trans ej)
    exact ⟨fun k h1 h2 => by rw [hi p k (by omega)]; exact h0.1 k h1 h2, by rw [hi p 7 (by omega)]; exact h0.2⟩
  · intro s p hs hp
    rw [hg] at hp
    have h0 := v7 s p hs hp
    obtain ⟨j, hj, ej⟩ := r8 s (by have := e4.2.2.2.2.2.2.2.2.1; omega)
    have hpe : p = q + 30 + j := Option.some.inj (hp.symm.trans ej)
    exact fun k h1 => by rw [hi p k (by omega)]; exact h0 k h1
theorem lb_X4_weeksLoaded_118 {x : Cn} {Q : Int32 → Cn → Prop} {q : Nat} {T : TT} {W C S A N : Nat} (E : SEB x q T W C S A N) {d h io wo held : Int32} {b7 m s : Nat} (hm : m ≤ 24) (hh : ∀ i, i < 32 → tb held i = cW T s i d h io wo) (hs : s < 24)
    (k : ∀ y, EQx x y (q + 5) → (∀ j, j ≤ m → ∀ i, i < 32 → tb (gi y (q + 5) j) i = decide (j ≤ nW T (s + 1) i d h io wo)) → GI mX4_weeksLoaded 49 [some (.ref q), some (.int d), some (.int h), some (.int (nI m)), some (.int io), some (.int wo), some (.int (nI (s + 1))), none, none, none] [] KW y Q) :
    ∀ (n : Nat) (y : Cn), n ≤ m → EQx x y (q + 5) → (∀ j, j ≤ n → ∀ i, i < 32 → tb (gi y (q + 5) j) i = decide (j ≤ nW T s i d h io wo)) → (∀ j, n < j → j ≤ m → ∀ i, i < 32 → tb (gi y (q + 5) j) i = decide (j ≤ nW T (s + 1) i d h io wo)) → GI mX4_weeksLoaded 118 [some (.ref q), some (.int d), some (.int h), some (.int (nI m)), some (.int io), some (.int wo), some (.int (nI s)), some (.ref b7), some (.int held), some (.int (nI n))] [] KW y Q := by
  intro n
  induction n with
  | zero =>
    intro y hn hy h0 h1
    have E2 := E.eqx hy (Or.inl rfl)
    refine v_X4_weeksLoaded_118 (ks0 E.1) E2.2.1.2.2.2.2.1 (ks5 E.1) ⟨fun _ => ?_, fun z => ?_⟩
    · rw [nI_1]
      refine k y hy (fun j hj i hi => ?_)
      rcases Nat.eq_zero_or_pos j with rfl | hp
      · rw [h0 0 (Nat.le_refl 0) i hi]
        simp
      · exact h1 j hp hj i hi
    · exact absurd (by decide) z
  | succ n ih =>
    intro y hn hy h0 h1
    have E2 := E.eqx hy (Or.inl rfl)
    refine v_X4_weeksLoaded_118 (ks0 E.1) E2.2.1.2.2.2.2.1 (ks5 E.1) ⟨fun z => ?_, fun _ => ⟨vp_in_nI (by omega) (by decide), ?_, ?_⟩⟩
    · exact absurd z (show ¬ nI (n + 1) < nI 1 from nI_nlt (by omega) (by omega))
    · rw [nI_pred]
      exact vp_in_nI (by omega) (by decide)
    · rw [pk_m1, nI_pred, nI_clamp (by omega), nI_clamp (by omega)]
      refine ih _ (by omega) hy.ui (fun j hj i hi => ?_) (fun j hj hjm i hi => ?_)
      · rw [gi_ui, if_neg (by omega)]
        exact h0 j (by omega) i hi
      · by_cases hjn : j = n + 1
        · subst hjn
          rw [gi_ui, if_pos ⟨rfl, rfl⟩, tb_or, tb_and, h0 (n + 1) (Nat.le_refl _) i hi, h0 n (by omega) i hi, hh i hi]
          have : nW T (s + 1) i d h io wo = nW T s i d h io wo + (if cW T s i d h io wo = true then 1 else 0) := rfl
          rw [this]
          cases cW T s i d h io wo <;> simp <;> omega
        · rw [gi_ui, if_neg (by omega)]
          exact h1 j (by omega) hjm i hi
theorem lb_X4_weeksLoaded_49 {x : Cn} {Q : Int32 → Cn → Prop} {q : Nat} {T : TT} {W C S A N : Nat} (E : SEB x q T W C S A N) {d h io wo : Int32} {m : Nat} (hm : m ≤ S)
    (k : ∀ r y, EQx x y (q + 5) → isWL T S d h io wo (nI m) r → Q r y) :
    ∀ (n s : Nat) (y : Cn), s + n = S → EQx x y (q + 5) → (∀ j, j ≤ m → ∀ i, i < 32 → tb (gi y (q + 5) j) i = decide (j ≤ nW T s i d h io wo)) → GI mX4_weeksLoaded 49 [some (.ref q), some (.int d), some (.int h), some (.int (nI m)), some (.int io), some (.int wo), some (.int (nI s)), none, none, none] [] KW y Q := by
  have hS := E.nums.2.2.2.2.2.2.1
  intro n
  induction n with
  | zero =>
    intro s y hs hy h0
    have E2 := E.eqx hy (Or.inl rfl)
    have hn := E2.nums
    refine v_X4_weeksLoaded_49 (ks0 E.1) E2.2.1.2.2.2.2.1 (ks5 E.1) E2.2.1.2.2.1 (ks3 E.1) ⟨fun _ => ⟨vp_in_nI (by omega) (by decide), ?_⟩, fun z => ?_⟩
    · rw [nI_clamp (by omega)]
      refine k _ y hy (fun i hi => ?_)
      have hc : nW T S i d h io wo ≤ S := cnt_le _ _
      rw [h0 m (Nat.le_refl _) i hi, decide_eq_true_iff, show s = S by omega, nI_leI (by omega) (by omega)]
    · exact absurd (by rw [hn.2.2.1]; exact nI_le (by omega) (by omega)) z
  | succ n ih =>
    intro s y hs hy h0
    have E2 := E.eqx hy (Or.inl rfl)
    have hn := E2.nums
    obtain ⟨p, e1, e2, e3, e4, -, -⟩ := E2.ser (s := s) (by omega)
    have skip : ¬ (so T s 1 = d ∧ so T s 2 = h ∧ ¬ tb wo s = true ∧ (so T s 3 = 0 ∨ io = 0)) → GI mX4_weeksLoaded 49 [some (.ref q), some (.int d), some (.int h), some (.int (nI m)), some (.int io), some (.int wo), some (.int (nI s + 1)), none, none, none] [] KW y Q := by
      intro z
      rw [nI_1]
      refine ih (s + 1) y (by omega) hy (fun j hj i hi => ?_)
      rw [h0 j hj i hi]
      have : nW T (s + 1) i d h io wo = nW T s i d h io wo + (if cW T s i d h io wo = true then 1 else 0) := rfl
      rw [this, show cW T s i d h io wo = false by unfold cW; rw [decide_eq_false z]; rfl]
      rfl
    have take : (so T s 1 = d ∧ so T s 2 = h ∧ ¬ tb wo s = true ∧ (so T s 3 = 0 ∨ io = 0)) → GI mX4_weeksLoaded 118 [some (.ref q), some (.int d), some (.int h), some (.int (nI m)), some (.int io), some (.int wo), some (.int (nI s)), some (.ref p), some (.int (f_held y p)), some (.int (nI m))] [] KW y Q := by
      intro z
      refine lb_X4_weeksLoaded_118 E (by omega) (fun i hi => ?_) (by omega) (fun y2 hy2 g => ih (s + 1) y2 (by omega) hy2 g) m y (Nat.le_refl _) hy h0 (fun j h1 h2 => by omega)
      rw [e4]
      unfold cW
      rw [decide_eq_true z]
      simp
    refine v_X4_weeksLoaded_49 (ks0 E.1) E2.2.1.2.2.2.2.1 (ks5 E.1) E2.2.1.2.2.1 (ks3 E.1) ⟨fun z => ?_, fun _ => ⟨vp_in_nI (by omega) (by decide), p, by rw [nI_clamp (by omega)]; exact e1, e2, ?_⟩⟩
    · rw [hn.2.2.1] at z
      exact absurd z (nI_ge (by omega) (by omega))
    · rw [e3.1 1 (by decide) (by decide), e3.1 2 (by decide) (by decide), e3.1 3 (by decide) (by decide), f_bit_tb _ (by omega)]
      exact ⟨fun z => skip (fun g => z g.1), fun z1 => ⟨fun z => skip (fun g => z g.2.1), fun z2 => ⟨fun z => skip (fun g => g.2.2.1 z), fun z3 => ⟨fun z => take ⟨z1, z2, z3, Or.inl z⟩, fun z4 => ⟨fun z => skip (fun g => g.2.2.2.elim z4 z), fun z => take ⟨z1, z2, z3, Or.inr z⟩⟩⟩⟩⟩⟩
theorem lb_X4_weeksLoaded_26 {x : Cn} {Q : Int32 → Cn → Prop} {q : Nat} {T : TT} {W C S A N : Nat} (E : SEB x q T W C S A N) {d h io wo : Int32} {m : Nat} (hm : m ≤ S)
    (k : ∀ r y, EQx x y (q + 5) → isWL T S d h io wo (nI m) r → Q r y) :
    ∀ (n j : Nat) (y : Cn), j + n = m + 1 → 1 ≤ j → EQx x y (q + 5) → gi y (q + 5) 0 = -1 → (∀ i, 1 ≤ i → i < j → gi y (q + 5) i = 0) → GI mX4_weeksLoaded 26 [some (.ref q), some (.int d), some (.int h), some (.int (nI m)), some (.int io), some (.int wo), some (.int (nI j)), none, none, none] [] KW y Q := by
  have hS := E.nums.2.2.2.2.2.2.1
  intro n
  induction n with
  | zero =>
    intro j y hj h1 hy g0 g1
    have E2 := E.eqx hy (Or.inl rfl)
    refine v_X4_weeksLoaded_26 (ks0 E.1) E2.2.1.2.2.2.2.1 (ks5 E.1) ⟨fun _ => ?_, fun z => ?_⟩
    · refine lb_X4_weeksLoaded_49 E hm k S 0 y (by omega) hy (fun i hi b hb => ?_)
      rcases Nat.eq_zero_or_pos i with rfl | hp
      · rw [g0, tb_m1 hb]
        simp
      · rw [g1 i hp (by omega), tb_0]
        show false = decide (i ≤ 0)
        rw [decide_eq_false (by omega)]
    · exact absurd (nI_lt (show m < j by omega) (by omega)) z
  | succ n ih =>
    intro j y hj h1 hy g0 g1
    have E2 := E.eqx hy (Or.inl rfl)
    refine v_X4_weeksLoaded_26 (ks0 E.1) E2.2.1.2.2.2.2.1 (ks5 E.1) ⟨fun z => ?_, fun _ => ⟨vp_in_nI (by omega) (by decide), ?_⟩⟩
    · exact absurd z (nI_nlt (by omega) (by omega))
    · rw [nI_1, nI_clamp (by omega)]
      refine ih (j + 1) _ (by omega) (by omega) hy.ui ?_ (fun i hi hij => ?_)
      · rw [gi_ui, if_neg (by omega)]
        exact g0
      · by_cases hij2 : i = j
        · subst hij2
          rw [gi_ui, if_pos ⟨rfl, rfl⟩]
        · rw [gi_ui, if_neg (fun z => hij2 z.2)]
          exact g1 i hi (by omega)
theorem sb_X4_weeksLoaded {x : Cn} {Q : Int32 → Cn → Prop} {q : Nat} {T : TT} {W C S A N : Nat} (E : SEB x q T W C S A N) {d h least io wo : Int32} (k : ∀ r y, EQx x y (q + 5) → isWL T S d h io wo least r → Q r y) : mSI mX4_weeksLoaded [.ref q, .int d, .int h, .int least, .int io, .int wo] KW x Q := by
  have hn := E.nums
  have hS := hn.2.2.2.2.2.2.1
  refine v_X4_weeksLoaded_0 (ks0 E.1) E.2.1.2.2.2.2.1 (ks5 E.1) ⟨fun z => ⟨fun z2 => ⟨iv0 0 25 (by decide) (by decide) (by decide), ?_⟩, fun z2 => ?_⟩, fun z => ?_⟩
  · obtain ⟨m, hm, rfl⟩ := nI_of (x := least) (Int32.not_lt.mpr (Int32.le_of_lt z))
    rw [hn.2.2.1, nI_leI hm (by omega)] at z2
    exact lb_X4_weeksLoaded_26 E z2 k m 1 _ (by omega) (by omega) (EQx.rf x _).ui (by rw [gi_ui, if_pos ⟨rfl, rfl⟩]) (fun i h1 h2 => by omega)
  · refine k 0 x (EQx.rf x _) (fun i hi => ⟨fun g => ?_, fun g => ?_⟩)
    · rw [tb_0] at g
      cases g
    · have hc : nW T S i d h io wo ≤ S := cnt_le _ _
      refine absurd (Int32.le_trans g ?_) z2
      rw [hn.2.2.1]
      exact nI_le hc (by omega)
  · refine k (-1) x (EQx.rf x _) (fun i hi => ⟨fun _ => ?_, fun _ => tb_m1 hi⟩)
    have hc : nW T S i d h io wo ≤ S := cnt_le _ _
    exact Int32.le_trans (Int32.not_lt.mp z) (nI_pos' (by omega))

section
variable {x : Cn} {Q : Int32 → Cn → Prop} {q : Nat} {T : TT} {W C S A N : Nat}
theorem sb_X4_hasPlace (E : SEB x q T W C S A N) {d way bits wo : Int32} {h : Nat} (hh : h < 24) (k : ∀ y, EQx x y (q + 5) → Q (bP (fitC T S N d h way bits wo)) y) : mSI mX4_hasPlace [.ref q, .int d, .int (nI h), .int way, .int bits, .int wo] KW x Q := by
  have hn := E.nums
  have hl := E.2.2.1.2.2.2.2.2.1 h hh
  refine v_X4_hasPlace_0 (ks0 E.1) E.2.1.1 (ks1 E.1) ⟨vp_in_nI hh (by decide), ?_⟩
  rw [nI_clamp (show h < 2 ^ 31 by omega), hl.1, hn.2.1]
  refine sb_X4_weeksLoaded E (fun r y hy hr => ?_)
  have E2 := E.eqx hy (Or.inl rfl)
  have hl2 := E2.2.2.1.2.2.2.2.2.1 h hh
  refine ⟨fun z => ?_, fun z => ?_⟩
  · have g1 := (and3_0 (by omega) hr).mp z
    refine ⟨fun w => (bP_k (k y hy)).1 (fun i hi h1 h2 => ⟨g1 i hi h1 h2, fun u => absurd w u⟩), fun w => ⟨q + 2, E2.2.1.2.1, 24, ks2 E.1, vp_in_nI hh (by decide), ?_⟩⟩
    rw [hl2.2]
    refine sb_X4_weeksLoaded E2 (fun r2 y2 hy2 hr2 => ⟨fun z2 => ?_, fun z2 => ?_⟩)
    · have := k y2 (hy.tr hy2)
      rwa [bP_f (fun f => z2 ((and3_0 (by omega) hr2).mpr (fun i hi h1 h2 => (f i hi h1 h2).2 w)))] at this
    · have g2 := (and3_0 (by omega) hr2).mp z2
      exact (bP_k (k y2 (hy.tr hy2))).1 (fun i hi h1 h2 => ⟨g1 i hi h1 h2, fun _ => g2 i hi h1 h2⟩)
  · have := k y hy
    rwa [bP_f (fun f => z ((and3_0 (by omega) hr).mpr (fun i hi h1 h2 => (f i hi h1 h2).1)))] at this
end
section
variable {x : Cn} {Q : Int32 → Cn → Prop}
theorem sb_X8_canBe {t : Nat} (M : MRf x t) (ht : kk KW t = some (20, 518)) {W C S A N : Nat} (F : WFB (gi x t) W C S A N) {d way bits b wo : Int32} {h : Nat} (hh : h < 24) (hw : way = 0 ∨ way = 1) (hb : ∀ i, i < 32 → tb bits i = true → N ≤ i → i < W) (hwo : ∀ s, s < 24 → (tb wo s = true ↔ nI s = b)) (k : Q (bP (fitC (gi x t) S N d h way bits wo)) x) : mSI mX8_canBe [.ref 717, .int bits, .int d, .int (nI h), .int way, .int b] KW x Q := by
  obtain ⟨t0, t1, hW, t2, t3, t4, hS, t6, t7, t8, hN, hl, -, -⟩ := F
  have key : ∀ n w, w + n = W → (∀ i, i < w → tb bits i = true → N ≤ i → ¬ gi x t (6 + 2 * h) ≤ nI (nW (gi x t) S i d (nI h) 0 wo) ∧ (¬ way = 1 → ¬ gi x t (7 + 2 * h) ≤ nI (nW (gi x t) S i d (nI h) 1 wo))) → GI mX8_canBe 3 [some (.ref 717), some (.int bits), some (.int d), some (.int (nI h)), some (.int way), some (.int b), some (.int (nI w))] [] KW x Q := by
    intro n
    induction n with
    | zero =>
      intro w hw2 g
      refine v_X8_canBe_3 km M.2.2.1 ht ⟨v0 (k := 0) (by decide) rfl rfl, fun _ => ?_, fun z => absurd (by rw [t0]; exact nI_le (by omega) (by omega)) z⟩
      exact (bP_k k).1 (fun i hi h1 h2 => g i (by have := hb i hi h1 h2; omega) h1 h2)
    | succ n ih =>
      intro w hw2 g
      have nx : (tb bits w = true → N ≤ w → ¬ gi x t (6 + 2 * h) ≤ nI (nW (gi x t) S w d (nI h) 0 wo) ∧ (¬ way = 1 → ¬ gi x t (7 + 2 * h) ≤ nI (nW (gi x t) S w d (nI h) 1 wo))) → GI mX8_canBe 3 [some (.ref 717), some (.int bits), some (.int d), some (.int (nI h)), some (.int way), some (.int b), some (.int (nI w + 1))] [] KW x Q := by
        intro gg
        rw [nI_1]
        refine ih (w + 1) (by omega) (fun i hi => ?_)
        by_cases c : i = w
        · rw [c]; exact gg
        · exact g i (by omega)
      refine v_X8_canBe_3 km M.2.2.1 ht ⟨v0 (k := 0) (by decide) rfl rfl, fun z => absurd (by rw [t0] at z; exact z) (nI_ge (by omega) (by omega)), fun _ => ⟨v0 (k := 4) (by decide) rfl rfl, ?_⟩⟩
      rw [f_has_tb _ (by omega), tb_and, t8, t0, tb_fn hW hN (by omega) (by omega)]
      refine ⟨fun z => ?_, fun z => nx (fun z1 z2 => absurd (by rw [z1, decide_eq_true (by omega)]; rfl) z)⟩
      simp only [Bool.and_eq_true, decide_eq_true_eq] at z
      refine sp_X8_loadBut M ht t4 hS (by omega) ⟨M.2.2.1, ?_⟩
      rw [ixh1, ixh, nI_clamp (show 6 + 2 * h < 2 ^ 31 by omega), nI_clamp (show 7 + 2 * h < 2 ^ 31 by omega), ldB_nW0 hwo S hS]
      refine ⟨vp_in_nI (by omega) (by decide), fun z2 => ⟨fun z3 => nx (fun _ _ => ⟨Int32.not_le.mpr z2, fun u => absurd (hw.resolve_left z3) u⟩), fun z3 => ?_⟩, fun z2 => ?_⟩
      · refine sp_X8_loadBut M ht t4 hS (by omega) ⟨M.2.2.1, vp_in_nI (by omega) (by decide), ?_⟩
        rw [ldB_nW1 hwo S hS]
        refine ⟨fun z4 => nx (fun _ _ => ⟨Int32.not_le.mpr z2, fun _ => Int32.not_le.mpr z4⟩), fun z4 => ?_⟩
        exact (bP_k k).2 (fun f => (f w (by omega) z.1 z.2.1).2 (by rw [z3]; decide) (Int32.not_lt.mp z4))
      · exact (bP_k k).2 (fun f => (f w (by omega) z.1 z.2.1).1 (Int32.not_lt.mp z2))
  exact v_X8_canBe_0 (key W 0 (by omega) (fun i hi => absurd hi (by omega)))
theorem sb_X8_canAsk {t : Nat} (M : MRf x t) (ht : kk KW t = some (20, 518)) {W C S A N : Nat} (F : WFB (gi x t) W C S A N) {b wo : Int32} {a h : Nat} (ha : a < A) (hh : h < 24) (hwo : ∀ s, s < 24 → (tb wo s = true ↔ nI s = b)) (k : Q (bP (fitA (gi x t) S N a h wo)) x) : mSI mX8_canAsk [.ref 717, .int (nI a), .int (nI h), .int b] KW x Q := by
  have hA : A ≤ 24 := F.2.2.2.2.2.2.2.2.1
  have hW : W ≤ 30 := F.2.2.1
  have hN : N ≤ W := F.2.2.2.2.2.2.2.2.2.2.1
  obtain ⟨-, -, -, a3, ⟨f, l, f1, f2, f3, f4⟩, -⟩ := F.2.2.2.2.2.2.2.2.2.2.2.2.2 a ha
  refine v_X8_canAsk_0 km M.2.2.1 ht ⟨l24_nI (by omega) rfl, ?_⟩
  rw [nI_clamp (by omega), F.1, F.2.2.2.2.2.2.2.2.2.1]
  refine sb_X8_canBe M ht F hh a3 ?_ hwo ⟨bP_01 _, ?_⟩
  · intro i hi z1 z2
    rw [tb_and, Bool.and_eq_true, tb_fn hW hN hi (by omega)] at z1
    exact (of_decide_eq_true z1.2).2
  · rw [bP_congr (fitC_bits (b2 := f_sb (ao (gi x t) a 4) (ao (gi x t) a 5)) (fun i hi h2 => ?_))]
    · exact k
    · rw [tb_and, tb_fn hW hN hi (by omega), f3, f4, sb_span (by omega) (by omega), tb_span0 f (by omega) l (by omega) i hi]
      by_cases c : f ≤ i ∧ i ≤ l
      · rw [decide_eq_true c, decide_eq_true (show N ≤ i ∧ i < W by omega)]; rfl
      · rw [decide_eq_false c]; rfl
theorem sb_X4_hasPlaceFor {q : Nat} {T : TT} {W C S A N : Nat} (E : SEB x q T W C S A N) {a p h : Nat} {wo : Int32} (hp : kk KW p = some (0, 0)) (hq : ASR x p T a) (hh : h < 24) (k : ∀ y, EQx x y (q + 5) → Q (bP (fitA T S N a h wo)) y) : mSI mX4_hasPlaceFor [.ref q, .ref p, .int (nI h), .int wo] KW x Q := by
  refine v_X4_hasPlaceFor_0 hp (ks0 E.1) ?_
  rw [hq 1 (by decide), hq 3 (by decide), hq 4 (by decide), hq 5 (by decide)]
  exact sb_X4_hasPlace E hh (fun y hy => ⟨bP_01 _, k y hy⟩)
theorem sb_X4_hourFor {q : Nat} {T : TT} {W C S A N : Nat} (E : SEB x q T W C S A N) {a p : Nat} (ha : a < A) (hg : gr x (q + 4) a = some p) (k : ∀ y, EQx x y (q + 5) → Q (hrF T S N a) y) : mSI mX4_hourFor [.ref q, .ref p] KW x Q := by
  have hn := E.nums
  have hA : A ≤ 24 := hn.2.2.2.2.2.2.2.1
  have hS : S ≤ 24 := hn.2.2.2.2.2.2.1
  obtain ⟨p', e1, e2, e3, ⟨-, -, ⟨h, h1, h2⟩, -, ⟨f, l, f1, f2, f3, f4⟩, ⟨b, b1, b2⟩⟩⟩ := E.ask ha
  have epp : p' = p := Option.some.inj (e1.symm.trans hg)
  subst epp
  have hW : W ≤ 30 := hn.2.2.2.2.1
  have hN : N ≤ W := hn.2.2.2.2.2.2.2.2
  have ep : ∀ y, EQx x y (q + 5) → ASR y p' T a := fun y hy => (E.eqx hy (Or.inl rfl)).2.2.1.2.2.2.2.2.2.2 a p' ha (by unfold gr; rw [hy.1]; exact hg)
  refine v_X4_hourFor_0 (ks0 E.1) e2 ?_
  rw [hn.2.2.1, hn.2.1, e3 5 (by decide), f4, e3 2 (by decide), h2]
  refine ⟨fun z => ?_, fun z => ⟨fun z2 => ?_, fun z2 => ?_⟩⟩
  · have hz : S = 24 := by
      have := (nI_leI (a := 24) (b := S) (by decide) (by omega)).mp z
      omega
    have := k x (EQx.rf _ _)
    unfold hrF at this
    rwa [if_pos (Or.inr hz)] at this
  · have z3 : N ≤ l := (nI_leI (by omega) (by omega)).mp z2
    have z4 : ¬ S = 24 := fun e => z (by rw [e]; exact Int32.le_refl _)
    have k2 : ∀ y, EQx x y (q + 5) → Q (lpR (stH (fun h => fitA T S N a h 0) h) (fun _ => -1) (b + 1) 0 ()) y := by
      intro y hy
      have := k y hy
      unfold hrF at this
      rwa [f4, nI_clamp (by omega), if_neg (by omega), h2, nI_clamp (by omega), b2, nI_clamp (by omega)] at this
    rw [e3 1 (by decide), e3 3 (by decide), e3 4 (by decide), f3]
    have fA : ∀ h, fitC T S N (ao T a 1) h (ao T a 3) (f_sb (nI f) (nI l)) 0 = fitA T S N a h 0 := fun h => by unfold fitA; rw [f3, f4]
    refine sb_X4_hasPlace E h1 (fun y hy => ?_)
    rw [fA]
    refine ⟨fun w => ?_, fun w => ?_⟩
    · have k3 : ∀ y, EQx x y (q + 5) → Q (lpR (stH (fun h => fitA T S N a h 0) h) (fun _ => -1) b 1 ()) y := by
        intro y hy
        have := k2 y hy
        simp only [lpR] at this
        have e0 : stH (fun h => fitA T S N a h 0) h 0 () = .inl () := by
          unfold stH
          rw [if_neg (fun u => u.2 (by simpa using w)), if_neg (fun u => u.2 (by simpa using w))]
        rw [e0] at this
        exact this
      refine lp_gen (stH (fun h => fitA T S N a h 0) h) (fun _ => -1) (fun d _ => ∀ y, EQx x y (q + 5) → GI mX4_hourFor 55 [some (.ref q), some (.ref p'), some (.int (f_sb (nI f) (nI l))), some (.int (nI d)), none, none] [] KW y Q) (fun r => ∀ y, EQx x y (q + 5) → Q r y) (b + 1) (fun _ k y hy => ?_) (fun d _ hd n1 n2 y hy => ?_) b 1 () (by omega) k3 y hy
      · refine v_X4_hourFor_55 e2 (ks0 E.1) ?_
        rw [ep y hy 6 (by decide), b2]
        exact ⟨fun _ => k y hy, fun z => absurd (nI_lt (by omega) (by omega)) z⟩
      · have E2 := E.eqx hy (Or.inl rfl)
        refine v_X4_hourFor_55 e2 (ks0 E.1) ?_
        rw [ep y hy 6 (by decide), b2, ep y hy 2 (by decide), h2, ep y hy 1 (by decide), ep y hy 3 (by decide), nI_add, nI_1]
        refine ⟨fun z => absurd z (nI_nlt (by omega) (by omega)), fun _ => ?_⟩
        have up : ∀ y, EQx x y (q + 5) → ¬ (d ≤ h ∧ ¬ bP (fitA T S N a (h - d) 0) = 0) → (nI 24 ≤ nI (h + d) → GI mX4_hourFor 55 [some (.ref q), some (.ref p'), some (.int (f_sb (nI f) (nI l))), some (.int (nI (d + 1))), none, none] [] KW y Q) ∧ (¬ nI 24 ≤ nI (h + d) → mSI mX4_hasPlace [.ref q, .int (ao T a 1), .int (nI (h + d)), .int (ao T a 3), .int (f_sb (nI f) (nI l)), .int 0] KW y (fun r y_4 => (r = 0 → GI mX4_hourFor 55 [some (.ref q), some (.ref p'), some (.int (f_sb (nI f) (nI l))), some (.int (nI (d + 1))), none, none] [] KW y_4 Q) ∧ (¬ r = 0 → Q (nI (h + d)) y_4))) := by
          intro y hy w
          refine ⟨fun z => n1 () ?_ y hy, fun z => ?_⟩
          · unfold stH
            rw [if_neg w, if_neg (fun u => nI_ge u.1 (by decide) z)]
          · have hd2 : h + d < 24 := by
              by_cases c : h + d < 24
              · exact c
              · exact absurd (nI_le (by omega) (by omega)) z
            refine sb_X4_hasPlace (E.eqx hy (Or.inl rfl)) hd2 (fun y2 hy2 => ?_)
            rw [fA]
            refine ⟨fun u => n1 () ?_ y2 (hy.tr hy2), fun u => n2 _ ?_ y2 (hy.tr hy2)⟩
            · unfold stH
              rw [if_neg w, if_neg (fun g => g.2 u)]
            · unfold stH
              rw [if_neg w, if_pos ⟨hd2, u⟩]
        refine ⟨fun z => up y hy (fun u => ?_), fun z => ?_⟩
        · rw [pk_sub u.1] at z
          exact nI_pos (by omega) z
        · have hd2 : d ≤ h := by
            by_cases c : d ≤ h
            · exact c
            · exact absurd (pk_sneg (by omega) (by omega)) z
          rw [pk_sub hd2]
          refine sb_X4_hasPlace E2 (by omega) (fun y2 hy2 => ?_)
          rw [fA]
          refine ⟨fun u => ?_, fun u => n2 _ ?_ y2 (hy.tr hy2)⟩
          · have hy3 := hy.tr hy2
            rw [ep y2 hy3 2 (by decide), h2, ep y2 hy3 1 (by decide), ep y2 hy3 3 (by decide), nI_add]
            exact up y2 hy3 (fun g => g.2 u)
          · unfold stH
            rw [if_pos ⟨hd2, u⟩]
    · have := k2 y hy
      simp only [lpR] at this
      have e0 : stH (fun h => fitA T S N a h 0) h 0 () = .inr (nI h) := by
        unfold stH
        rw [if_pos ⟨Nat.zero_le _, by simpa using w⟩]
        rfl
      rw [e0] at this
      rw [ep y hy 2 (by decide), h2]
      exact this
  · have z3 : l < N := by
      by_cases c : l < N
      · exact c
      · exact absurd (nI_le (by omega) (by omega)) z2
    have := k x (EQx.rf _ _)
    unfold hrF at this
    rw [f4, nI_clamp (by omega), if_pos (Or.inl z3)] at this
    exact this
theorem sb_X8_hourFor {t : Nat} (M : MRf x t) (ht : kk KW t = some (20, 518)) {W C S A N : Nat} (F : WFB (gi x t) W C S A N) {a : Nat} (ha : a < A) (k : Q (hrF (gi x t) S N a) x) : mSI mX8_hourFor [.ref 717, .int (nI a)] KW x Q := by
  have hA : A ≤ 24 := F.2.2.2.2.2.2.2.2.1
  have hS : S ≤ 24 := F.2.2.2.2.2.2.1
  have hW : W ≤ 30 := F.2.2.1
  have hN : N ≤ W := F.2.2.2.2.2.2.2.2.2.2.1
  obtain ⟨-, -, ⟨h, h1, h2⟩, a3, ⟨f, l, f1, f2, f3, f4⟩, ⟨b, b1, b2⟩⟩ := F.2.2.2.2.2.2.2.2.2.2.2.2.2 a ha
  refine v_X8_hourFor_0 km M.2.2.1 ht ⟨l24_nI (by omega) rfl, ?_⟩
  rw [nI_clamp (by omega), F.1, F.2.2.2.2.2.2.2.2.2.1, f3, f4, span_and0 (by omega) f2 hW hN, F.2.2.2.2.2.1, h2]
  unfold hrF at k
  rw [f4, nI_clamp (by omega), h2, nI_clamp (by omega), b2, nI_clamp (by omega)] at k
  refine ⟨fun z => by rwa [if_pos (Or.inl z)] at k, fun z => ⟨v0 (k := 2) (by decide) rfl rfl, fun z2 => ?_, fun z2 => ?_⟩⟩
  · rw [if_neg (fun u => u.elim z (fun e => z2 (by rw [e]; rfl)))] at k
    refine lp_gen (stH (fun h => fitA (gi x t) S N a h 0) h) (fun _ => -1) (fun d _ => GI mX8_hourFor 30 [some (.ref 717), some (.int (nI a)), some (.int (nI h)), some (.int (nI d))] [] KW x Q) (fun r => Q r x) (b + 1) (fun _ k => ?_) (fun d _ hd n1 n2 => ?_) (b + 1) 0 () (by omega) k
    · refine v_X8_hourFor_30 km M.2.2.1 ht ⟨l24_nI (by omega) rfl, ?_⟩
      rw [nI_clamp (by omega), b2]
      exact ⟨fun _ => k, fun z => absurd (nI_lt (by omega) (by omega)) z⟩
    · refine v_X8_hourFor_30 km M.2.2.1 ht ⟨l24_nI (by omega) rfl, ?_⟩
      rw [nI_clamp (by omega), b2, nI_add, nI_1]
      refine ⟨fun z => absurd z (nI_nlt (by omega) (by omega)), fun _ => ?_⟩
      have up : ¬ (d ≤ h ∧ ¬ bP (fitA (gi x t) S N a (h - d) 0) = 0) → (nI 24 ≤ nI (h + d) → GI mX8_hourFor 30 [some (.ref 717), some (.int (nI a)), some (.int (nI h)), some (.int (nI (d + 1)))] [] KW x Q) ∧ (¬ nI 24 ≤ nI (h + d) → mSI mX8_canAsk [.ref 717, .int (nI a), .int (nI (h + d)), .int (-1)] KW x (fun r y_4 => (r = 0 → GI mX8_hourFor 30 [some (.ref 717), some (.int (nI a)), some (.int (nI h)), some (.int (nI (d + 1)))] [] KW y_4 Q) ∧ (¬ r = 0 → Q (nI (h + d)) y_4))) := by
        intro w
        refine ⟨fun z => n1 () ?_, fun z => ?_⟩
        · unfold stH
          rw [if_neg w, if_neg (fun u => nI_ge u.1 (by decide) z)]
        · have hd2 : h + d < 24 := by
            by_cases c : h + d < 24
            · exact c
            · exact absurd (nI_le (by omega) (by omega)) z
          refine sb_X8_canAsk M ht F ha hd2 wo_0 ⟨fun u => n1 () ?_, fun u => n2 _ ?_⟩
          · unfold stH
            rw [if_neg w, if_neg (fun g => g.2 u)]
          · unfold stH
            rw [if_neg w, if_pos ⟨hd2, u⟩]
      refine ⟨fun z => up (fun u => nI_nlt u.1 (by omega) z), fun z => ?_⟩
      have hd2 : d ≤ h := by
        by_cases c : d ≤ h
        · exact c
        · exact absurd (nI_lt (by omega) (by omega)) z
      rw [pk_sub hd2]
      refine sb_X8_canAsk M ht F ha (by omega) wo_0 ⟨fun u => up (fun g => g.2 u), fun u => n2 _ ?_⟩
      unfold stH
      rw [if_pos ⟨hd2, u⟩]
  · have hz : S = 24 := (nI_eq (b := 24) (by omega) (by decide)).mp z2
    rwa [if_pos (Or.inr hz)] at k
end
theorem SEB.mv {x y : Cn} {q : Nat} {T T' : TT} {W C S A N : Nat} (E : SEB x q T W C S A N) (h1 : ∀ a k, q ≤ a → a < q + 54 → gr y a k = gr x a k) (h2 : ∀ a k, q ≤ a → a < q + 54 → a ≠ q + 5 → gi y a k = gi x a k) (hT : ∀ i, i < 518 → T' i = T i) : SEB y q T' W C S A N := by
  obtain ⟨e1, e2, ⟨v0, v1, v2, v3, v4, v5, v6, v7⟩, e4⟩ := E
  have hS : S ≤ 24 := e4.2.2.2.2.2.2.1
  have hA : A ≤ 24 := e4.2.2.2.2.2.2.2.2.1
  have g0 : ∀ k, gr y q k = gr x q k := fun k => h1 q k (by omega) (by omega)
  have g3 : ∀ k, gr y (q + 3) k = gr x (q + 3) k := fun k => h1 (q + 3) k (by omega) (by omega)
  have g4 : ∀ k, gr y (q + 4) k = gr x (q + 4) k := fun k => h1 (q + 4) k (by omega) (by omega)
  have hr := e2
  obtain ⟨r1, r2, r3, r4, r5, r6, r7, r8, r9⟩ := e2
  refine ⟨e1, ?_, ⟨?_, ?_, ?_, ?_, ?_, ?_, ?_, ?_⟩, e4.cg hT⟩
  · unfold SRf at hr ⊢
    simp only [g0, g3, g4]
    exact hr
  · rw [h2 q 0 (by omega) (by omega) (by omega), hT 0 (by decide)]; exact v0
  · rw [h2 q 1 (by omega) (by omega) (by omega), hT 4 (by decide)]; exact v1
  · rw [h2 q 2 (by omega) (by omega) (by omega), hT 5 (by decide)]; exact v2
  · rw [h2 q 3 (by omega) (by omega) (by omega), hT 2 (by decide)]; exact v3
  · rw [h2 q 4 (by omega) (by omega) (by omega), hT 3 (by decide)]; exact v4
  · intro hh h24
    rw [h2 (q + 1) hh (by omega) (by omega) (by omega), h2 (q + 2) hh (by omega) (by omega) (by omega), hT _ (by omega), hT _ (by omega)]
    exact v5 hh h24
  · intro s p hs hp
    rw [g3] at hp
    obtain ⟨j, hj, ej⟩ := r6 s (by omega)
    have hpe : p = q + 6 + j := Option.some.inj (hp.symm.trans ej)
    exact (v6 s p hs hp).cg (fun k _ => h2 p k (by omega) (by omega) (by omega)) (fun k hk => hT _ (by omega))
  · intro s p hs hp
    rw [g4] at hp
    obtain ⟨j, hj, ej⟩ := r8 s (by omega)
    have hpe : p = q + 30 + j := Option.some.inj (hp.symm.trans ej)
    exact (v7 s p hs hp).cg (fun k _ => h2 p k (by omega) (by omega) (by omega)) (fun k hk => hT _ (by omega))
theorem SEB.off {x y : Cn} {p q : Nat} {T : TT} {W C S A N : Nat} (E : SEB x p T W C S A N) (hq : Isea q) (h : p ≠ q) (f : Frq x y q) : SEB y p T W C S A N := by
  have d := Isea.dis E.1 hq h
  exact E.mv (fun a k _ _ => f.rr a k) (fun a k h1 h2 _ => f.2 a k (by omega)) (fun _ _ => rfl)
end
/-! 54.pool1.lean.txt -/
section
theorem k117 : kk KW 117 = some (2, 0) := by decide
theorem k172 : kk KW 172 = some (20, 56) := by decide
theorem k173 : kk KW 173 = some (20, 24) := by decide
theorem k174 : kk KW 174 = some (20, 24) := by decide
theorem nI_ne1 {n : Nat} (h : n < 2 ^ 31) : ¬ nI n = -1 := fun e => absurd (nI_pos' h) (by rw [e]; decide)
/-- how many series a carrier has on a day -/
def hN (T : TT) (S : Nat) (c d : Int32) : Int32 := accT (inc (fun s => so T s 0 = c ∧ (d = -1 ∨ so T s 1 = d))) S 0
theorem hN_s (T : TT) (S : Nat) (c d : Int32) : hN T (S + 1) c d = if so T S 0 = c ∧ (d = -1 ∨ so T S 1 = d) then hN T S c d + 1 else hN T S c d := by
  unfold hN
  simp only [accT]
  rfl
theorem hN_cg {T T' : TT} {S : Nat} (h : ∀ s, s < S → so T' s 0 = so T s 0 ∧ so T' s 1 = so T s 1) (c d : Int32) : hN T' S c d = hN T S c d := by
  unfold hN
  refine accT_congr S (fun i a hi => ?_)
  show (if so T' i 0 = c ∧ (d = -1 ∨ so T' i 1 = d) then a + 1 else a) = (if so T i 0 = c ∧ (d = -1 ∨ so T i 1 = d) then a + 1 else a)
  rw [(h i hi).1, (h i hi).2]
abbrev ent (T : TT) (S a : Nat) : Prop := hN T S (ao T a 0) (ao T a 1) < 2
def HLD (y : Cn) (T : TT) (S : Nat) : Prop := ∀ c d, c < 8 → d < 7 → gi y 172 (c * 7 + d) = hN T S (nI c) (nI d)
theorem HLD.inc {y : Cn} {T T' : TT} {S c0 d0 : Nat} (h : HLD y T S) (hc : c0 < 8) (hd : d0 < 7) (h0 : so T' S 0 = nI c0) (h1 : so T' S 1 = nI d0) (hT : ∀ s, s < S → so T' s 0 = so T s 0 ∧ so T' s 1 = so T s 1) : HLD (ui y 172 (c0 * 7 + d0) (gi y 172 (c0 * 7 + d0) + 1)) T' (S + 1) := by
  intro c d hc' hd'
  rw [gi_ui, hN_s, hN_cg hT, h0, h1]
  by_cases e : c = c0 ∧ d = d0
  · rw [if_pos ⟨rfl, by omega⟩, if_pos ⟨by rw [e.1], Or.inr (by rw [e.2])⟩, h c0 d0 hc hd, e.1, e.2]
  · rw [if_neg (by omega), if_neg ?_, h c d hc' hd']
    rintro ⟨g1, g2⟩
    have g3 := (nI_eq (by omega) (by omega)).mp g1
    rcases g2 with g2 | g2
    · exact nI_ne1 (by omega) g2
    · have g4 := (nI_eq (by omega) (by omega)).mp g2
      omega
theorem HLD.mv {x y : Cn} {T : TT} {S : Nat} (h : HLD x T S) (e : ∀ i, gi y 172 i = gi x 172 i) : HLD y T S := fun c d hc hd => by rw [e]; exact h c d hc hd
/-- the pool's own rows -/
def PLf (x : Cn) : Prop := gr x 117 0 = some 118 ∧ gr x 117 1 = some 172 ∧ gr x 117 2 = some 173 ∧ gr x 117 3 = some 174
theorem CRf.pl {x : Cn} (h : CRf x) : PLf x := ⟨h.2.2.2.2.2.2.2.2.2.2.2.2.1, h.2.2.2.2.2.2.2.2.2.2.2.2.2.1, h.2.2.2.2.2.2.2.2.2.2.2.2.2.2.1, h.2.2.2.2.2.2.2.2.2.2.2.2.2.2.2.1⟩
theorem PLf.keep {x y : Cn} (h : PLf x) (e : y.2 = x.2) : PLf y := by
  have hg : ∀ b k, gr y b k = gr x b k := fun b k => by unfold gr; rw [e]
  unfold PLf at h ⊢
  simp only [hg]
  exact h
/-- the ask that comes next -/
def usd (t : TT) (a : Nat) : Bool := decide (¬ t a = -1)
def chS (T : TT) (S : Nat) (u : Nat → Bool) (e : Int32) : Nat → Int32 → Int32 := fun a b => if u a = false ∧ b2i (ent T S a) = e ∧ (b = -1 ∨ ao T b.toNatClampNeg 5 - ao T b.toNatClampNeg 4 < ao T a 5 - ao T a 4) then nI a else b
def chR (T : TT) (S A : Nat) (u : Nat → Bool) (e : Int32) : Int32 := accT (chS T S u e) A (-1)
def chC (T : TT) (S A : Nat) (u : Nat → Bool) (e : Int32) : Int32 := if chR T S A u e = -1 then chR T S A u (if e = 0 then 1 else 0) else chR T S A u e
theorem ch_in {T : TT} {S : Nat} {u : Nat → Bool} {e : Int32} : ∀ n, accT (chS T S u e) n (-1) = -1 ∨ ∃ j, j < n ∧ u j = false ∧ accT (chS T S u e) n (-1) = nI j := by
  intro n
  induction n with
  | zero => exact Or.inl rfl
  | succ n ih =>
    simp only [accT]
    generalize accT (chS T S u e) n (-1) = b at ih ⊢
    unfold chS
    by_cases c : u n = false ∧ b2i (ent T S n) = e ∧ (b = -1 ∨ ao T b.toNatClampNeg 5 - ao T b.toNatClampNeg 4 < ao T n 5 - ao T n 4)
    · rw [if_pos c]; exact Or.inr ⟨n, by omega, c.1, rfl⟩
    · rw [if_neg c]
      rcases ih with g | ⟨j, g1, g2, g3⟩
      · exact Or.inl g
      · exact Or.inr ⟨j, by omega, g2, g3⟩
theorem ch_ex {T : TT} {S : Nat} {u : Nat → Bool} {e : Int32} {j : Nat} (h1 : u j = false) (h2 : b2i (ent T S j) = e) : ∀ n, n < 2 ^ 31 → j < n → ¬ accT (chS T S u e) n (-1) = -1 := by
  intro n
  induction n with
  | zero => intro _ h; omega
  | succ n ih =>
    intro hn hj
    simp only [accT]
    generalize accT (chS T S u e) n (-1) = b at ih ⊢
    unfold chS
    by_cases c : u n = false ∧ b2i (ent T S n) = e ∧ (b = -1 ∨ ao T b.toNatClampNeg 5 - ao T b.toNatClampNeg 4 < ao T n 5 - ao T n 4)
    · rw [if_pos c]; exact nI_ne1 (by omega)
    · rw [if_neg c]
      by_cases hjn : j = n
      · subst hjn
        exact fun g => c ⟨h1, h2, Or.inl g⟩
      · exact ih (by omega) (by omega)
theorem chC_ok {T : TT} {S A : Nat} {u : Nat → Bool} {e : Int32} (he : e = 0 ∨ e = 1) (hA : A ≤ 24) {j : Nat} (hj : j < A) (hu : u j = false) : ∃ a, a < A ∧ u a = false ∧ chC T S A u e = nI a := by
  unfold chC chR
  by_cases c : accT (chS T S u e) A (-1) = -1
  · rw [if_pos c]
    have hne : ¬ b2i (ent T S j) = e := fun g => ch_ex hu g A (by omega) hj c
    have h2 : b2i (ent T S j) = (if e = 0 then 1 else 0) := by
      rcases he with rfl | rfl
      · rw [if_pos rfl]; exact (b2i_01 _).resolve_left hne
      · rw [if_neg (by decide)]; exact (b2i_01 _).resolve_right hne
    rcases ch_in (T := T) (S := S) (u := u) (e := if e = 0 then 1 else 0) A with g | ⟨a, g1, g2, g3⟩
    · exact absurd g (ch_ex hu h2 A (by omega) hj)
    · exact ⟨a, g1, g2, g3⟩
  · rw [if_neg c]
    rcases ch_in (T := T) (S := S) (u := u) (e := e) A with g | ⟨a, g1, g2, g3⟩
    · exact absurd g c
    · exact ⟨a, g1, g2, g3⟩
set_option maxHeartbeats 2000000 in
theorem v_X2_allAsks_0 {K : Sh} {x : Cn} {Q : Int32 → Cn → Prop} {b0 : Nat} {b0_0 : Nat} (k_b0 : kk K b0 = some (2, 0)) (g_b0_0 : gr x b0 0 = some b0_0) (k_b0_0 : kk K b0_0 = some (4, 0)) (K0 : Q ((1 <<< ((gi x b0_0 4) &&& 31)) - 1) x) : mSI mX2_allAsks [.ref b0] K x Q := by
  refine s_I (by decide) (by simp [Value.category]) (Nat.le_of_ble_eq_true rfl) ?_
  show mGM mX2_allAsks 0 [some (.ref b0)] [] (hp K x) (PI K Q)
  refine r_iconst (pc := 0) (v := 1) dX2_allAsks_0 (by decide) ?_
  refine r_aload_n (pc := 1) dX2_allAsks_1 rfl ?_
  refine s_getR (pc := 2) dX2_allAsks_2 fl_X2_12 rfl k_b0 g_b0_0 ?_
  refine s_getI (pc := 5) dX2_allAsks_5 fl_X2_53 rfl k_b0_0 ?_
  refine r_ishl (pc := 8) dX2_allAsks_8 ?_
  refine r_iconst (pc := 9) (v := 1) dX2_allAsks_9 (by decide) ?_
  refine r_isub (pc := 10) dX2_allAsks_10 ?_
  exact s_iret rfl dX2_allAsks_11 K0
set_option maxHeartbeats 2000000 in
theorem v_X2_isEntrants_0 {K : Sh} {x : Cn} {Q : Int32 → Cn → Prop} {b0 : Nat} {b1 : Nat} {b0_1 : Nat} {n_b0_1 : Nat} (k_b0 : kk K b0 = some (2, 0)) (g_b0_1 : gr x b0 1 = some b0_1) (k_b1 : kk K b1 = some (0, 0)) (k_b0_1 : kk K b0_1 = some (20, n_b0_1)) (K0 : vp_in (((gi x b1 0) * 7) + (gi x b1 1)) n_b0_1 ∧ ((2 ≤ (gi x b0_1 ((((gi x b1 0) * 7) + (gi x b1 1)) : Int32).toNatClampNeg) → (Q 0 x)) ∧ (¬ 2 ≤ (gi x b0_1 ((((gi x b1 0) * 7) + (gi x b1 1)) : Int32).toNatClampNeg) → (Q 1 x)))) : mSI mX2_isEntrants [.ref b0, .ref b1] K x Q := by
  refine s_I (by decide) (by simp [Value.category]) (Nat.le_of_ble_eq_true rfl) ?_
  show mGM mX2_isEntrants 0 [some (.ref b0), some (.ref b1)] [] (hp K x) (PI K Q)
  refine r_aload_n (pc := 0) dX2_isEntrants_0 rfl ?_
  refine s_getR (pc := 1) dX2_isEntrants_1 fl_X2_18 rfl k_b0 g_b0_1 ?_
  refine r_aload_n (pc := 4) dX2_isEntrants_4 rfl ?_
  refine s_getI (pc := 5) dX2_isEntrants_5 fl_X2_78 rfl k_b1 ?_
  refine r_bipush (pc := 8) (v := 7) dX2_isEntrants_8 (by decide) ?_
  refine r_imul (pc := 10) dX2_isEntrants_10 ?_
  refine r_aload_n (pc := 11) dX2_isEntrants_11 rfl ?_
  refine s_getI (pc := 12) dX2_isEntrants_12 fl_X2_81 rfl k_b1 ?_
  refine r_iadd (pc := 15) dX2_isEntrants_15 ?_
  obtain ⟨i_1, K0⟩ := K0
  refine s_iald (pc := 16) dX2_isEntrants_16 k_b0_1 i_1 ?_
  refine r_iconst (pc := 17) (v := 2) dX2_isEntrants_17 (by decide) ?_
  refine r_icmp_ge (pc := 18) (tgt := 25) dX2_isEntrants_18 (by decide) (fun q => ?_) (fun q => ?_)
  · have K0 := K0.1 q
    refine r_iconst (pc := 25) (v := 0) dX2_isEntrants_25 (by decide) ?_
    exact s_zret rfl (by decide) dX2_isEntrants_26 K0
  · have K0 := K0.2 q
    refine r_iconst (pc := 21) (v := 1) dX2_isEntrants_21 (by decide) ?_
    refine r_goto (pc := 22) (tgt := 26) dX2_isEntrants_22 (by decide) ?_
    exact s_zret rfl (by decide) dX2_isEntrants_26 K0
section
theorem sp_X2_isEntrants {x : Cn} {Q : Int32 → Cn → Prop} {T : TT} {C W S a p : Nat} (P : PLf x) (hl : HLD x T S) (hC : C ≤ 8) (kp : kk KW p = some (0, 0)) (ha : ASR x p T a) (w : Was T C W a) (k : Q (b2i (ent T S a)) x) : mSI mX2_isEntrants [.ref 117, .ref p] KW x Q := by
  obtain ⟨⟨c, hc, ec⟩, ⟨d, hd, ed⟩, -⟩ := w
  refine v_X2_isEntrants_0 k117 P.2.1 kp k172 ?_
  rw [ha 0 (by decide), ha 1 (by decide), ec, ed, show (7 : Int32) = nI 7 by decide, pk_mul, nI_add, nI_clamp (by omega), hl c d (by omega) hd]
  refine ⟨vp_in_nI (by omega) (by decide), fun z => (b2i_k k).2 (fun u => ?_), fun z => (b2i_k k).1 ?_⟩
  · have u : hN T S (ao T a 0) (ao T a 1) < 2 := u
    rw [ec, ed] at u
    exact Int32.not_le.mpr u z
  · show hN T S (ao T a 0) (ao T a 1) < 2
    rw [ec, ed]
    exact Int32.not_le.mp z
def mst (T : TT) (b : Int32) : Int32 := if b = -1 then 0 else (ao T b.toNatClampNeg 5 - ao T b.toNatClampNeg 4) + 1
end
set_option maxHeartbeats 2000000 in
theorem v_X2_longestOf_0 {K : Sh} {x : Cn} {Q : Int32 → Cn → Prop} {b0 : Nat} {l1 : Int32} {l2 : Int32}   (K0 : GI mX2_longestOf 8 [some (.ref b0), some (.int l1), some (.int l2), some (.int (-1)), some (.int 0), some (.int 0), none, none] [] K x Q) : mSI mX2_longestOf [.ref b0, .int l1, .int l2] K x Q := by
  refine s_I (by decide) (by simp [Value.category]) (Nat.le_of_ble_eq_true rfl) ?_
  show mGM mX2_longestOf 0 [some (.ref b0), some (.int l1), some (.int l2), none, none, none, none, none] [] (hp K x) (PI K Q)
  refine r_iconst (pc := 0) (v := (-1)) dX2_longestOf_0 (by decide) ?_
  refine r_istore_n (pc := 1) dX2_longestOf_1 (by decide) ?_
  refine r_iconst (pc := 2) (L := [some (.ref b0), some (.int l1), some (.int l2), some (.int (-1)), none, none, none, none]) (v := 0) dX2_longestOf_2 (by decide) ?_
  refine r_istore (pc := 3) dX2_longestOf_3 (by decide) ?_
  refine r_iconst (pc := 5) (L := [some (.ref b0), some (.int l1), some (.int l2), some (.int (-1)), some (.int 0), none, none, none]) (v := 0) dX2_longestOf_5 (by decide) ?_
  refine r_istore (pc := 6) dX2_longestOf_6 (by decide) ?_
  exact r_le (L' := [some (.ref b0), some (.int l1), some (.int l2), some (.int (-1)), some (.int 0), some (.int 0), none, none]) ⟨rfl, ⟨rfl, ⟨rfl, ⟨rfl, ⟨rfl, ⟨rfl, trivial⟩⟩⟩⟩⟩⟩ K0
set_option maxHeartbeats 2000000 in
theorem v_X2_longestOf_8 {K : Sh} {x : Cn} {Q : Int32 → Cn → Prop} {b0 : Nat} {l1 : Int32} {l2 : Int32} {l3 : Int32} {l4 : Int32} {l5 : Int32} {b0_0 : Nat} {b0_0_8 : Nat} {n_b0_0_8 : Nat} (k_b0 : kk K b0 = some (2, 0)) (g_b0_0 : gr x b0 0 = some b0_0) (k_b0_0 : kk K b0_0 = some (4, 0)) (g_b0_0_8 : gr x b0_0 8 = some b0_0_8) (k_b0_0_8 : kk K b0_0_8 = some (24, n_b0_0_8)) (K0 : ((gi x b0_0 4) ≤ l5 → (Q l3 x)) ∧ (¬ (gi x b0_0 4) ≤ l5 → (vp_in l5 n_b0_0_8 ∧ (∃ c_3 : Nat, gr x b0_0_8 ((l5 : Int32).toNatClampNeg) = some c_3 ∧ (kk K c_3 = some (0, 0) ∧ ((¬ (f_bit l1 l5) → (GI mX2_longestOf 8 [some (.ref b0), some (.int l1), some (.int l2), some (.int l3), some (.int l4), some (.int (l5 + 1)), none, none] [] K x Q)) ∧ ((f_bit l1 l5) → (((((gi x c_3 5) - (gi x c_3 4)) + 1) ≤ l4 → (GI mX2_longestOf 8 [some (.ref b0), some (.int l1), some (.int l2), some (.int l3), some (.int l4), some (.int (l5 + 1)), none, none] [] K x Q)) ∧ (¬ (((gi x c_3 5) - (gi x c_3 4)) + 1) ≤ l4 → (mSI mX2_isEntrants [.ref b0, .ref c_3] K x (fun r_9 y_8 => (¬ r_9 = l2 → (GI mX2_longestOf 8 [some (.ref b0), some (.int l1), some (.int l2), some (.int l3), some (.int l4), some (.int (l5 + 1)), none, none] [] K y_8 Q)) ∧ (r_9 = l2 → (GI mX2_longestOf 8 [some (.ref b0), some (.int l1), some (.int l2), some (.int l5), some (.int (((gi x c_3 5) - (gi x c_3 4)) + 1)), some (.int (l5 + 1)), none, none] [] K y_8 Q))))))))))))) : GI mX2_longestOf 8 [some (.ref b0), some (.int l1), some (.int l2), some (.int l3), some (.int l4), some (.int l5), none, none] [] K x Q := by
  show mGM mX2_longestOf 8 [some (.ref b0), some (.int l1), some (.int l2), some (.int l3), some (.int l4), some (.int l5), none, none] [] (hp K x) (PI K Q)
  refine r_iload (pc := 8) dX2_longestOf_8 rfl ?_
  refine r_aload_n (pc := 10) dX2_longestOf_10 rfl ?_
  refine s_getR (pc := 11) dX2_longestOf_11 fl_X2_12 rfl k_b0 g_b0_0 ?_
  refine s_getI (pc := 14) dX2_longestOf_14 fl_X2_53 rfl k_b0_0 ?_
  refine r_icmp_ge (pc := 17) (tgt := 86) dX2_longestOf_17 (by decide) (fun q => ?_) (fun q => ?_)
  · have K0 := K0.1 q
    refine r_iload_n (pc := 86) dX2_longestOf_86 rfl ?_
    exact s_iret rfl dX2_longestOf_87 K0
  · have K0 := K0.2 q
    refine r_aload_n (pc := 20) dX2_longestOf_20 rfl ?_
    refine s_getR (pc := 21) dX2_longestOf_21 fl_X2_12 rfl k_b0 g_b0_0 ?_
    refine s_getR (pc := 24) dX2_longestOf_24 fl_X2_85 rfl k_b0_0 g_b0_0_8 ?_
    refine r_iload (pc := 27) dX2_longestOf_27 rfl ?_
    obtain ⟨i_2, K0⟩ := K0
    obtain ⟨c_3, g_4, K0⟩ := K0
    refine s_aald (pc := 29) dX2_longestOf_29 (by decide) rfl k_b0_0_8 i_2 g_4 ?_
    refine r_astore (pc := 30) dX2_longestOf_30 (by decide) ?_
    refine r_aload (pc := 32) (L := [some (.ref b0), some (.int l1), some (.int l2), some (.int l3), some (.int l4), some (.int l5), some (.ref c_3), none]) dX2_longestOf_32 rfl ?_
    obtain ⟨e_5, K0⟩ := K0
    refine s_getI (pc := 34) dX2_longestOf_34 fl_X2_89 rfl e_5 ?_
    refine r_aload (pc := 37) dX2_longestOf_37 rfl ?_
    refine s_getI (pc := 39) dX2_longestOf_39 fl_X2_92 rfl e_5 ?_
    refine r_isub (pc := 42) dX2_longestOf_42 ?_
    refine r_iconst (pc := 43) (v := 1) dX2_longestOf_43 (by decide) ?_
    refine r_iadd (pc := 44) dX2_longestOf_44 ?_
    refine r_istore (pc := 45) dX2_longestOf_45 (by decide) ?_
    refine r_iload_n (pc := 47) (L := [some (.ref b0), some (.int l1), some (.int l2), some (.int l3), some (.int l4), some (.int l5), some (.ref c_3), some (.int (((gi x c_3 5) - (gi x c_3 4)) + 1))]) dX2_longestOf_47 rfl ?_
    refine r_iload (pc := 48) dX2_longestOf_48 rfl ?_
    refine s_SNI (pc := 50) mX7_hasBit (As := [.int l1, .int l5]) dX2_longestOf_50 nl_X2_95 st_X7_hasBit mo_X7_hasBit ⟨by decide, by decide⟩ (Nat.le_of_ble_eq_true rfl) (sp_X7_hasBit  ?_)
    refine r_if_eq (pc := 53) (tgt := 80) dX2_longestOf_53 (by decide) (fun q => ?_) (fun q => ?_)
    · have q := (b2i_z _).mp q
      have K0 := K0.1 q
      refine r_iinc (pc := 80) (v := l5 + 1) dX2_longestOf_80 rfl rfl (by decide) ?_
      refine r_goto (pc := 83) (L := [some (.ref b0), some (.int l1), some (.int l2), some (.int l3), some (.int l4), some (.int (l5 + 1)), some (.ref c_3), some (.int (((gi x c_3 5) - (gi x c_3 4)) + 1))]) (tgt := 8) dX2_longestOf_83 (by decide) ?_
      exact r_le (L' := [some (.ref b0), some (.int l1), some (.int l2), some (.int l3), some (.int l4), some (.int (l5 + 1)), none, none]) ⟨rfl, ⟨rfl, ⟨rfl, ⟨rfl, ⟨rfl, ⟨rfl, trivial⟩⟩⟩⟩⟩⟩ K0
    · have q := b2i_nz q
      have K0 := K0.2 q
      refine r_iload (pc := 56) dX2_longestOf_56 rfl ?_
      refine r_iload (pc := 58) dX2_longestOf_58 rfl ?_
      refine r_icmp_le (pc := 60) (tgt := 80) dX2_longestOf_60 (by decide) (fun q => ?_) (fun q => ?_)
      · have K0 := K0.1 q
        refine r_iinc (pc := 80) (v := l5 + 1) dX2_longestOf_80 rfl rfl (by decide) ?_
        refine r_goto (pc := 83) (L := [some (.ref b0), some (.int l1), some (.int l2), some (.int l3), some (.int l4), some (.int (l5 + 1)), some (.ref c_3), some (.int (((gi x c_3 5) - (gi x c_3 4)) + 1))]) (tgt := 8) dX2_longestOf_83 (by decide) ?_
        exact r_le (L' := [some (.ref b0), some (.int l1), some (.int l2), some (.int l3), some (.int l4), some (.int (l5 + 1)), none, none]) ⟨rfl, ⟨rfl, ⟨rfl, ⟨rfl, ⟨rfl, ⟨rfl, trivial⟩⟩⟩⟩⟩⟩ K0
      · have K0 := K0.2 q
        refine r_aload_n (pc := 63) dX2_longestOf_63 rfl ?_
        refine r_aload (pc := 64) dX2_longestOf_64 rfl ?_
        refine s_VI (pc := 66) mX2_isEntrants (ci := 2) (a := b0) (As := [.ref c_3]) dX2_longestOf_66 lk_X2_99 in_X2_isEntrants mo_X2_isEntrants ⟨by decide, rfl⟩ ⟨by decide, by decide⟩ (Nat.le_of_ble_eq_true rfl) k_b0 (mSI_mono K0 (fun r_9 y_8 K0 => ?_))
        refine r_iload_n (pc := 69) dX2_longestOf_69 rfl ?_
        refine r_icmp_ne (pc := 70) (tgt := 80) dX2_longestOf_70 (by decide) (fun q => ?_) (fun q => ?_)
        · have K0 := K0.1 q
          refine r_iinc (pc := 80) (v := l5 + 1) dX2_longestOf_80 rfl rfl (by decide) ?_
          refine r_goto (pc := 83) (L := [some (.ref b0), some (.int l1), some (.int l2), some (.int l3), some (.int l4), some (.int (l5 + 1)), some (.ref c_3), some (.int (((gi x c_3 5) - (gi x c_3 4)) + 1))]) (tgt := 8) dX2_longestOf_83 (by decide) ?_
          exact r_le (L' := [some (.ref b0), some (.int l1), some (.int l2), some (.int l3), some (.int l4), some (.int (l5 + 1)), none, none]) ⟨rfl, ⟨rfl, ⟨rfl, ⟨rfl, ⟨rfl, ⟨rfl, trivial⟩⟩⟩⟩⟩⟩ K0
        · have K0 := K0.2 q
          refine r_iload (pc := 73) dX2_longestOf_73 rfl ?_
          refine r_istore_n (pc := 75) dX2_longestOf_75 (by decide) ?_
          refine r_iload (pc := 76) (L := [some (.ref b0), some (.int l1), some (.int l2), some (.int l5), some (.int l4), some (.int l5), some (.ref c_3), some (.int (((gi x c_3 5) - (gi x c_3 4)) + 1))]) dX2_longestOf_76 rfl ?_
          refine r_istore (pc := 78) dX2_longestOf_78 (by decide) ?_
          refine r_iinc (pc := 80) (L := [some (.ref b0), some (.int l1), some (.int l2), some (.int l5), some (.int (((gi x c_3 5) - (gi x c_3 4)) + 1)), some (.int l5), some (.ref c_3), some (.int (((gi x c_3 5) - (gi x c_3 4)) + 1))]) (v := l5 + 1) dX2_longestOf_80 rfl rfl (by decide) ?_
          refine r_goto (pc := 83) (L := [some (.ref b0), some (.int l1), some (.int l2), some (.int l5), some (.int (((gi x c_3 5) - (gi x c_3 4)) + 1)), some (.int (l5 + 1)), some (.ref c_3), some (.int (((gi x c_3 5) - (gi x c_3 4)) + 1))]) (tgt := 8) dX2_longestOf_83 (by decide) ?_
          exact r_le (L' := [some (.ref b0), some (.int l1), some (.int l2), some (.int l5), some (.int (((gi x c_3 5) - (gi x c_3 4)) + 1)), some (.int (l5 + 1)), none, none]) ⟨rfl, ⟨rfl, ⟨rfl, ⟨rfl, ⟨rfl, ⟨rfl, trivial⟩⟩⟩⟩⟩⟩ K0
section
theorem sp_X2_longestOf {x : Cn} {Q : Int32 → Cn → Prop} {T : TT} {W C S A N : Nat} {u : Nat → Bool} {left e : Int32} (P : PLf x) (E : SEB x 118 T W C S A N) (hl : HLD x T S) (hu : ∀ a, a < A → tb left a = !(u a)) (k : Q (chR T S A u e) x) : mSI mX2_longestOf [.ref 117, .int left, .int e] KW x Q := by
  have hn := E.nums
  have hA : A ≤ 24 := hn.2.2.2.2.2.2.2.1
  have hC : C ≤ 8 := hn.2.2.2.2.2.1
  have hW : W ≤ 30 := hn.2.2.2.2.1
  have e0 : mst T (-1) = 0 := if_pos rfl
  have em : ∀ j, j < 24 → mst T (nI j) = (ao T j 5 - ao T j 4) + 1 := fun j hj => by
    unfold mst
    rw [if_neg (nI_ne1 (by omega)), nI_clamp (by omega)]
  have key := lp_acc (chS T S u e) (fun a b => (b = -1 ∨ ∃ j, j < A ∧ b = nI j) → GI mX2_longestOf 8 [some (.ref 117), some (.int left), some (.int e), some (.int b), some (.int (mst T b)), some (.int (nI a)), none, none] [] KW x Q) A (-1) ?_ (fun a b ha n1 => ?_) (Or.inl rfl)
  · rw [e0] at key
    exact v_X2_longestOf_0 key
  · intro _
    exact v_X2_longestOf_8 k117 P.1 (ks0 E.1) E.2.1.2.2.2.1 (ks4 E.1) ⟨fun _ => k, fun z => absurd (by rw [hn.2.2.2.1]; exact Int32.le_refl _) z⟩
  · intro hb
    obtain ⟨p, e1, e2, e3, w⟩ := E.ask ha
    obtain ⟨f, l, f1, f2, f3, f4⟩ := id w.2.2.2.2.1
    have len : ao T a 5 - ao T a 4 = nI (l - f) := by rw [f3, f4]; exact pk_sub (by omega)
    have lm : (ao T a 5 - ao T a 4) + 1 ≤ mst T b ↔ ¬ (b = -1 ∨ ao T b.toNatClampNeg 5 - ao T b.toNatClampNeg 4 < ao T a 5 - ao T a 4) := by
      rw [len, nI_1]
      rcases hb with rfl | ⟨j, hj, rfl⟩
      · rw [e0]
        exact ⟨fun g => absurd ((nI_leI (b := 0) (by omega) (by decide)).mp g) (by omega), fun g => absurd (Or.inl rfl) g⟩
      · obtain ⟨-, -, -, -, ⟨f', l', g1, g2, g3, g4⟩, -⟩ := E.2.2.2.2.2.2.2.2.2.2.2.2.2.2.2.2 j hj
        rw [em j (by omega), nI_clamp (by omega), g3, g4, pk_sub (by omega), nI_1, nI_leI (by omega) (by omega), nI_ltI (by omega) (by omega)]
        constructor
        · rintro h (h2 | h2)
          · exact nI_ne1 (by omega) h2
          · omega
        · intro h
          by_cases c : l - f ≤ l' - f'
          · omega
          · exact absurd (Or.inr (by omega)) h
    refine v_X2_longestOf_8 k117 P.1 (ks0 E.1) E.2.1.2.2.2.1 (ks4 E.1) ⟨fun z => absurd (by rw [hn.2.2.2.1] at z; exact z) (nI_ge ha (by omega)), fun _ => ⟨vp_in_nI (by omega) (by decide), p, by rw [nI_clamp (by omega)]; exact e1, e2, ?_⟩⟩
    rw [f_bit_tb _ (by omega), hu a ha, nI_1, e3 4 (by decide), e3 5 (by decide)]
    refine ⟨fun z => n1 b ?_ hb, fun z1 => ⟨fun z2 => n1 b ?_ hb, fun z2 => sp_X2_isEntrants P hl hC e2 e3 w ⟨fun z3 => n1 b ?_ hb, fun z3 => ?_⟩⟩⟩
    · unfold chS; rw [if_neg (fun g => z (by rw [g.1]; rfl))]
    · unfold chS; rw [if_neg (fun g => lm.mp z2 g.2.2)]
    · unfold chS; rw [if_neg (fun g => z3 g.2.1)]
    · have := n1 (nI a) (by unfold chS; rw [if_pos ⟨by simpa using z1, z3, Classical.byContradiction (fun g => z2 (lm.mpr g))⟩]) (Or.inr ⟨a, ha, rfl⟩)
      rw [em a (by omega)] at this
      exact this
end
set_option maxHeartbeats 2000000 in
theorem v_X2_chosen_0 {K : Sh} {x : Cn} {Q : Int32 → Cn → Prop} {b0 : Nat} {l1 : Int32} {l2 : Int32}  (k_b0 : kk K b0 = some (2, 0)) (K0 : mSI mX2_longestOf [.ref b0, .int l1, .int l2] K x (fun r_2 y_1 => (r_2 = (-1) → ((¬ l2 = 0 → (mSI mX2_longestOf [.ref b0, .int l1, .int 0] K y_1 (fun r_6 y_5 => Q r_6 y_5))) ∧ (l2 = 0 → (mSI mX2_longestOf [.ref b0, .int l1, .int 1] K y_1 (fun r_8 y_7 => Q r_8 y_7))))) ∧ (¬ r_2 = (-1) → (Q r_2 y_1)))) : mSI mX2_chosen [.ref b0, .int l1, .int l2] K x Q := by
  refine s_I (by decide) (by simp [Value.category]) (Nat.le_of_ble_eq_true rfl) ?_
  show mGM mX2_chosen 0 [some (.ref b0), some (.int l1), some (.int l2), none] [] (hp K x) (PI K Q)
  refine r_aload_n (pc := 0) dX2_chosen_0 rfl ?_
  refine r_iload_n (pc := 1) dX2_chosen_1 rfl ?_
  refine r_iload_n (pc := 2) dX2_chosen_2 rfl ?_
  refine s_VI (pc := 3) mX2_longestOf (ci := 2) (a := b0) (As := [.int l1, .int l2]) dX2_chosen_3 lk_X2_82 in_X2_longestOf mo_X2_longestOf ⟨by decide, rfl⟩ ⟨by decide, by decide⟩ (Nat.le_of_ble_eq_true rfl) k_b0 (mSI_mono K0 (fun r_2 y_1 K0 => ?_))
  refine r_istore_n (pc := 6) dX2_chosen_6 (by decide) ?_
  refine r_iload_n (pc := 7) (L := [some (.ref b0), some (.int l1), some (.int l2), some (.int r_2)]) dX2_chosen_7 rfl ?_
  refine r_iconst (pc := 8) (v := (-1)) dX2_chosen_8 (by decide) ?_
  refine r_icmp_eq (pc := 9) (tgt := 16) dX2_chosen_9 (by decide) (fun q => ?_) (fun q => ?_)
  · have K0 := K0.1 q
    refine r_aload_n (pc := 16) dX2_chosen_16 rfl ?_
    refine r_iload_n (pc := 17) dX2_chosen_17 rfl ?_
    refine r_iload_n (pc := 18) dX2_chosen_18 rfl ?_
    refine r_if_ne (pc := 19) (tgt := 26) dX2_chosen_19 (by decide) (fun q => ?_) (fun q => ?_)
    · have K0 := K0.1 q
      refine r_iconst (pc := 26) (v := 0) dX2_chosen_26 (by decide) ?_
      refine s_VI (pc := 27) mX2_longestOf (ci := 2) (a := b0) (As := [.int l1, .int 0]) dX2_chosen_27 lk_X2_82 in_X2_longestOf mo_X2_longestOf ⟨by decide, rfl⟩ ⟨by decide, by decide⟩ (Nat.le_of_ble_eq_true rfl) k_b0 (mSI_mono K0 (fun r_6 y_5 K0 => ?_))
      exact s_iret rfl dX2_chosen_30 K0
    · have K0 := K0.2 q
      refine r_iconst (pc := 22) (v := 1) dX2_chosen_22 (by decide) ?_
      refine r_goto (pc := 23) (tgt := 27) dX2_chosen_23 (by decide) ?_
      refine s_VI (pc := 27) mX2_longestOf (ci := 2) (a := b0) (As := [.int l1, .int 1]) dX2_chosen_27 lk_X2_82 in_X2_longestOf mo_X2_longestOf ⟨by decide, rfl⟩ ⟨by decide, by decide⟩ (Nat.le_of_ble_eq_true rfl) k_b0 (mSI_mono K0 (fun r_8 y_7 K0 => ?_))
      exact s_iret rfl dX2_chosen_30 K0
  · have K0 := K0.2 q
    refine r_iload_n (pc := 12) dX2_chosen_12 rfl ?_
    refine r_goto (pc := 13) (tgt := 30) dX2_chosen_13 (by decide) ?_
    exact s_iret rfl dX2_chosen_30 K0
section
theorem sp_X2_chosen {x : Cn} {Q : Int32 → Cn → Prop} {T : TT} {W C S A N : Nat} {u : Nat → Bool} {left e : Int32} (P : PLf x) (E : SEB x 118 T W C S A N) (hl : HLD x T S) (hu : ∀ a, a < A → tb left a = !(u a)) (k : Q (chC T S A u e) x) : mSI mX2_chosen [.ref 117, .int left, .int e] KW x Q := by
  unfold chC at k
  refine v_X2_chosen_0 k117 (sp_X2_longestOf P E hl hu ⟨fun z => ⟨fun z2 => sp_X2_longestOf P E hl hu ?_, fun z2 => sp_X2_longestOf P E hl hu ?_⟩, fun z => ?_⟩)
  · rw [if_pos z, if_neg z2] at k; exact k
  · rw [if_pos z, if_pos z2] at k; exact k
  · rw [if_neg z] at k; exact k
end
set_option maxHeartbeats 2000000 in
theorem v_X2_countSlots_0 {K : Sh} {x : Cn} {Q : Cn → Prop} {b0 : Nat}   (K0 : GV mX2_countSlots 2 [some (.ref b0), some (.int 0)] [] K x Q) : mSV mX2_countSlots [.ref b0] K x Q := by
  refine s_V (by decide) (by simp [Value.category]) (Nat.le_of_ble_eq_true rfl) ?_
  show mGM mX2_countSlots 0 [some (.ref b0), none] [] (hp K x) (PV K Q)
  refine r_iconst (pc := 0) (v := 0) dX2_countSlots_0 (by decide) ?_
  refine r_istore_n (pc := 1) dX2_countSlots_1 (by decide) ?_
  exact r_le (L' := [some (.ref b0), some (.int 0)]) ⟨rfl, ⟨rfl, trivial⟩⟩ K0
set_option maxHeartbeats 2000000 in
theorem v_X2_countSlots_2 {K : Sh} {x : Cn} {Q : Cn → Prop} {b0 : Nat} {l1 : Int32} {b0_1 : Nat} {n_b0_1 : Nat} (k_b0 : kk K b0 = some (2, 0)) (g_b0_1 : gr x b0 1 = some b0_1) (k_b0_1 : kk K b0_1 = some (20, n_b0_1)) (K0 : ((Int32.ofNat n_b0_1) ≤ l1 → (GV mX2_countSlots 26 [some (.ref b0), some (.int 0)] [] K x Q)) ∧ (¬ (Int32.ofNat n_b0_1) ≤ l1 → (vp_in l1 n_b0_1 ∧ (GV mX2_countSlots 2 [some (.ref b0), some (.int (l1 + 1))] [] K (ui x b0_1 (l1 : Int32).toNatClampNeg 0) Q)))) : GV mX2_countSlots 2 [some (.ref b0), some (.int l1)] [] K x Q := by
  show mGM mX2_countSlots 2 [some (.ref b0), some (.int l1)] [] (hp K x) (PV K Q)
  refine r_iload_n (pc := 2) dX2_countSlots_2 rfl ?_
  refine r_aload_n (pc := 3) dX2_countSlots_3 rfl ?_
  refine s_getR (pc := 4) dX2_countSlots_4 fl_X2_18 rfl k_b0 g_b0_1 ?_
  refine s_alen (pc := 7) dX2_countSlots_7 k_b0_1 (by decide) ?_
  refine r_icmp_ge (pc := 8) (tgt := 24) dX2_countSlots_8 (by decide) (fun q => ?_) (fun q => ?_)
  · have K0 := K0.1 q
    refine r_iconst (pc := 24) (v := 0) dX2_countSlots_24 (by decide) ?_
    refine r_istore_n (pc := 25) dX2_countSlots_25 (by decide) ?_
    exact r_le (L' := [some (.ref b0), some (.int 0)]) ⟨rfl, ⟨rfl, trivial⟩⟩ K0
  · have K0 := K0.2 q
    refine r_aload_n (pc := 11) dX2_countSlots_11 rfl ?_
    refine s_getR (pc := 12) dX2_countSlots_12 fl_X2_18 rfl k_b0 g_b0_1 ?_
    refine r_iload_n (pc := 15) dX2_countSlots_15 rfl ?_
    refine r_iconst (pc := 16) (v := 0) dX2_countSlots_16 (by decide) ?_
    obtain ⟨i_2, K0⟩ := K0
    refine s_iast (pc := 17) dX2_countSlots_17 k_b0_1 i_2 ?_
    refine r_iinc (pc := 18) (v := l1 + 1) dX2_countSlots_18 rfl rfl (by decide) ?_
    refine r_goto (pc := 21) (L := [some (.ref b0), some (.int (l1 + 1))]) (tgt := 2) dX2_countSlots_21 (by decide) ?_
    exact r_le (L' := [some (.ref b0), some (.int (l1 + 1))]) ⟨rfl, ⟨rfl, trivial⟩⟩ K0
set_option maxHeartbeats 2000000 in
theorem v_X2_countSlots_26 {K : Sh} {x : Cn} {Q : Cn → Prop} {b0 : Nat} {l1 : Int32} {b0_0 : Nat} {b0_1 : Nat} {b0_0_7 : Nat} {n_b0_0_7 : Nat} {n_b0_1 : Nat} (k_b0 : kk K b0 = some (2, 0)) (g_b0_0 : gr x b0 0 = some b0_0) (k_b0_0 : kk K b0_0 = some (4, 0)) (g_b0_1 : gr x b0 1 = some b0_1) (g_b0_0_7 : gr x b0_0 7 = some b0_0_7) (k_b0_0_7 : kk K b0_0_7 = some (23, n_b0_0_7)) (k_b0_1 : kk K b0_1 = some (20, n_b0_1)) (K0 : ((gi x b0_0 3) ≤ l1 → (Q x)) ∧ (¬ (gi x b0_0 3) ≤ l1 → (vp_in l1 n_b0_0_7 ∧ (∃ c_3 : Nat, gr x b0_0_7 ((l1 : Int32).toNatClampNeg) = some c_3 ∧ (kk K c_3 = some (5, 0) ∧ (vp_in (((gi x c_3 0) * 7) + (gi x c_3 1)) n_b0_1 ∧ (GV mX2_countSlots 26 [some (.ref b0), some (.int (l1 + 1))] [] K (ui x b0_1 ((((gi x c_3 0) * 7) + (gi x c_3 1)) : Int32).toNatClampNeg ((gi x b0_1 ((((gi x c_3 0) * 7) + (gi x c_3 1)) : Int32).toNatClampNeg) + 1)) Q))))))) : GV mX2_countSlots 26 [some (.ref b0), some (.int l1)] [] K x Q := by
  show mGM mX2_countSlots 26 [some (.ref b0), some (.int l1)] [] (hp K x) (PV K Q)
  refine r_iload_n (pc := 26) dX2_countSlots_26 rfl ?_
  refine r_aload_n (pc := 27) dX2_countSlots_27 rfl ?_
  refine s_getR (pc := 28) dX2_countSlots_28 fl_X2_12 rfl k_b0 g_b0_0 ?_
  refine s_getI (pc := 31) dX2_countSlots_31 fl_X2_63 rfl k_b0_0 ?_
  refine r_icmp_ge (pc := 34) (tgt := 80) dX2_countSlots_34 (by decide) (fun q => ?_) (fun q => ?_)
  · have K0 := K0.1 q
    exact s_ret rfl dX2_countSlots_80 K0
  · have K0 := K0.2 q
    refine r_aload_n (pc := 37) dX2_countSlots_37 rfl ?_
    refine s_getR (pc := 38) dX2_countSlots_38 fl_X2_18 rfl k_b0 g_b0_1 ?_
    refine r_aload_n (pc := 41) dX2_countSlots_41 rfl ?_
    refine s_getR (pc := 42) dX2_countSlots_42 fl_X2_12 rfl k_b0 g_b0_0 ?_
    refine s_getR (pc := 45) dX2_countSlots_45 fl_X2_66 rfl k_b0_0 g_b0_0_7 ?_
    refine r_iload_n (pc := 48) dX2_countSlots_48 rfl ?_
    obtain ⟨i_2, K0⟩ := K0
    obtain ⟨c_3, g_4, K0⟩ := K0
    refine s_aald (pc := 49) dX2_countSlots_49 (by decide) rfl k_b0_0_7 i_2 g_4 ?_
    obtain ⟨e_5, K0⟩ := K0
    refine s_getI (pc := 50) dX2_countSlots_50 fl_X2_70 rfl e_5 ?_
    refine r_bipush (pc := 53) (v := 7) dX2_countSlots_53 (by decide) ?_
    refine r_imul (pc := 55) dX2_countSlots_55 ?_
    refine r_aload_n (pc := 56) dX2_countSlots_56 rfl ?_
    refine s_getR (pc := 57) dX2_countSlots_57 fl_X2_12 rfl k_b0 g_b0_0 ?_
    refine s_getR (pc := 60) dX2_countSlots_60 fl_X2_66 rfl k_b0_0 g_b0_0_7 ?_
    refine r_iload_n (pc := 63) dX2_countSlots_63 rfl ?_
    refine s_aald (pc := 64) dX2_countSlots_64 (by decide) rfl k_b0_0_7 i_2 g_4 ?_
    refine s_getI (pc := 65) dX2_countSlots_65 fl_X2_75 rfl e_5 ?_
    refine r_iadd (pc := 68) dX2_countSlots_68 ?_
    refine r_dup2 (pc := 69) dX2_countSlots_69 rfl rfl ?_
    obtain ⟨i_6, K0⟩ := K0
    refine s_iald (pc := 70) dX2_countSlots_70 k_b0_1 i_6 ?_
    refine r_iconst (pc := 71) (v := 1) dX2_countSlots_71 (by decide) ?_
    refine r_iadd (pc := 72) dX2_countSlots_72 ?_
    refine s_iast (pc := 73) dX2_countSlots_73 k_b0_1 i_6 ?_
    refine r_iinc (pc := 74) (v := l1 + 1) dX2_countSlots_74 rfl rfl (by decide) ?_
    refine r_goto (pc := 77) (L := [some (.ref b0), some (.int (l1 + 1))]) (tgt := 26) dX2_countSlots_77 (by decide) ?_
    exact r_le (L' := [some (.ref b0), some (.int (l1 + 1))]) ⟨rfl, ⟨rfl, trivial⟩⟩ K0
section
theorem sp_X2_countSlots {x : Cn} {Q : Cn → Prop} {T : TT} {W C S A N : Nat} (P : PLf x) (E : SEB x 118 T W C S A N) (k : ∀ y, EQx x y 172 → HLD y T S → Q y) : mSV mX2_countSlots [.ref 117] KW x Q := by
  have hC : C ≤ 8 := E.nums.2.2.2.2.2.1
  have hS : S ≤ 24 := E.nums.2.2.2.2.2.2.1
  have key2 : ∀ c s y, s + c = S → EQx x y 172 → HLD y T s → GV mX2_countSlots 26 [some (.ref 117), some (.int (nI s))] [] KW y Q := by
    intro c
    induction c with
    | zero =>
      intro s y hs hy h
      have E2 := E.eqx hy (Or.inr (Or.inr (by decide)))
      have P2 := P.keep hy.1
      have : s = S := by omega
      subst this
      exact v_X2_countSlots_26 k117 P2.1 (ks0 E.1) P2.2.1 E2.2.1.2.2.1 (ks3 E.1) k172 ⟨fun _ => k y hy h, fun z => absurd (by rw [E2.nums.2.2.1]; exact Int32.le_refl _) z⟩
    | succ c ih =>
      intro s y hs hy h
      have E2 := E.eqx hy (Or.inr (Or.inr (by decide)))
      have P2 := P.keep hy.1
      obtain ⟨p, e1, e2, e3, e4, e5, w⟩ := E2.ser (s := s) (by omega)
      obtain ⟨⟨c0, hc0, ec0⟩, ⟨d0, hd0, ed0⟩, -⟩ := w
      refine v_X2_countSlots_26 k117 P2.1 (ks0 E.1) P2.2.1 E2.2.1.2.2.1 (ks3 E.1) k172 ⟨fun z => absurd (by rw [E2.nums.2.2.1] at z; exact z) (nI_ge (by omega) (by omega)), fun _ => ⟨vp_in_nI (by omega) (by decide), p, by rw [nI_clamp (by omega)]; exact e1, e2, ?_⟩⟩
      rw [e3.1 0 (by decide) (by decide), e3.1 1 (by decide) (by decide), ec0, ed0, show (7 : Int32) = nI 7 by decide, pk_mul, nI_add, nI_clamp (by omega), nI_1]
      exact ⟨vp_in_nI (by omega) (by decide), ih (s + 1) _ (by omega) hy.ui (h.inc (by omega) hd0 ec0 ed0 (fun _ _ => ⟨rfl, rfl⟩))⟩
  have key1 : ∀ c m y, m + c = 56 → EQx x y 172 → (∀ i, i < m → gi y 172 i = 0) → GV mX2_countSlots 2 [some (.ref 117), some (.int (nI m))] [] KW y Q := by
    intro c
    induction c with
    | zero =>
      intro m y hm hy h
      have P2 := P.keep hy.1
      have : m = 56 := by omega
      subst this
      exact v_X2_countSlots_2 k117 P2.2.1 k172 ⟨fun _ => key2 S 0 y (by omega) hy (fun c d hc hd => h _ (by omega)), fun z => absurd (Int32.le_refl _) z⟩
    | succ c ih =>
      intro m y hm hy h
      have P2 := P.keep hy.1
      refine v_X2_countSlots_2 k117 P2.2.1 k172 ⟨fun z => absurd z (nI_ge (b := 56) (by omega) (by decide)), fun _ => ?_⟩
      rw [nI_1, nI_clamp (by omega)]
      refine ⟨vp_in_nI (by omega) (by decide), ih (m + 1) _ (by omega) hy.ui (fun i hi => ?_)⟩
      rw [gi_ui]
      by_cases c1 : i = m
      · rw [if_pos ⟨rfl, c1⟩]
      · rw [if_neg (fun u => c1 u.2)]; exact h i (by omega)
  exact v_X2_countSlots_0 (key1 56 0 x (by omega) (EQx.rf x _) (fun i hi => by omega))
theorem tb_alls : ∀ A, A < 25 → ∀ a, a < 32 → tb (((1 : Int32) <<< (nI A &&& 31)) - 1) a = decide (a < A) := by decide
/-- a series comes, of fields f -/
def adT (T : TT) (S : Nat) (f : Nat → Int32) : TT := fun i => if i = 2 then nI (S + 1) else if 62 + 12 * S ≤ i ∧ i < 74 + 12 * S then f (i - (62 + 12 * S)) else T i
theorem so_adT {T : TT} {S k : Nat} {f : Nat → Int32} (hk : k < 12) : so (adT T S f) S k = f k := by
  unfold so adT
  rw [if_neg (by omega), if_pos (by omega)]
  congr 1
  omega
theorem adT_off {T : TT} {S i : Nat} {f : Nat → Int32} (h2 : i ≠ 2) (h : ¬ (62 + 12 * S ≤ i ∧ i < 74 + 12 * S)) : adT T S f i = T i := by
  unfold adT
  rw [if_neg h2, if_neg h]
theorem so_adT' {T : TT} {S s k : Nat} {f : Nat → Int32} (hk : k < 12) (hs : s ≠ S) : so (adT T S f) s k = so T s k := by
  unfold so
  rw [adT_off (by omega) (by omega)]
theorem WFB.add {T : TT} {W C S A N : Nat} {f : Nat → Int32} (F : WFB T W C S A N) (hS : S < 24) (hw : Wse (adT T S f) C W S) : WFB (adT T S f) W C (S + 1) A N := by
  obtain ⟨w1, w2, w3, w4, w5, w6, w7, w8, w9, w10, w11, w12, w13, w14⟩ := F
  refine ⟨by rw [adT_off (by decide) (by omega)]; exact w1, w2, w3, by rw [adT_off (by decide) (by omega)]; exact w4, w5, if_pos rfl, by omega, by rw [adT_off (by decide) (by omega)]; exact w8, w9, by rw [adT_off (by decide) (by omega)]; exact w10, w11, w12, fun s hs => ?_, fun a ha => (w14 a ha).cg (fun k hk => adT_off (by omega) (by omega))⟩
  by_cases c : s = S
  · rw [c]; exact hw
  · exact (w13 s (by omega)).cg (fun k hk => so_adT' hk c)
theorem SEB.addS {x z : Cn} {q p : Nat} {T : TT} {W C S A N : Nat} {f : Nat → Int32} (E : SEB x q T W C S A N) (hS : S < 24) (hp : gr x (q + 3) S = some p) (h1 : z.2 = x.2) (h2 : ∀ b k, q ≤ b → b < q + 54 → b ≠ p → ¬ (b = q ∧ k = 3) → b ≠ q + 5 → gi z b k = gi x b k) (h3 : gi z q 3 = nI (S + 1)) (h4 : ∀ k, k < 12 → gi z p k = f k) (h8 : ∀ k, 8 ≤ k → k < 12 → f k = 0) (hw : Wse (adT T S f) C W S) : SEB z q (adT T S f) W C (S + 1) A N := by
  have F := E.2.2.2.add hS hw
  obtain ⟨e1, e2, ⟨v0, v1, v2, v3, v4, v5, v6, v7⟩, w1, w2, w3, w4, w5, w6, w7, w8, w9, w10, w11, w12, w13, w14⟩ := E
  obtain ⟨r1, r2, r3, r4, r5, r6, r7, r8, r9⟩ := id e2
  have hg : ∀ b k, gr z b k = gr x b k := fun b k => by unfold gr; rw [h1]
  obtain ⟨j, hj, ej⟩ := r6 S hS
  have ep : p = q + 6 + j := Option.some.inj (hp.symm.trans ej)
  have hT : ∀ i, i ≠ 2 → ¬ (62 + 12 * S ≤ i ∧ i < 74 + 12 * S) → adT T S f i = T i := fun i => adT_off
  refine ⟨e1, e2.keep h1, ⟨?_, ?_, ?_, ?_, ?_, ?_, ?_, ?_⟩, F⟩
  · rw [h2 q 0 (by omega) (by omega) (by omega) (by omega) (by omega), hT 0 (by decide) (by omega)]; exact v0
  · rw [h2 q 1 (by omega) (by omega) (by omega) (by omega) (by omega), hT 4 (by decide) (by omega)]; exact v1
  · rw [h2 q 2 (by omega) (by omega) (by omega) (by omega) (by omega), hT 5 (by decide) (by omega)]; exact v2
  · rw [h3]; exact (if_pos rfl).symm
  · rw [h2 q 4 (by omega) (by omega) (by omega) (by omega) (by omega), hT 3 (by decide) (by omega)]; exact v4
  · intro h hh
    rw [h2 (q + 1) h (by omega) (by omega) (by omega) (by omega) (by omega), h2 (q + 2) h (by omega) (by omega) (by omega) (by omega) (by omega), hT _ (by omega) (by omega), hT _ (by omega) (by omega)]
    exact v5 h hh
  · intro s p' hs hp'
    rw [hg] at hp'
    by_cases c : s = S
    · subst c
      have : p' = p := Option.some.inj (hp'.symm.trans hp)
      subst this
      refine ⟨fun k hk _ => by rw [h4 k hk, so_adT hk], ?_⟩
      unfold bas
      rw [h4 7 (by decide), so_adT (by decide), so_adT (by decide), so_adT (by decide), so_adT (by decide), so_adT (by decide), h8 8 (by decide) (by decide), h8 9 (by decide) (by decide), h8 10 (by decide) (by decide), h8 11 (by decide) (by decide)]
      simp
    · have hne : p' ≠ p := fun e => c (r7 s S (by omega) hS (by rw [hp', hp, e]))
      obtain ⟨j', hj', ej'⟩ := r6 s (by omega)
      have ep' : p' = q + 6 + j' := Option.some.inj (hp'.symm.trans ej')
      exact (v6 s p' (by omega) hp').cg (fun k _ => h2 p' k (by omega) (by omega) hne (by omega) (by omega)) (fun k hk => so_adT' hk c)
  · intro a p' ha hp'
    rw [hg] at hp'
    obtain ⟨j', hj', ej'⟩ := r8 a (by omega)
    have ep' : p' = q + 30 + j' := Option.some.inj (hp'.symm.trans ej')
    exact (v7 a p' ha hp').cg (fun k _ => h2 p' k (by omega) (by omega) (by omega) (by omega) (by omega)) (fun k hk => hT _ (by omega) (by omega))
/-- what an ask is granted -/
def grf (T : TT) (a : Nat) (h : Int32) (k : Nat) : Int32 := if k = 0 then ao T a 0 else if k = 1 then ao T a 1 else if k = 2 then h else if k = 3 then ao T a 3 else if k = 4 then 1 else if k = 5 then (if ao T a 4 < T 4 then T 4 else ao T a 4) else if k = 6 then ao T a 5 else if k = 7 then f_span (ao T a 4) (ao T a 5) &&& f_span (T 4) (T 0 - 1) else 0
abbrev grT (T : TT) (S a : Nat) (h : Int32) : TT := adT T S (grf T a h)
theorem mx_nI {f N : Nat} (hf : f < 2 ^ 31) (hN : N < 2 ^ 31) : (if nI f < nI N then nI N else nI f) = nI (if f < N then N else f) := by
  by_cases c : f < N
  · rw [if_pos c, if_pos (nI_lt c hN)]
  · rw [if_neg c, if_neg (nI_nlt (by omega) hf)]
theorem gr_wk {f l N W : Nat} (h1 : f ≤ l) (h2 : l < W) (h3 : W ≤ 30) (h4 : N ≤ l) : f_sb (nI (if f < N then N else f)) (nI l) = f_span (nI f) (nI l) &&& f_span (nI N) (nI W - 1) := by
  refine tb_ext (fun i hi => ?_)
  have hm : (if f < N then N else f) ≤ l ∧ ∀ i, (if f < N then N else f) ≤ i ↔ f ≤ i ∧ N ≤ i := by
    by_cases c : f < N
    · rw [if_pos c]; exact ⟨h4, fun i => by omega⟩
    · rw [if_neg c]; exact ⟨h1, fun i => by omega⟩
  rw [tb_and, tb_sb0 _ (by omega) l (by omega) hm.1 i hi, tb_span0 f (by omega) l (by omega) i hi, tb_fn h3 (by omega) hi (by omega), ← Bool.decide_and]
  refine decide_eq_decide.mpr ?_
  rw [hm.2]
  omega
theorem Was.gr {T : TT} {W C S A N a h : Nat} (F : WFB T W C S A N) (ha : a < A) (hh : h < 24) (hl : ¬ (ao T a 5).toNatClampNeg < N) : Wse (grT T S a (nI h)) C W S := by
  have hW : W ≤ 30 := F.2.2.1
  obtain ⟨⟨c, hc, ec⟩, ⟨d, hd, ed⟩, -, a3, ⟨f, l, f1, f2, f3, f4⟩, -⟩ := F.2.2.2.2.2.2.2.2.2.2.2.2.2 a ha
  rw [f4, nI_clamp (by omega)] at hl
  have e : ∀ k, k < 12 → so (grT T S a (nI h)) S k = grf T a (nI h) k := fun k hk => so_adT hk
  have z : ∀ k, k < 5 → k ≠ 0 → so (grT T S a (nI h)) S (7 + k) = 0 := fun k hk h0 => by
    rw [e _ (by omega)]
    unfold grf
    rw [if_neg (by omega), if_neg (by omega), if_neg (by omega), if_neg (by omega), if_neg (by omega), if_neg (by omega), if_neg (by omega), if_neg (by omega)]
  refine ⟨⟨c, hc, by rw [e 0 (by decide)]; exact ec⟩, ⟨d, hd, by rw [e 1 (by decide)]; exact ed⟩, ⟨h, hh, by rw [e 2 (by decide)]; rfl⟩, by rw [e 3 (by decide)]; exact a3, by rw [e 4 (by decide)]; exact Or.inr rfl, ⟨if f < N then N else f, l, ?_, f2, ?_, by rw [e 6 (by decide)]; exact f4⟩, ?_, ?_⟩
  · by_cases c : f < N
    · rw [if_pos c]; omega
    · rw [if_neg c]; omega
  · rw [e 5 (by decide)]
    show (if ao T a 4 < T 4 then T 4 else ao T a 4) = _
    rw [f3, F.2.2.2.2.2.2.2.2.2.1]
    exact mx_nI (by omega) (by omega)
  · intro i hi k j hk hj h1 h2
    by_cases c1 : k = 0
    · by_cases c2 : j = 0
      · omega
      · rw [z j hj c2, tb_0] at h2; cases h2
    · rw [z k hk c1, tb_0] at h1; cases h1
  · intro i k hk h1
    by_cases c1 : k = 0
    · subst c1
      rw [e (7 + 0) (by decide)] at h1
      have h1 : tb (f_span (ao T a 4) (ao T a 5) &&& f_span (T 4) (T 0 - 1)) i = true := h1
      rw [tb_and, Bool.and_eq_true] at h1
      by_cases c3 : i < 32
      · have h2 := h1.1
        rw [f3, f4, tb_span0 f (by omega) l (by omega) i c3] at h2
        have := of_decide_eq_true h2
        omega
      · rw [tb_ge _ (by omega)] at h1; cases h1.1
    · rw [z k hk c1, tb_0] at h1; cases h1
end
set_option maxHeartbeats 2000000 in
theorem v_X4_addSeries_0 {K : Sh} {x : Cn} {Q : Nat → Cn → Prop} {b0 : Nat} {b0_7 : Nat} {n_b0_7 : Nat} (k_b0 : kk K b0 = some (4, 0)) (g_b0_7 : gr x b0 7 = some b0_7) (k_b0_7 : kk K b0_7 = some (23, n_b0_7)) (K0 : vp_in (if 23 < (gi x b0 3) then 23 else (gi x b0 3)) n_b0_7 ∧ (∃ c_2 : Nat, gr x b0_7 (((if 23 < (gi x b0 3) then 23 else (gi x b0 3)) : Int32).toNatClampNeg) = some c_2 ∧ (Q c_2 (ui x b0 3 ((if 23 < (gi x b0 3) then 23 else (gi x b0 3)) + 1))))) : mSR mX4_addSeries [.ref b0] K x Q := by
  refine s_R (by decide) (by simp [Value.category]) (Nat.le_of_ble_eq_true rfl) ?_
  show mGM mX4_addSeries 0 [some (.ref b0), none] [] (hp K x) (PR K Q)
  refine r_aload_n (pc := 0) dX4_addSeries_0 rfl ?_
  refine s_getI (pc := 1) dX4_addSeries_1 fl_X4_21 rfl k_b0 ?_
  refine r_bipush (pc := 4) (v := 23) dX4_addSeries_4 (by decide) ?_
  refine r_mmin (pc := 6) dX4_addSeries_6 lk_X4_58 mw_min ⟨by decide, by decide⟩ (Nat.le_of_ble_eq_true rfl) ?_
  refine r_istore_n (pc := 9) dX4_addSeries_9 (by decide) ?_
  refine r_aload_n (pc := 10) (L := [some (.ref b0), some (.int (if 23 < (gi x b0 3) then 23 else (gi x b0 3)))]) dX4_addSeries_10 rfl ?_
  refine r_iload_n (pc := 11) dX4_addSeries_11 rfl ?_
  refine r_iconst (pc := 12) (v := 1) dX4_addSeries_12 (by decide) ?_
  refine r_iadd (pc := 13) dX4_addSeries_13 ?_
  refine s_putI (pc := 14) dX4_addSeries_14 fl_X4_21 rfl rfl k_b0 ?_
  refine r_aload_n (pc := 17) dX4_addSeries_17 rfl ?_
  refine s_getR (pc := 18) dX4_addSeries_18 fl_X4_36 rfl k_b0 g_b0_7 ?_
  refine r_iload_n (pc := 21) dX4_addSeries_21 rfl ?_
  obtain ⟨i_1, K0⟩ := K0
  obtain ⟨c_2, g_3, K0⟩ := K0
  refine s_aald (pc := 22) dX4_addSeries_22 (by decide) rfl k_b0_7 i_1 g_3 ?_
  exact s_aret rfl dX4_addSeries_23 K0
set_option maxHeartbeats 2000000 in
theorem v_X5_placeAt_0 {K : Sh} {x : Cn} {Q : Cn → Prop} {b0 : Nat} {l1 : Int32} {l2 : Int32} {l3 : Int32} {l4 : Int32}  (k_b0 : kk K b0 = some (5, 0)) (K0 : Q (ui (ui (ui (ui x b0 0 l1) b0 1 l2) b0 2 l3) b0 3 l4)) : mSV mX5_placeAt [.ref b0, .int l1, .int l2, .int l3, .int l4] K x Q := by
  refine s_V (by decide) (by simp [Value.category]) (Nat.le_of_ble_eq_true rfl) ?_
  show mGM mX5_placeAt 0 [some (.ref b0), some (.int l1), some (.int l2), some (.int l3), some (.int l4)] [] (hp K x) (PV K Q)
  refine r_aload_n (pc := 0) dX5_placeAt_0 rfl ?_
  refine r_iload_n (pc := 1) dX5_placeAt_1 rfl ?_
  refine s_putI (pc := 2) dX5_placeAt_2 fl_X5_9 rfl rfl k_b0 ?_
  refine r_aload_n (pc := 5) dX5_placeAt_5 rfl ?_
  refine r_iload_n (pc := 6) dX5_placeAt_6 rfl ?_
  refine s_putI (pc := 7) dX5_placeAt_7 fl_X5_15 rfl rfl k_b0 ?_
  refine r_aload_n (pc := 10) dX5_placeAt_10 rfl ?_
  refine r_iload_n (pc := 11) dX5_placeAt_11 rfl ?_
  refine s_putI (pc := 12) dX5_placeAt_12 fl_X5_18 rfl rfl k_b0 ?_
  refine r_aload_n (pc := 15) dX5_placeAt_15 rfl ?_
  refine r_iload (pc := 16) dX5_placeAt_16 rfl ?_
  refine s_putI (pc := 18) dX5_placeAt_18 fl_X5_21 rfl rfl k_b0 ?_
  exact s_ret rfl dX5_placeAt_21 K0
set_option maxHeartbeats 2000000 in
theorem v_X5_comeWith_0 {K : Sh} {x : Cn} {Q : Cn → Prop} {b0 : Nat} {l1 : Int32} {l2 : Int32}  (k_b0 : kk K b0 = some (5, 0)) (K0 : mSV mX5_openIn [.ref b0, .int (f_sb l1 l2)] K (ui (ui x b0 5 l1) b0 6 l2) (fun y_1 => Q y_1)) : mSV mX5_comeWith [.ref b0, .int l1, .int l2] K x Q := by
  refine s_V (by decide) (by simp [Value.category]) (Nat.le_of_ble_eq_true rfl) ?_
  show mGM mX5_comeWith 0 [some (.ref b0), some (.int l1), some (.int l2)] [] (hp K x) (PV K Q)
  refine r_aload_n (pc := 0) dX5_comeWith_0 rfl ?_
  refine r_iload_n (pc := 1) dX5_comeWith_1 rfl ?_
  refine s_putI (pc := 2) dX5_comeWith_2 fl_X5_28 rfl rfl k_b0 ?_
  refine r_aload_n (pc := 5) dX5_comeWith_5 rfl ?_
  refine r_iload_n (pc := 6) dX5_comeWith_6 rfl ?_
  refine s_putI (pc := 7) dX5_comeWith_7 fl_X5_31 rfl rfl k_b0 ?_
  refine r_aload_n (pc := 10) dX5_comeWith_10 rfl ?_
  refine r_iload_n (pc := 11) dX5_comeWith_11 rfl ?_
  refine r_iload_n (pc := 12) dX5_comeWith_12 rfl ?_
  refine s_SNI (pc := 13) mX7_spanBits (As := [.int l1, .int l2]) dX5_comeWith_13 nl_X5_49 st_X7_spanBits mo_X7_spanBits ⟨by decide, by decide⟩ (Nat.le_of_ble_eq_true rfl) (sp_X7_spanBits  ?_)
  refine s_VV (pc := 16) mX5_openIn (ci := 5) (a := b0) (As := [.int (f_sb l1 l2)]) dX5_comeWith_16 lk_X5_53 in_X5_openIn mo_X5_openIn ⟨by decide, rfl⟩ ⟨by decide, by decide⟩ (Nat.le_of_ble_eq_true rfl) k_b0 (mSV_mono K0 (fun y_1 K0 => ?_))
  exact s_ret rfl dX5_comeWith_19 K0
set_option maxHeartbeats 2000000 in
theorem v_X4_grant_0 {K : Sh} {x : Cn} {Q : Cn → Prop} {b0 : Nat} {b1 : Nat} {l2 : Int32}  (k_b0 : kk K b0 = some (4, 0)) (k_b1 : kk K b1 = some (0, 0)) (K0 : mSR mX4_addSeries [.ref b0] K x (fun r_2 y_1 => kk K r_2 = some (5, 0) ∧ (mSV mX5_placeAt [.ref r_2, .int (gi y_1 b1 0), .int (gi y_1 b1 1), .int l2, .int (gi y_1 b1 3)] K y_1 (fun y_4 => mSV mX5_comeWith [.ref r_2, .int (if (gi y_4 b1 4) < (gi y_4 b0 1) then (gi y_4 b0 1) else (gi y_4 b1 4)), .int (gi y_4 b1 5)] K y_4 (fun y_5 => Q (ui y_5 r_2 4 1)))))) : mSV mX4_grant [.ref b0, .ref b1, .int l2] K x Q := by
  refine s_V (by decide) (by simp [Value.category]) (Nat.le_of_ble_eq_true rfl) ?_
  show mGM mX4_grant 0 [some (.ref b0), some (.ref b1), some (.int l2), none] [] (hp K x) (PV K Q)
  refine r_aload_n (pc := 0) dX4_grant_0 rfl ?_
  refine s_VR (pc := 1) mX4_addSeries (ci := 4) (a := b0) (As := []) dX4_grant_1 lk_X4_116 in_X4_addSeries mo_X4_addSeries ⟨by decide, rfl⟩ ⟨by decide, by decide⟩ (Nat.le_of_ble_eq_true rfl) k_b0 (mSR_mono K0 (fun r_2 y_1 K0 => ?_))
  refine r_astore_n (pc := 4) dX4_grant_4 (by decide) ?_
  refine r_aload_n (pc := 5) (L := [some (.ref b0), some (.ref b1), some (.int l2), some (.ref r_2)]) dX4_grant_5 rfl ?_
  refine r_aload_n (pc := 6) dX4_grant_6 rfl ?_
  refine s_getI (pc := 7) dX4_grant_7 fl_X4_120 rfl k_b1 ?_
  refine r_aload_n (pc := 10) dX4_grant_10 rfl ?_
  refine s_getI (pc := 11) dX4_grant_11 fl_X4_100 rfl k_b1 ?_
  refine r_iload_n (pc := 14) dX4_grant_14 rfl ?_
  refine r_aload_n (pc := 15) dX4_grant_15 rfl ?_
  refine s_getI (pc := 16) dX4_grant_16 fl_X4_101 rfl k_b1 ?_
  obtain ⟨e_3, K0⟩ := K0
  refine s_VV (pc := 19) mX5_placeAt (ci := 5) (a := r_2) (As := [.int (gi y_1 b1 0), .int (gi y_1 b1 1), .int l2, .int (gi y_1 b1 3)]) dX4_grant_19 lk_X4_123 in_X5_placeAt mo_X5_placeAt ⟨by decide, rfl⟩ ⟨by decide, by decide⟩ (Nat.le_of_ble_eq_true rfl) e_3 (mSV_mono K0 (fun y_4 K0 => ?_))
  refine r_aload_n (pc := 22) dX4_grant_22 rfl ?_
  refine r_aload_n (pc := 23) dX4_grant_23 rfl ?_
  refine s_getI (pc := 24) dX4_grant_24 fl_X4_127 rfl k_b1 ?_
  refine r_aload_n (pc := 27) dX4_grant_27 rfl ?_
  refine s_getI (pc := 28) dX4_grant_28 fl_X4_15 rfl k_b0 ?_
  refine r_mmax (pc := 31) dX4_grant_31 lk_X4_130 mw_max ⟨by decide, by decide⟩ (Nat.le_of_ble_eq_true rfl) ?_
  refine r_aload_n (pc := 34) dX4_grant_34 rfl ?_
  refine s_getI (pc := 35) dX4_grant_35 fl_X4_109 rfl k_b1 ?_
  refine s_VV (pc := 38) mX5_comeWith (ci := 5) (a := r_2) (As := [.int (if (gi y_4 b1 4) < (gi y_4 b0 1) then (gi y_4 b0 1) else (gi y_4 b1 4)), .int (gi y_4 b1 5)]) dX4_grant_38 lk_X4_133 in_X5_comeWith mo_X5_comeWith ⟨by decide, rfl⟩ ⟨by decide, by decide⟩ (Nat.le_of_ble_eq_true rfl) e_3 (mSV_mono K0 (fun y_5 K0 => ?_))
  refine r_aload_n (pc := 41) dX4_grant_41 rfl ?_
  refine r_iconst (pc := 42) (v := 1) dX4_grant_42 (by decide) ?_
  refine s_putZ (pc := 43) dX4_grant_43 fl_X4_137 rfl rfl e_3 (by decide) ?_
  exact s_ret rfl dX4_grant_46 K0
section
theorem sp_X4_grant {x : Cn} {Q : Cn → Prop} {q : Nat} {T : TT} {W C S A N a p h : Nat} (E : SEB x q T W C S A N) (hS : S < 24) (ha : a < A) (hg : gr x (q + 4) a = some p) (hh : h < 24) (hl : ¬ (ao T a 5).toNatClampNeg < N) (k : ∀ z, Frq x z q → SEB z q (grT T S a (nI h)) W C (S + 1) A N → Q z) : mSV mX4_grant [.ref q, .ref p, .int (nI h)] KW x Q := by
  have hn := E.nums
  have hA : A ≤ 24 := hn.2.2.2.2.2.2.2.1
  have hW : W ≤ 30 := hn.2.2.2.2.1
  obtain ⟨p', e1, e2, e3, w⟩ := E.ask ha
  have epp : p' = p := Option.some.inj (e1.symm.trans hg)
  subst epp
  obtain ⟨j2, hj2, ej2⟩ := E.2.1.2.2.2.2.2.2.2.1 a (by omega)
  have ep2 : p' = q + 30 + j2 := Option.some.inj (e1.symm.trans ej2)
  obtain ⟨j, hj, ej⟩ := E.2.1.2.2.2.2.2.1 S hS
  obtain ⟨-, -, -, -, ⟨f, l, f1, f2, f3, f4⟩, -⟩ := id w
  have hl' := hl
  rw [f4, nI_clamp (by omega)] at hl'
  refine v_X4_grant_0 (ks0 E.1) e2 (v_X4_addSeries_0 (ks0 E.1) E.2.1.2.2.1 (ks3 E.1) ?_)
  have mi : (if (23 : Int32) < nI S then 23 else nI S) = nI S := if_neg (fun g => absurd ((nI_ltI (a := 23) (b := S) (by decide) (by omega)).mp g) (by omega))
  rw [hn.2.2.1, mi, nI_clamp (by omega), nI_1]
  refine ⟨vp_in_nI (by omega) (by decide), q + 6 + j, ej, ks6 E.1 hj, v_X5_placeAt_0 (ks6 E.1 hj) (v_X5_comeWith_0 (ks6 E.1 hj) (sp_X5_openIn_at (ks6 E.1 hj) (fun v f0 g1 g2 g3 => ?_)))⟩
  have o1 : ∀ i, gi (ui x q 3 (nI (S + 1))) p' i = gi x p' i := fun i => by rw [gi_ui, if_neg (by omega)]
  rw [o1 0, o1 1, o1 3, e3 0 (by decide), e3 1 (by decide), e3 3 (by decide)] at f0 g1 g2
  have o2 : ∀ i b, b ≠ q + 6 + j → gi (ui (ui (ui (ui (ui x q 3 (nI (S + 1))) (q + 6 + j) 0 (ao T a 0)) (q + 6 + j) 1 (ao T a 1)) (q + 6 + j) 2 (nI h)) (q + 6 + j) 3 (ao T a 3)) b i = gi (ui x q 3 (nI (S + 1))) b i := fun i b hb => by simp only [gi_ui, hb, false_and, if_false]
  rw [o2 4 p' (by omega), o2 5 p' (by omega), o2 1 q (by omega), o1, o1, e3 4 (by decide), e3 5 (by decide), show gi (ui x q 3 (nI (S + 1))) q 1 = nI N by rw [gi_ui, if_neg (by omega)]; exact hn.2.1, f3, f4, mx_nI (by omega) (by omega)] at f0 g1 g2
  refine k _ ⟨f0.1, fun b i hb => ?_⟩ (E.addS (p := q + 6 + j) hS ej f0.1 (fun b i b1 b2 b3 b4 b5 => ?_) ?_ (fun i hi => ?_) (fun i i8 i12 => ?_) (Was.gr E.2.2.2 ha hh hl))
  · rw [gi_ui, if_neg (by omega), f0.2 b i (by omega)]
    simp only [gi_ui]
    rw [if_neg (by omega), if_neg (by omega), if_neg (by omega), if_neg (by omega), if_neg (by omega), if_neg (by omega), if_neg (by omega)]
  · rw [gi_ui, if_neg (fun u => b3 u.1), f0.2 b i b3]
    simp only [gi_ui]
    rw [if_neg (fun u => b3 u.1), if_neg (fun u => b3 u.1), if_neg (fun u => b3 u.1), if_neg (fun u => b3 u.1), if_neg (fun u => b3 u.1), if_neg (fun u => b3 u.1), if_neg b4]
  · rw [gi_ui, if_neg (by omega), f0.2 q 3 (by omega)]
    simp only [gi_ui]
    rw [if_neg (by omega), if_neg (by omega), if_neg (by omega), if_neg (by omega), if_neg (by omega), if_neg (by omega), if_pos (by simp)]
  · have h4 : T 4 = nI N := E.2.2.2.2.2.2.2.2.2.2.2.2.1
    have h0 : T 0 = nI W := E.2.2.2.1
    rcases lt12 hi with rfl | rfl | rfl | rfl | rfl | rfl | rfl | rfl | rfl | rfl | rfl | rfl
    · rw [gi_ui, if_neg (by omega), g1 0 (by decide)]; simp [gi_ui, grf]
    · rw [gi_ui, if_neg (by omega), g1 1 (by decide)]; simp [gi_ui, grf]
    · rw [gi_ui, if_neg (by omega), g1 2 (by decide)]; simp [gi_ui, grf]
    · rw [gi_ui, if_neg (by omega), g1 3 (by decide)]; simp [gi_ui, grf]
    · rw [gi_ui, if_pos ⟨rfl, rfl⟩]; rfl
    · rw [gi_ui, if_neg (by omega), g1 5 (by decide)]
      show _ = (if ao T a 4 < T 4 then T 4 else ao T a 4)
      rw [f3, h4, mx_nI (by omega) (by omega)]
      simp [gi_ui]
    · rw [gi_ui, if_neg (by omega), g1 6 (by decide)]
      show _ = ao T a 5
      rw [f4]
      simp [gi_ui]
    · rw [gi_ui, if_neg (by omega), g2]
      show _ = f_span (ao T a 4) (ao T a 5) &&& f_span (T 4) (T 0 - 1)
      rw [f3, f4, h4, h0]
      exact gr_wk (by omega) f2 hW (by omega)
    · rw [gi_ui, if_neg (by omega), g3 8 (by decide) (by decide)]; rfl
    · rw [gi_ui, if_neg (by omega), g3 9 (by decide) (by decide)]; rfl
    · rw [gi_ui, if_neg (by omega), g3 10 (by decide) (by decide)]; rfl
    · rw [gi_ui, if_neg (by omega), g3 11 (by decide) (by decide)]; rfl
  · have : i = 8 ∨ i = 9 ∨ i = 10 ∨ i = 11 := by omega
    rcases this with rfl | rfl | rfl | rfl <;> rfl
/-- what is written while a pool is played, on the landed side -/
def PCr (x y : Cn) : Prop := y.2 = x.2 ∧ ∀ a k, ¬ (117 ≤ a ∧ a ≤ 174) → gi y a k = gi x a k
theorem PCr.rf (x : Cn) : PCr x x := ⟨rfl, fun _ _ _ => rfl⟩
theorem PCr.tr {x y z : Cn} (h : PCr x y) (g : PCr y z) : PCr x z := ⟨g.1.trans h.1, fun a k c => (g.2 a k c).trans (h.2 a k c)⟩
theorem PCr.ui {x y : Cn} {a k : Nat} {v : Int32} (h : PCr x y) (c : 117 ≤ a ∧ a ≤ 174) : PCr x (ui y a k v) := ⟨h.1, fun b j hb => by rw [gi_ui, if_neg (by omega)]; exact h.2 b j hb⟩
theorem EQx.pc {x y : Cn} {a : Nat} (h : EQx x y a) (c : 117 ≤ a ∧ a ≤ 174) : PCr x y := ⟨h.1, fun b j hb => h.2 b j (by omega)⟩
theorem Frq.pc {x y : Cn} (h : Frq x y 118) : PCr x y := ⟨h.1, fun b j hb => h.2 b j (by omega)⟩
theorem lpR_in {σ : Type} {step : Nat → σ → σ ⊕ Int32} {fin : σ → Int32} {R : Int32 → Prop} (h1 : ∀ s a r, step s a = .inr r → R r) (h2 : ∀ a, R (fin a)) : ∀ n s a, R (lpR step fin n s a) := by
  intro n
  induction n with
  | zero => intro s a; exact h2 a
  | succ n ih =>
    intro s a
    simp only [lpR]
    cases hq : step s a with
    | inl a' => exact ih _ _
    | inr r => exact h1 s a r hq
theorem hrF_in {T : TT} {S N a h0 : Nat} (h1 : h0 < 24) (h2 : ao T a 2 = nI h0) : hrF T S N a = -1 ∨ ∃ h, h < 24 ∧ hrF T S N a = nI h ∧ ¬ S = 24 ∧ ¬ (ao T a 5).toNatClampNeg < N := by
  unfold hrF
  by_cases c : (ao T a 5).toNatClampNeg < N ∨ S = 24
  · exact Or.inl (if_pos c)
  · rw [if_neg c, h2, nI_clamp (by omega)]
    have key := lpR_in (step := stH (fun h => fitA T S N a h 0) h0) (fin := fun _ => -1) (R := fun r => r = -1 ∨ ∃ h, h < 24 ∧ r = nI h) (fun s u r hr => by
      unfold stH at hr
      by_cases c1 : s ≤ h0 ∧ ¬ bP (fitA T S N a (h0 - s) 0) = 0
      · rw [if_pos c1] at hr
        cases hr
        exact Or.inr ⟨h0 - s, by omega, rfl⟩
      · rw [if_neg c1] at hr
        by_cases c2 : h0 + s < 24 ∧ ¬ bP (fitA T S N a (h0 + s) 0) = 0
        · rw [if_pos c2] at hr
          cases hr
          exact Or.inr ⟨h0 + s, c2.1, rfl⟩
        · rw [if_neg c2] at hr
          cases hr) (fun _ => Or.inl rfl) ((ao T a 6).toNatClampNeg + 1) 0 ()
    rcases key with g | ⟨h, g1, g2⟩
    · exact Or.inl g
    · exact Or.inr ⟨h, g1, g2, fun u => c (Or.inr u), fun u => c (Or.inl u)⟩
end
set_option maxHeartbeats 2000000 in
theorem v_X2_lookAt_0 {K : Sh} {x : Cn} {Q : Cn → Prop} {b0 : Nat} {l1 : Int32} {b0_0 : Nat} {b0_0_8 : Nat} {n_b0_0_8 : Nat} {b0_3 : Nat} {n_b0_3 : Nat} (k_b0 : kk K b0 = some (2, 0)) (g_b0_0 : gr x b0 0 = some b0_0) (k_b0_0 : kk K b0_0 = some (4, 0)) (g_b0_0_8 : gr x b0_0 8 = some b0_0_8) (k_b0_0_8 : kk K b0_0_8 = some (24, n_b0_0_8)) (g_b0_3 : gr x b0 3 = some b0_3) (k_b0_3 : kk K b0_3 = some (20, n_b0_3)) (K0 : vp_in l1 n_b0_0_8 ∧ (∃ c_2 : Nat, gr x b0_0_8 ((l1 : Int32).toNatClampNeg) = some c_2 ∧ (mSI mX4_hourFor [.ref b0_0, .ref c_2] K x (fun r_5 y_4 => vp_in l1 n_b0_3 ∧ (gr y_4 b0 3 = some b0_3 ∧ (((gi (ui y_4 b0_3 (l1 : Int32).toNatClampNeg r_5) b0_3 (l1 : Int32).toNatClampNeg) = (-1) → (Q (ui y_4 b0_3 (l1 : Int32).toNatClampNeg r_5))) ∧ (¬ (gi (ui y_4 b0_3 (l1 : Int32).toNatClampNeg r_5) b0_3 (l1 : Int32).toNatClampNeg) = (-1) → (gr y_4 b0 0 = some b0_0 ∧ (mSV mX4_grant [.ref b0_0, .ref c_2, .int (gi (ui y_4 b0_3 (l1 : Int32).toNatClampNeg r_5) b0_3 (l1 : Int32).toNatClampNeg)] K (ui y_4 b0_3 (l1 : Int32).toNatClampNeg r_5) (fun y_10 => ∃ c_11 : Nat, gr y_10 b0 1 = some c_11 ∧ (kk K c_2 = some (0, 0) ∧ (∃ n_15 : Nat, kk K c_11 = some (20, n_15) ∧ (vp_in (((gi y_10 c_2 0) * 7) + (gi y_10 c_2 1)) n_15 ∧ (∀ r_17 : Int32, r_17 = gi (ui y_10 c_11 ((((gi y_10 c_2 0) * 7) + (gi y_10 c_2 1)) : Int32).toNatClampNeg ((gi y_10 c_11 ((((gi y_10 c_2 0) * 7) + (gi y_10 c_2 1)) : Int32).toNatClampNeg) + 1)) b0 4 → (Q (ui (ui y_10 c_11 ((((gi y_10 c_2 0) * 7) + (gi y_10 c_2 1)) : Int32).toNatClampNeg ((gi y_10 c_11 ((((gi y_10 c_2 0) * 7) + (gi y_10 c_2 1)) : Int32).toNatClampNeg) + 1)) b0 4 (r_17 + 1))))))))))))))))) : mSV mX2_lookAt [.ref b0, .int l1] K x Q := by
  refine s_V (by decide) (by simp [Value.category]) (Nat.le_of_ble_eq_true rfl) ?_
  show mGM mX2_lookAt 0 [some (.ref b0), some (.int l1), none] [] (hp K x) (PV K Q)
  refine r_aload_n (pc := 0) dX2_lookAt_0 rfl ?_
  refine s_getR (pc := 1) dX2_lookAt_1 fl_X2_12 rfl k_b0 g_b0_0 ?_
  refine s_getR (pc := 4) dX2_lookAt_4 fl_X2_85 rfl k_b0_0 g_b0_0_8 ?_
  refine r_iload_n (pc := 7) dX2_lookAt_7 rfl ?_
  obtain ⟨i_1, K0⟩ := K0
  obtain ⟨c_2, g_3, K0⟩ := K0
  refine s_aald (pc := 8) dX2_lookAt_8 (by decide) rfl k_b0_0_8 i_1 g_3 ?_
  refine r_astore_n (pc := 9) dX2_lookAt_9 (by decide) ?_
  refine r_aload_n (pc := 10) (L := [some (.ref b0), some (.int l1), some (.ref c_2)]) dX2_lookAt_10 rfl ?_
  refine s_getR (pc := 11) dX2_lookAt_11 fl_X2_25 rfl k_b0 g_b0_3 ?_
  refine r_iload_n (pc := 14) dX2_lookAt_14 rfl ?_
  refine r_aload_n (pc := 15) dX2_lookAt_15 rfl ?_
  refine s_getR (pc := 16) dX2_lookAt_16 fl_X2_12 rfl k_b0 g_b0_0 ?_
  refine r_aload_n (pc := 19) dX2_lookAt_19 rfl ?_
  refine s_VI (pc := 20) mX4_hourFor (ci := 4) (a := b0_0) (As := [.ref c_2]) dX2_lookAt_20 lk_X2_103 in_X4_hourFor mo_X4_hourFor ⟨by decide, rfl⟩ ⟨by decide, by decide⟩ (Nat.le_of_ble_eq_true rfl) k_b0_0 (mSI_mono K0 (fun r_5 y_4 K0 => ?_))
  obtain ⟨i_6, K0⟩ := K0
  refine s_iast (pc := 23) dX2_lookAt_23 k_b0_3 i_6 ?_
  refine r_aload_n (pc := 24) dX2_lookAt_24 rfl ?_
  obtain ⟨g_7, K0⟩ := K0
  refine s_getR (pc := 25) dX2_lookAt_25 fl_X2_25 rfl k_b0 g_7 ?_
  refine r_iload_n (pc := 28) dX2_lookAt_28 rfl ?_
  refine s_iald (pc := 29) dX2_lookAt_29 k_b0_3 i_6 ?_
  refine r_iconst (pc := 30) (v := (-1)) dX2_lookAt_30 (by decide) ?_
  refine r_icmp_eq (pc := 31) (tgt := 79) dX2_lookAt_31 (by decide) (fun q => ?_) (fun q => ?_)
  · have K0 := K0.1 q
    exact s_ret rfl dX2_lookAt_79 K0
  · have K0 := K0.2 q
    refine r_aload_n (pc := 34) dX2_lookAt_34 rfl ?_
    obtain ⟨g_9, K0⟩ := K0
    refine s_getR (pc := 35) dX2_lookAt_35 fl_X2_12 rfl k_b0 g_9 ?_
    refine r_aload_n (pc := 38) dX2_lookAt_38 rfl ?_
    refine r_aload_n (pc := 39) dX2_lookAt_39 rfl ?_
    refine s_getR (pc := 40) dX2_lookAt_40 fl_X2_25 rfl k_b0 g_7 ?_
    refine r_iload_n (pc := 43) dX2_lookAt_43 rfl ?_
    refine s_iald (pc := 44) dX2_lookAt_44 k_b0_3 i_6 ?_
    refine s_VV (pc := 45) mX4_grant (ci := 4) (a := b0_0) (As := [.ref c_2, .int (gi (ui y_4 b0_3 (l1 : Int32).toNatClampNeg r_5) b0_3 (l1 : Int32).toNatClampNeg)]) dX2_lookAt_45 lk_X2_107 in_X4_grant mo_X4_grant ⟨by decide, rfl⟩ ⟨by decide, by decide⟩ (Nat.le_of_ble_eq_true rfl) k_b0_0 (mSV_mono K0 (fun y_10 K0 => ?_))
    refine r_aload_n (pc := 48) dX2_lookAt_48 rfl ?_
    obtain ⟨c_11, g_12, K0⟩ := K0
    refine s_getR (pc := 49) dX2_lookAt_49 fl_X2_18 rfl k_b0 g_12 ?_
    refine r_aload_n (pc := 52) dX2_lookAt_52 rfl ?_
    obtain ⟨e_13, K0⟩ := K0
    refine s_getI (pc := 53) dX2_lookAt_53 fl_X2_78 rfl e_13 ?_
    refine r_bipush (pc := 56) (v := 7) dX2_lookAt_56 (by decide) ?_
    refine r_imul (pc := 58) dX2_lookAt_58 ?_
    refine r_aload_n (pc := 59) dX2_lookAt_59 rfl ?_
    refine s_getI (pc := 60) dX2_lookAt_60 fl_X2_81 rfl e_13 ?_
    refine r_iadd (pc := 63) dX2_lookAt_63 ?_
    refine r_dup2 (pc := 64) dX2_lookAt_64 rfl rfl ?_
    obtain ⟨n_15, e_14, K0⟩ := K0
    obtain ⟨i_16, K0⟩ := K0
    refine s_iald (pc := 65) dX2_lookAt_65 e_14 i_16 ?_
    refine r_iconst (pc := 66) (v := 1) dX2_lookAt_66 (by decide) ?_
    refine r_iadd (pc := 67) dX2_lookAt_67 ?_
    refine s_iast (pc := 68) dX2_lookAt_68 e_14 i_16 ?_
    refine r_aload_n (pc := 69) dX2_lookAt_69 rfl ?_
    refine r_dup (pc := 70) dX2_lookAt_70 rfl ?_
    refine s_getI (pc := 71) dX2_lookAt_71 fl_X2_28 rfl k_b0 ?_
    obtain ⟨r_17, w_18⟩ : ∃ z : Int32, z = gi (ui y_10 c_11 ((((gi y_10 c_2 0) * 7) + (gi y_10 c_2 1)) : Int32).toNatClampNeg ((gi y_10 c_11 ((((gi y_10 c_2 0) * 7) + (gi y_10 c_2 1)) : Int32).toNatClampNeg) + 1)) b0 4 := ⟨_, rfl⟩
    rw [← w_18]
    have K0 := K0 r_17 w_18
    refine r_iconst (pc := 74) (v := 1) dX2_lookAt_74 (by decide) ?_
    refine r_iadd (pc := 75) dX2_lookAt_75 ?_
    refine s_putI (pc := 76) dX2_lookAt_76 fl_X2_28 rfl rfl k_b0 ?_
    exact s_ret rfl dX2_lookAt_79 K0
section
theorem sp_X2_lookAt {x : Cn} {Q : Cn → Prop} {T : TT} {W C S A N a g : Nat} (P : PLf x) (E : SEB x 118 T W C S A N) (hl : HLD x T S) (hg : gi x 117 4 = nI g) (ha : a < A)
    (k1 : hrF T S N a = -1 → ∀ y, PCr x y → SEB y 118 T W C S A N → HLD y T S → gi y 117 4 = nI g → (∀ b, gi y 173 b = gi x 173 b) → (∀ b, gi y 174 b = if b = a then -1 else gi x 174 b) → Q y)
    (k2 : ∀ h, h < 24 → hrF T S N a = nI h → S < 24 → ¬ (ao T a 5).toNatClampNeg < N → ∀ y, PCr x y → SEB y 118 (grT T S a (nI h)) W C (S + 1) A N → HLD y (grT T S a (nI h)) (S + 1) → gi y 117 4 = nI (g + 1) → (∀ b, gi y 173 b = gi x 173 b) → (∀ b, gi y 174 b = if b = a then nI h else gi x 174 b) → Q y) : mSV mX2_lookAt [.ref 117, .int (nI a)] KW x Q := by
  have hn := E.nums
  have hA : A ≤ 24 := hn.2.2.2.2.2.2.2.1
  have hC : C ≤ 8 := hn.2.2.2.2.2.1
  have hS : S ≤ 24 := hn.2.2.2.2.2.2.1
  obtain ⟨p, e1, e2, e3, w⟩ := E.ask ha
  obtain ⟨⟨c, hc, ec⟩, ⟨d, hd, ed⟩, ⟨h0, hh0, eh0⟩, -⟩ := id w
  refine v_X2_lookAt_0 k117 P.1 (ks0 E.1) E.2.1.2.2.2.1 (ks4 E.1) P.2.2.2 k174 ?_
  rw [nI_clamp (by omega)]
  refine ⟨vp_in_nI (by omega) (by decide), p, e1, sb_X4_hourFor E ha e1 (fun y hy => ⟨vp_in_nI (by omega) (by decide), (P.keep hy.1).2.2.2, ?_⟩)⟩
  have ev : gi (ui y 174 a (hrF T S N a)) 174 a = hrF T S N a := by rw [gi_ui, if_pos ⟨rfl, rfl⟩]
  rw [ev]
  have Ey := E.eqx hy (Or.inl rfl)
  have E2 : SEB (ui y 174 a (hrF T S N a)) 118 T W C S A N := Ey.eqx (EQx.rf y 174).ui (Or.inr (Or.inr (by decide)))
  have f1 : PCr x (ui y 174 a (hrF T S N a)) := (hy.pc (by decide)).ui (by decide)
  have o2 : ∀ b i, b ≠ 123 → b ≠ 174 → gi (ui y 174 a (hrF T S N a)) b i = gi x b i := fun b i b1 b2 => by rw [gi_ui, if_neg (fun u => b2 u.1)]; exact hy.2 b i b1
  refine ⟨fun z => k1 z _ f1 E2 (hl.mv (fun i => o2 172 i (by decide) (by decide))) (by rw [o2 117 4 (by decide) (by decide)]; exact hg) (fun b => o2 173 b (by decide) (by decide)) (fun b => ?_), fun z => ⟨(P.keep hy.1).1, ?_⟩⟩
  · rw [gi_ui, z]
    by_cases c1 : b = a
    · rw [if_pos ⟨rfl, c1⟩, if_pos c1]
    · rw [if_neg (fun u => c1 u.2), if_neg c1]; exact hy.2 174 b (by decide)
  · rcases hrF_in (S := S) (N := N) hh0 eh0 with g0 | ⟨h, h1, h2, h3, h4⟩
    · exact absurd g0 z
    · rw [h2]
      rw [h2] at E2 f1 o2
      have e1' : gr (ui y 174 a (nI h)) (118 + 4) a = some p := by
        show gr y _ _ = _
        unfold gr; rw [hy.1]; exact e1
      refine sp_X4_grant E2 (by omega) ha e1' h1 h4 (fun v fv Ev => ?_)
      have ov : ∀ b i, ¬ (118 ≤ b ∧ b < 172) → b ≠ 174 → gi v b i = gi x b i := fun b i b1 b2 => (fv.2 b i (by omega)).trans (o2 b i (by omega) b2)
      obtain ⟨pv, ve1, ve2, ve3, vw⟩ := Ev.ask ha
      have epv : pv = p := by
        have : gr v (118 + 4) a = some p := by
          unfold gr; rw [fv.1]; exact e1'
        exact Option.some.inj (ve1.symm.trans this)
      subst epv
      have ga : ∀ i, i < 7 → ao (grT T S a (nI h)) a i = ao T a i := fun i hi => adT_off (by omega) (by omega)
      refine ⟨172, (P.keep (fv.1.trans hy.1)).2.1, ve2, 56, k172, ?_⟩
      rw [ve3 0 (by decide), ve3 1 (by decide), ga 0 (by decide), ga 1 (by decide), ec, ed, show (7 : Int32) = nI 7 by decide, pk_mul, nI_add, nI_clamp (by omega)]
      refine ⟨vp_in_nI (by omega) (by decide), fun r hr => ?_⟩
      have er : r = nI g := by rw [hr, gi_ui, if_neg (by omega), ov 117 4 (by omega) (by decide)]; exact hg
      rw [er, nI_1]
      have hlv : HLD v T S := hl.mv (fun i => ov 172 i (by omega) (by decide))
      have f2 : PCr x v := f1.tr fv.pc
      refine k2 h h1 h2 (by omega) h4 _ ((f2.ui (by decide)).ui (by decide)) ?_ ?_ (by rw [gi_ui, if_pos ⟨rfl, rfl⟩]) (fun b => ?_) (fun b => ?_)
      · exact (Ev.eqx (EQx.rf v 172).ui (Or.inr (Or.inr (by decide)))).eqx (EQx.rf _ 117).ui (Or.inr (Or.inl (by decide)))
      · refine HLD.mv (hlv.inc (T' := grT T S a (nI h)) (c0 := c) (d0 := d) (by omega) hd (by rw [so_adT (by decide)]; exact ec) (by rw [so_adT (by decide)]; exact ed) (fun s hs => ⟨so_adT' (by decide) (by omega), so_adT' (by decide) (by omega)⟩)) (fun i => ?_)
        rw [gi_ui, if_neg (by omega)]
      · rw [gi_ui, if_neg (by omega), gi_ui, if_neg (by omega)]; exact ov 173 b (by omega) (by decide)
      · rw [gi_ui, if_neg (by omega), gi_ui, if_neg (by omega), fv.2 174 b (by omega), gi_ui]
        by_cases c1 : b = a
        · rw [if_pos ⟨rfl, c1⟩, if_pos c1]
        · rw [if_neg (fun u => c1 u.2), if_neg c1]; exact hy.2 174 b (by decide)

end
end
/-! 55.pool2.lean.txt -/
section
theorem cnt_lt {f : Nat → Bool} : ∀ n, cnt f n < n → ∃ i, i < n ∧ f i = false := by
  intro n
  induction n with
  | zero => intro h; exact absurd h (Nat.not_lt_zero _)
  | succ n ih =>
    intro h
    cases hq : f n with
    | false => exact ⟨n, by omega, hq⟩
    | true =>
      have h : cnt f n + (if f n = true then 1 else 0) < n + 1 := h
      rw [if_pos hq] at h
      obtain ⟨i, h1, h2⟩ := ih (by omega)
      exact ⟨i, by omega, h2⟩
theorem cnt_all {f : Nat → Bool} : ∀ n, cnt f n = n → ∀ i, i < n → f i = true := by
  intro n
  induction n with
  | zero => intro _ i hi; omega
  | succ n ih =>
    intro h i hi
    have h : cnt f n + (if f n = true then 1 else 0) = n + 1 := h
    have hl := cnt_le f n
    cases hq : f n with
    | false => rw [if_neg (by rw [hq]; decide)] at h; omega
    | true =>
      rw [if_pos hq] at h
      by_cases c : i = n
      · rw [c]; exact hq
      · exact ih (by omega) i (by omega)
theorem cnt_set {f g : Nat → Bool} {a : Nat} (hf : f a = false) (hg : g a = true) (h : ∀ i, i ≠ a → g i = f i) : ∀ n, a < n → cnt g n = cnt f n + 1 := by
  intro n
  induction n with
  | zero => intro h; omega
  | succ n ih =>
    intro ha
    show cnt g n + (if g n = true then 1 else 0) = cnt f n + (if f n = true then 1 else 0) + 1
    by_cases c : n = a
    · subst c
      rw [cnt_congr n (fun i hi => h i (by omega)), hf, hg]
      rfl
    · rw [ih (by omega), h n c]
      omega
/-- a pool as it is played: row, series, turns, hours, grants -/
abbrev PS : Type := TT × Nat × TT × TT × Nat
def fl (k : Nat) : Int32 := if k % 2 = 0 then 1 else 0
def plA (A k : Nat) (p : PS) : Nat := (chC p.1 p.2.1 A (usd p.2.2.1) (fl k)).toNatClampNeg
noncomputable def plS (A N : Nat) : Nat → PS → PS := fun k p => if hrF p.1 p.2.1 N (plA A k p) = -1 then (p.1, p.2.1, uT p.2.2.1 (plA A k p) (nI k), uT p.2.2.2.1 (plA A k p) (-1), p.2.2.2.2) else (grT p.1 p.2.1 (plA A k p) (hrF p.1 p.2.1 N (plA A k p)), p.2.1 + 1, uT p.2.2.1 (plA A k p) (nI k), uT p.2.2.2.1 (plA A k p) (hrF p.1 p.2.1 N (plA A k p)), p.2.2.2.2 + 1)
theorem plS_f {A N k a : Nat} {p : PS} (ea : plA A k p = a) (h : hrF p.1 p.2.1 N a = -1) : plS A N k p = (p.1, p.2.1, uT p.2.2.1 a (nI k), uT p.2.2.2.1 a (-1), p.2.2.2.2) := by
  unfold plS
  rw [ea, if_pos h]
theorem plS_t {A N k a : Nat} {p : PS} {v : Int32} (ea : plA A k p = a) (h : hrF p.1 p.2.1 N a = v) (hv : ¬ v = -1) : plS A N k p = (grT p.1 p.2.1 a v, p.2.1 + 1, uT p.2.2.1 a (nI k), uT p.2.2.2.1 a v, p.2.2.2.2 + 1) := by
  unfold plS
  rw [ea, h, if_neg hv]
def PIV (W C A N : Nat) (T0 : TT) (k : Nat) (p : PS) : Prop := WFB p.1 W C p.2.1 A N ∧ cnt (usd p.2.2.1) A = k ∧ (∀ a, A ≤ a → p.2.2.1 a = -1 ∧ p.2.2.2.1 a = -1) ∧ (∀ i, i < 62 ∨ 350 ≤ i → i ≠ 2 → p.1 i = T0 i) ∧ p.2.2.2.2 ≤ k ∧ ∀ a, p.2.2.1 a = -1 → p.2.2.2.1 a = -1
theorem usd_f {t : TT} {a : Nat} : usd t a = false ↔ t a = -1 := by
  unfold usd
  rw [decide_eq_false_iff_not, Classical.not_not]
theorem usd_t {t : TT} {a : Nat} : usd t a = true ↔ ¬ t a = -1 := by
  unfold usd
  rw [decide_eq_true_iff]
theorem fl_01 (k : Nat) : fl k = 0 ∨ fl k = 1 := by
  unfold fl
  by_cases c : k % 2 = 0
  · rw [if_pos c]; exact Or.inr rfl
  · rw [if_neg c]; exact Or.inl rfl
theorem PIV.a {W C A N k : Nat} {T0 : TT} {p : PS} (iv : PIV W C A N T0 k p) (hk : k < A) : ∃ a, a < A ∧ plA A k p = a ∧ chC p.1 p.2.1 A (usd p.2.2.1) (fl k) = nI a ∧ p.2.2.1 a = -1 := by
  have hA : A ≤ 24 := iv.1.2.2.2.2.2.2.2.2.1
  obtain ⟨i, hi, hu⟩ := cnt_lt A (by rw [iv.2.1]; exact hk)
  obtain ⟨a, ha, ga, ea⟩ := chC_ok (T := p.1) (S := p.2.1) (fl_01 k) hA hi hu
  refine ⟨a, ha, ?_, ea, usd_f.mp ga⟩
  unfold plA
  rw [ea, nI_clamp (by omega)]
theorem usd_cnt {t : TT} {A a k : Nat} (ha : a < A) (hk : k < 2 ^ 31) (h : t a = -1) : cnt (usd (uT t a (nI k))) A = cnt (usd t) A + 1 :=
  cnt_set (usd_f.mpr h) (usd_t.mpr (by rw [uT_at]; exact nI_ne1 hk)) (fun i hi => by unfold usd; rw [uT_ne _ _ hi]) A ha
theorem PIV.f {W C A N k a : Nat} {T0 : TT} {p : PS} (iv : PIV W C A N T0 k p) (ha : a < A) (hk : k < A) (h : p.2.2.1 a = -1) : PIV W C A N T0 (k + 1) (p.1, p.2.1, uT p.2.2.1 a (nI k), uT p.2.2.2.1 a (-1), p.2.2.2.2) := by
  have hA : A ≤ 24 := iv.1.2.2.2.2.2.2.2.2.1
  obtain ⟨i1, i2, i3, i4, i5, i6⟩ := iv
  refine ⟨i1, ?_, fun b hb => ?_, i4, ?_, fun b hb => ?_⟩
  · show cnt (usd (uT p.2.2.1 a (nI k))) A = k + 1
    rw [usd_cnt ha (by omega) h, i2]
  · show uT p.2.2.1 a (nI k) b = -1 ∧ uT p.2.2.2.1 a (-1) b = -1
    rw [uT_ne _ _ (by omega), uT_ne _ _ (by omega)]; exact i3 b hb
  · show p.2.2.2.2 ≤ k + 1
    omega
  · show uT p.2.2.2.1 a (-1) b = -1
    have hb : uT p.2.2.1 a (nI k) b = -1 := hb
    by_cases c : b = a
    · rw [c, uT_at]
    · rw [uT_ne _ _ c] at hb ⊢; exact i6 b hb
theorem PIV.t {W C A N k a h : Nat} {T0 : TT} {p : PS} (iv : PIV W C A N T0 k p) (ha : a < A) (hk : k < A) (h1 : p.2.2.1 a = -1) (hh : h < 24) (hS : p.2.1 < 24) (hl : ¬ (ao p.1 a 5).toNatClampNeg < N) : PIV W C A N T0 (k + 1) (grT p.1 p.2.1 a (nI h), p.2.1 + 1, uT p.2.2.1 a (nI k), uT p.2.2.2.1 a (nI h), p.2.2.2.2 + 1) := by
  have hA : A ≤ 24 := iv.1.2.2.2.2.2.2.2.2.1
  obtain ⟨i1, i2, i3, i4, i5, i6⟩ := iv
  refine ⟨i1.add hS (Was.gr i1 ha hh hl), ?_, fun b hb => ?_, fun i hi h2 => ?_, ?_, fun b hb => ?_⟩
  · show cnt (usd (uT p.2.2.1 a (nI k))) A = k + 1
    rw [usd_cnt ha (by omega) h1, i2]
  · show uT p.2.2.1 a (nI k) b = -1 ∧ uT p.2.2.2.1 a (nI h) b = -1
    rw [uT_ne _ _ (by omega), uT_ne _ _ (by omega)]; exact i3 b hb
  · exact (adT_off h2 (by omega)).trans (i4 i hi h2)
  · show p.2.2.2.2 + 1 ≤ k + 1
    omega
  · show uT p.2.2.2.1 a (nI h) b = -1
    have hb : uT p.2.2.1 a (nI k) b = -1 := hb
    by_cases c : b = a
    · rw [c, uT_at] at hb; exact absurd hb (nI_ne1 (by omega))
    · rw [uT_ne _ _ c] at hb ⊢; exact i6 b hb
def pl0 (T0 : TT) (S : Nat) : PS := (T0, S, fun _ => -1, fun _ => -1, 0)
theorem PIV.st {W C S A N : Nat} {T0 : TT} (F : WFB T0 W C S A N) : PIV W C A N T0 0 (pl0 T0 S) := by
  refine ⟨F, ?_, fun _ _ => ⟨rfl, rfl⟩, fun _ _ _ => rfl, Nat.le_refl _, fun _ _ => rfl⟩
  show cnt (usd (fun _ => -1)) A = 0
  rw [cnt_congr (g := fun _ => false) A (fun i _ => usd_f.mpr rfl)]
  induction A with
  | zero => rfl
  | succ n ih => 
    have : ∀ n, cnt (fun _ => false) n = 0 := fun n => by
      induction n with
      | zero => rfl
      | succ n ih => show cnt (fun _ => false) n + _ = 0; rw [ih]; rfl
    exact this _
/-- at each turn, and at the end, it is in order -/
theorem PIV.run {W C S A N : Nat} {T0 : TT} (F : WFB T0 W C S A N) : ∀ k, k ≤ A → PIV W C A N T0 k (accT (plS A N) k (pl0 T0 S)) := by
  intro k
  induction k with
  | zero => intro _; exact PIV.st F
  | succ k ih =>
    intro hk
    have iv := ih (by omega)
    simp only [accT]
    generalize accT (plS A N) k (pl0 T0 S) = p at iv ⊢
    obtain ⟨a, ha, e1, e2, e3⟩ := iv.a (by omega)
    obtain ⟨-, -, ⟨h0, hh0, eh0⟩, -⟩ := iv.1.2.2.2.2.2.2.2.2.2.2.2.2.2 a ha
    rcases hrF_in (S := p.2.1) (N := N) hh0 eh0 with g0 | ⟨h, h1, h2, h3, h4⟩
    · rw [plS_f e1 g0]; exact iv.f ha (by omega) e3
    · rw [plS_t e1 h2 (nI_ne1 (by omega))]
      exact iv.t ha (by omega) e3 h1 (by have := iv.1.2.2.2.2.2.2.1; omega) h4
def CPR (y : Cn) (p : PS) (W C A N : Nat) : Prop := SEB y 118 p.1 W C p.2.1 A N ∧ HLD y p.1 p.2.1 ∧ gi y 117 4 = nI p.2.2.2.2 ∧ ∀ a, ¬ p.2.2.1 a = -1 → gi y 173 a = p.2.2.1 a ∧ gi y 174 a = p.2.2.2.1 a
def hlT (T : TT) (h : Nat) : TT := uT (uT T (6 + 2 * h) (T (6 + 2 * h) + 1)) (7 + 2 * h) (T (7 + 2 * h) + 1)
theorem hlT_off {T : TT} {h i : Nat} (hh : h < 24) (c : i < 6 ∨ 54 ≤ i) : hlT T h i = T i := by
  unfold hlT
  rw [uT_ne _ _ (by omega), uT_ne _ _ (by omega)]
theorem WFB.hl {T : TT} {W C S A N h : Nat} (F : WFB T W C S A N) (hh : h < 24) : WFB (hlT T h) W C S A N := by
  obtain ⟨w1, w2, w3, w4, w5, w6, w7, w8, w9, w10, w11, w12, w13, w14⟩ := F
  have hT : ∀ i, i < 6 ∨ 54 ≤ i → hlT T h i = T i := fun i hi => hlT_off hh hi
  exact ⟨by rw [hT 0 (by omega)]; exact w1, w2, w3, by rw [hT 1 (by omega)]; exact w4, w5, by rw [hT 2 (by omega)]; exact w6, w7, by rw [hT 3 (by omega)]; exact w8, w9, by rw [hT 4 (by omega)]; exact w10, w11, w12, fun s hs => (w13 s hs).cg (fun k hk => hT _ (by omega)), fun a ha => (w14 a ha).cg (fun k hk => hT _ (by omega))⟩
theorem SEB.hl {x : Cn} {q : Nat} {T : TT} {W C S A N h : Nat} (E : SEB x q T W C S A N) (hh : h < 24) : SEB (ui (ui x (q + 1) h (T (6 + 2 * h) + 1)) (q + 2) h (T (7 + 2 * h) + 1)) q (hlT T h) W C S A N := by
  have F := E.2.2.2.hl hh
  obtain ⟨e1, e2, ⟨v0, v1, v2, v3, v4, v5, v6, v7⟩, w1, w2, w3, w4, w5, w6, w7, w8, w9, w10, w11, w12, w13, w14⟩ := E
  obtain ⟨r1, r2, r3, r4, r5, r6, r7, r8, r9⟩ := id e2
  have hT : ∀ i, i < 6 ∨ 54 ≤ i → hlT T h i = T i := fun i hi => hlT_off hh hi
  have eo : ∀ b k, b ≠ q + 1 → b ≠ q + 2 → gi (ui (ui x (q + 1) h (T (6 + 2 * h) + 1)) (q + 2) h (T (7 + 2 * h) + 1)) b k = gi x b k := fun b k b1 b2 => by rw [gi_ui, if_neg (fun u => b2 u.1), gi_ui, if_neg (fun u => b1 u.1)]
  refine ⟨e1, e2.keep rfl, ⟨?_, ?_, ?_, ?_, ?_, ?_, ?_, ?_⟩, F⟩
  · rw [eo q 0 (by omega) (by omega), hT 0 (by omega)]; exact v0
  · rw [eo q 1 (by omega) (by omega), hT 4 (by omega)]; exact v1
  · rw [eo q 2 (by omega) (by omega), hT 5 (by omega)]; exact v2
  · rw [eo q 3 (by omega) (by omega), hT 2 (by omega)]; exact v3
  · rw [eo q 4 (by omega) (by omega), hT 3 (by omega)]; exact v4
  · intro i hi
    by_cases c : i = h
    · subst c
      refine ⟨?_, ?_⟩
      · rw [gi_ui, if_neg (by omega), gi_ui, if_pos ⟨rfl, rfl⟩]
        unfold hlT
        rw [uT_ne _ _ (by omega), uT_at]
      · rw [gi_ui, if_pos ⟨rfl, rfl⟩]
        unfold hlT
        rw [uT_at]
    · refine ⟨?_, ?_⟩
      · rw [gi_ui, if_neg (by omega), gi_ui, if_neg (fun u => c u.2)]
        unfold hlT
        rw [uT_ne _ _ (by omega), uT_ne _ _ (by omega)]
        exact (v5 i hi).1
      · rw [gi_ui, if_neg (fun u => c u.2), gi_ui, if_neg (by omega)]
        unfold hlT
        rw [uT_ne _ _ (by omega), uT_ne _ _ (by omega)]
        exact (v5 i hi).2
  · intro s p hs hp
    obtain ⟨j, hj, ej⟩ := r6 s (by omega)
    have ep : p = q + 6 + j := Option.some.inj ((show gr x (q + 3) s = some p from hp).symm.trans ej)
    exact (v6 s p hs hp).cg (fun k _ => eo p k (by omega) (by omega)) (fun k hk => hT _ (by omega))
  · intro s p hs hp
    obtain ⟨j, hj, ej⟩ := r8 s (by omega)
    have ep : p = q + 30 + j := Option.some.inj ((show gr x (q + 4) s = some p from hp).symm.trans ej)
    exact (v7 s p hs hp).cg (fun k _ => eo p k (by omega) (by omega)) (fun k hk => hT _ (by omega))
set_option maxHeartbeats 2000000 in
theorem v_X2_serve_0 {K : Sh} {x : Cn} {Q : Cn → Prop} {b0 : Nat} {b1 : Nat} {l2 : Int32} {b0_0 : Nat} (k_b0 : kk K b0 = some (2, 0)) (g_b0_0 : gr x b0 0 = some b0_0) (k_b0_0 : kk K b0_0 = some (4, 0)) (K0 : mSV mX4_copyFrom [.ref b0_0, .ref b1] K x (fun y_1 => (l2 < 0 → (mSV mX2_countSlots [.ref b0] K y_1 (fun y_3 => mSI mX2_allAsks [.ref b0] K (ui y_3 b0 4 0) (fun r_5 y_4 => GV mX2_serve 61 [some (.ref b0), some (.ref b1), some (.int l2), some (.int r_5), some (.int 0), none] [] K y_4 Q)))) ∧ (¬ l2 < 0 → ((24 ≤ l2 → (mSV mX2_countSlots [.ref b0] K y_1 (fun y_7 => mSI mX2_allAsks [.ref b0] K (ui y_7 b0 4 0) (fun r_9 y_8 => GV mX2_serve 61 [some (.ref b0), some (.ref b1), some (.int l2), some (.int r_9), some (.int 0), none] [] K y_8 Q)))) ∧ (¬ 24 ≤ l2 → (gr y_1 b0 0 = some b0_0 ∧ (∃ c_11 : Nat, gr y_1 b0_0 5 = some c_11 ∧ (∃ n_14 : Nat, kk K c_11 = some (20, n_14) ∧ (vp_in l2 n_14 ∧ (∃ c_16 : Nat, gr y_1 b0_0 6 = some c_16 ∧ (∃ n_19 : Nat, kk K c_16 = some (20, n_19) ∧ (vp_in l2 n_19 ∧ (mSV mX2_countSlots [.ref b0] K (ui (ui y_1 c_11 (l2 : Int32).toNatClampNeg ((gi y_1 c_11 (l2 : Int32).toNatClampNeg) + 1)) c_16 (l2 : Int32).toNatClampNeg ((gi (ui y_1 c_11 (l2 : Int32).toNatClampNeg ((gi y_1 c_11 (l2 : Int32).toNatClampNeg) + 1)) c_16 (l2 : Int32).toNatClampNeg) + 1)) (fun y_21 => mSI mX2_allAsks [.ref b0] K (ui y_21 b0 4 0) (fun r_23 y_22 => GV mX2_serve 61 [some (.ref b0), some (.ref b1), some (.int l2), some (.int r_23), some (.int 0), none] [] K y_22 Q))))))))))))))) : mSV mX2_serve [.ref b0, .ref b1, .int l2] K x Q := by
  refine s_V (by decide) (by simp [Value.category]) (Nat.le_of_ble_eq_true rfl) ?_
  show mGM mX2_serve 0 [some (.ref b0), some (.ref b1), some (.int l2), none, none, none] [] (hp K x) (PV K Q)
  refine r_aload_n (pc := 0) dX2_serve_0 rfl ?_
  refine s_getR (pc := 1) dX2_serve_1 fl_X2_12 rfl k_b0 g_b0_0 ?_
  refine r_aload_n (pc := 4) dX2_serve_4 rfl ?_
  refine s_VV (pc := 5) mX4_copyFrom (ci := 4) (a := b0_0) (As := [.ref b1]) dX2_serve_5 lk_X2_32 in_X4_copyFrom mo_X4_copyFrom ⟨by decide, rfl⟩ ⟨by decide, by decide⟩ (Nat.le_of_ble_eq_true rfl) k_b0_0 (mSV_mono K0 (fun y_1 K0 => ?_))
  refine r_iload_n (pc := 8) dX2_serve_8 rfl ?_
  refine r_if_lt (pc := 9) (tgt := 44) dX2_serve_9 (by decide) (fun q => ?_) (fun q => ?_)
  · have K0 := K0.1 q
    refine r_aload_n (pc := 44) dX2_serve_44 rfl ?_
    refine s_VV (pc := 45) mX2_countSlots (ci := 2) (a := b0) (As := []) dX2_serve_45 lk_X2_36 in_X2_countSlots mo_X2_countSlots ⟨by decide, rfl⟩ ⟨by decide, by decide⟩ (Nat.le_of_ble_eq_true rfl) k_b0 (mSV_mono K0 (fun y_3 K0 => ?_))
    refine r_aload_n (pc := 48) dX2_serve_48 rfl ?_
    refine r_iconst (pc := 49) (v := 0) dX2_serve_49 (by decide) ?_
    refine s_putI (pc := 50) dX2_serve_50 fl_X2_28 rfl rfl k_b0 ?_
    refine r_aload_n (pc := 53) dX2_serve_53 rfl ?_
    refine s_VI (pc := 54) mX2_allAsks (ci := 2) (a := b0) (As := []) dX2_serve_54 lk_X2_39 in_X2_allAsks mo_X2_allAsks ⟨by decide, rfl⟩ ⟨by decide, by decide⟩ (Nat.le_of_ble_eq_true rfl) k_b0 (mSI_mono K0 (fun r_5 y_4 K0 => ?_))
    refine r_istore_n (pc := 57) dX2_serve_57 (by decide) ?_
    refine r_iconst (pc := 58) (L := [some (.ref b0), some (.ref b1), some (.int l2), some (.int r_5), none, none]) (v := 0) dX2_serve_58 (by decide) ?_
    refine r_istore (pc := 59) dX2_serve_59 (by decide) ?_
    exact r_le (L' := [some (.ref b0), some (.ref b1), some (.int l2), some (.int r_5), some (.int 0), none]) ⟨rfl, ⟨rfl, ⟨rfl, ⟨rfl, ⟨rfl, trivial⟩⟩⟩⟩⟩ K0
  · have K0 := K0.2 q
    refine r_iload_n (pc := 12) dX2_serve_12 rfl ?_
    refine r_bipush (pc := 13) (v := 24) dX2_serve_13 (by decide) ?_
    refine r_icmp_ge (pc := 15) (tgt := 44) dX2_serve_15 (by decide) (fun q => ?_) (fun q => ?_)
    · have K0 := K0.1 q
      refine r_aload_n (pc := 44) dX2_serve_44 rfl ?_
      refine s_VV (pc := 45) mX2_countSlots (ci := 2) (a := b0) (As := []) dX2_serve_45 lk_X2_36 in_X2_countSlots mo_X2_countSlots ⟨by decide, rfl⟩ ⟨by decide, by decide⟩ (Nat.le_of_ble_eq_true rfl) k_b0 (mSV_mono K0 (fun y_7 K0 => ?_))
      refine r_aload_n (pc := 48) dX2_serve_48 rfl ?_
      refine r_iconst (pc := 49) (v := 0) dX2_serve_49 (by decide) ?_
      refine s_putI (pc := 50) dX2_serve_50 fl_X2_28 rfl rfl k_b0 ?_
      refine r_aload_n (pc := 53) dX2_serve_53 rfl ?_
      refine s_VI (pc := 54) mX2_allAsks (ci := 2) (a := b0) (As := []) dX2_serve_54 lk_X2_39 in_X2_allAsks mo_X2_allAsks ⟨by decide, rfl⟩ ⟨by decide, by decide⟩ (Nat.le_of_ble_eq_true rfl) k_b0 (mSI_mono K0 (fun r_9 y_8 K0 => ?_))
      refine r_istore_n (pc := 57) dX2_serve_57 (by decide) ?_
      refine r_iconst (pc := 58) (L := [some (.ref b0), some (.ref b1), some (.int l2), some (.int r_9), none, none]) (v := 0) dX2_serve_58 (by decide) ?_
      refine r_istore (pc := 59) dX2_serve_59 (by decide) ?_
      exact r_le (L' := [some (.ref b0), some (.ref b1), some (.int l2), some (.int r_9), some (.int 0), none]) ⟨rfl, ⟨rfl, ⟨rfl, ⟨rfl, ⟨rfl, trivial⟩⟩⟩⟩⟩ K0
    · have K0 := K0.2 q
      refine r_aload_n (pc := 18) dX2_serve_18 rfl ?_
      obtain ⟨g_10, K0⟩ := K0
      refine s_getR (pc := 19) dX2_serve_19 fl_X2_12 rfl k_b0 g_10 ?_
      obtain ⟨c_11, g_12, K0⟩ := K0
      refine s_getR (pc := 22) dX2_serve_22 fl_X2_47 rfl k_b0_0 g_12 ?_
      refine r_iload_n (pc := 25) dX2_serve_25 rfl ?_
      refine r_dup2 (pc := 26) dX2_serve_26 rfl rfl ?_
      obtain ⟨n_14, e_13, K0⟩ := K0
      obtain ⟨i_15, K0⟩ := K0
      refine s_iald (pc := 27) dX2_serve_27 e_13 i_15 ?_
      refine r_iconst (pc := 28) (v := 1) dX2_serve_28 (by decide) ?_
      refine r_iadd (pc := 29) dX2_serve_29 ?_
      refine s_iast (pc := 30) dX2_serve_30 e_13 i_15 ?_
      refine r_aload_n (pc := 31) dX2_serve_31 rfl ?_
      refine s_getR (pc := 32) dX2_serve_32 fl_X2_12 rfl k_b0 g_10 ?_
      obtain ⟨c_16, g_17, K0⟩ := K0
      refine s_getR (pc := 35) dX2_serve_35 fl_X2_50 rfl k_b0_0 g_17 ?_
      refine r_iload_n (pc := 38) dX2_serve_38 rfl ?_
      refine r_dup2 (pc := 39) dX2_serve_39 rfl rfl ?_
      obtain ⟨n_19, e_18, K0⟩ := K0
      obtain ⟨i_20, K0⟩ := K0
      refine s_iald (pc := 40) dX2_serve_40 e_18 i_20 ?_
      refine r_iconst (pc := 41) (v := 1) dX2_serve_41 (by decide) ?_
      refine r_iadd (pc := 42) dX2_serve_42 ?_
      refine s_iast (pc := 43) dX2_serve_43 e_18 i_20 ?_
      refine r_aload_n (pc := 44) dX2_serve_44 rfl ?_
      refine s_VV (pc := 45) mX2_countSlots (ci := 2) (a := b0) (As := []) dX2_serve_45 lk_X2_36 in_X2_countSlots mo_X2_countSlots ⟨by decide, rfl⟩ ⟨by decide, by decide⟩ (Nat.le_of_ble_eq_true rfl) k_b0 (mSV_mono K0 (fun y_21 K0 => ?_))
      refine r_aload_n (pc := 48) dX2_serve_48 rfl ?_
      refine r_iconst (pc := 49) (v := 0) dX2_serve_49 (by decide) ?_
      refine s_putI (pc := 50) dX2_serve_50 fl_X2_28 rfl rfl k_b0 ?_
      refine r_aload_n (pc := 53) dX2_serve_53 rfl ?_
      refine s_VI (pc := 54) mX2_allAsks (ci := 2) (a := b0) (As := []) dX2_serve_54 lk_X2_39 in_X2_allAsks mo_X2_allAsks ⟨by decide, rfl⟩ ⟨by decide, by decide⟩ (Nat.le_of_ble_eq_true rfl) k_b0 (mSI_mono K0 (fun r_23 y_22 K0 => ?_))
      refine r_istore_n (pc := 57) dX2_serve_57 (by decide) ?_
      refine r_iconst (pc := 58) (L := [some (.ref b0), some (.ref b1), some (.int l2), some (.int r_23), none, none]) (v := 0) dX2_serve_58 (by decide) ?_
      refine r_istore (pc := 59) dX2_serve_59 (by decide) ?_
      exact r_le (L' := [some (.ref b0), some (.ref b1), some (.int l2), some (.int r_23), some (.int 0), none]) ⟨rfl, ⟨rfl, ⟨rfl, ⟨rfl, ⟨rfl, trivial⟩⟩⟩⟩⟩ K0
set_option maxHeartbeats 2000000 in
theorem v_X2_serve_61 {K : Sh} {x : Cn} {Q : Cn → Prop} {b0 : Nat} {b1 : Nat} {l2 : Int32} {l3 : Int32} {l4 : Int32} {b0_0 : Nat} (k_b0 : kk K b0 = some (2, 0)) (g_b0_0 : gr x b0 0 = some b0_0) (k_b0_0 : kk K b0_0 = some (4, 0)) (K0 : ((gi x b0_0 4) ≤ l4 → (Q x)) ∧ (¬ (gi x b0_0 4) ≤ l4 → ((¬ (l4 - l4 / 2 * 2) = 0 → (mSI mX2_chosen [.ref b0, .int l3, .int 0] K x (fun r_4 y_3 => (r_4 < 0 → (GV mX2_serve 61 [some (.ref b0), some (.ref b1), some (.int l2), some (.int l3), some (.int (l4 + 1)), none] [] K y_3 Q)) ∧ (¬ r_4 < 0 → (gr y_3 b0 0 = some b0_0 ∧ (((gi y_3 b0_0 4) ≤ r_4 → (GV mX2_serve 61 [some (.ref b0), some (.ref b1), some (.int l2), some (.int l3), some (.int (l4 + 1)), none] [] K y_3 Q)) ∧ (¬ (gi y_3 b0_0 4) ≤ r_4 → (∃ c_8 : Nat, gr y_3 b0 2 = some c_8 ∧ (∃ n_11 : Nat, kk K c_8 = some (20, n_11) ∧ (vp_in r_4 n_11 ∧ (mSV mX2_lookAt [.ref b0, .int r_4] K (ui y_3 c_8 (r_4 : Int32).toNatClampNeg l4) (fun y_13 => GV mX2_serve 61 [some (.ref b0), some (.ref b1), some (.int l2), some (.int (l3 &&& ((1 <<< (r_4 &&& 31)) ^^^ (-1)))), some (.int (l4 + 1)), none] [] K y_13 Q)))))))))))) ∧ ((l4 - l4 / 2 * 2) = 0 → (mSI mX2_chosen [.ref b0, .int l3, .int 1] K x (fun r_15 y_14 => (r_15 < 0 → (GV mX2_serve 61 [some (.ref b0), some (.ref b1), some (.int l2), some (.int l3), some (.int (l4 + 1)), none] [] K y_14 Q)) ∧ (¬ r_15 < 0 → (gr y_14 b0 0 = some b0_0 ∧ (((gi y_14 b0_0 4) ≤ r_15 → (GV mX2_serve 61 [some (.ref b0), some (.ref b1), some (.int l2), some (.int l3), some (.int (l4 + 1)), none] [] K y_14 Q)) ∧ (¬ (gi y_14 b0_0 4) ≤ r_15 → (∃ c_19 : Nat, gr y_14 b0 2 = some c_19 ∧ (∃ n_22 : Nat, kk K c_19 = some (20, n_22) ∧ (vp_in r_15 n_22 ∧ (mSV mX2_lookAt [.ref b0, .int r_15] K (ui y_14 c_19 (r_15 : Int32).toNatClampNeg l4) (fun y_24 => GV mX2_serve 61 [some (.ref b0), some (.ref b1), some (.int l2), some (.int (l3 &&& ((1 <<< (r_15 &&& 31)) ^^^ (-1)))), some (.int (l4 + 1)), none] [] K y_24 Q))))))))))))))) : GV mX2_serve 61 [some (.ref b0), some (.ref b1), some (.int l2), some (.int l3), some (.int l4), none] [] K x Q := by
  show mGM mX2_serve 61 [some (.ref b0), some (.ref b1), some (.int l2), some (.int l3), some (.int l4), none] [] (hp K x) (PV K Q)
  refine r_iload (pc := 61) dX2_serve_61 rfl ?_
  refine r_aload_n (pc := 63) dX2_serve_63 rfl ?_
  refine s_getR (pc := 64) dX2_serve_64 fl_X2_12 rfl k_b0 g_b0_0 ?_
  refine s_getI (pc := 67) dX2_serve_67 fl_X2_53 rfl k_b0_0 ?_
  refine r_icmp_ge (pc := 70) (tgt := 139) dX2_serve_70 (by decide) (fun q => ?_) (fun q => ?_)
  · have K0 := K0.1 q
    exact s_ret rfl dX2_serve_139 K0
  · have K0 := K0.2 q
    refine r_aload_n (pc := 73) dX2_serve_73 rfl ?_
    refine r_iload_n (pc := 74) dX2_serve_74 rfl ?_
    refine r_iload (pc := 75) dX2_serve_75 rfl ?_
    refine r_iconst (pc := 77) (v := 2) dX2_serve_77 (by decide) ?_
    refine r_irem (pc := 78) dX2_serve_78 (by decide) ?_
    refine r_if_ne (pc := 79) (tgt := 86) dX2_serve_79 (by decide) (fun q => ?_) (fun q => ?_)
    · have K0 := K0.1 q
      refine r_iconst (pc := 86) (v := 0) dX2_serve_86 (by decide) ?_
      refine s_VI (pc := 87) mX2_chosen (ci := 2) (a := b0) (As := [.int l3, .int 0]) dX2_serve_87 lk_X2_43 in_X2_chosen mo_X2_chosen ⟨by decide, rfl⟩ ⟨by decide, by decide⟩ (Nat.le_of_ble_eq_true rfl) k_b0 (mSI_mono K0 (fun r_4 y_3 K0 => ?_))
      refine r_istore (pc := 90) dX2_serve_90 (by decide) ?_
      refine r_iload (pc := 92) (L := [some (.ref b0), some (.ref b1), some (.int l2), some (.int l3), some (.int l4), some (.int r_4)]) dX2_serve_92 rfl ?_
      refine r_if_lt (pc := 94) (tgt := 133) dX2_serve_94 (by decide) (fun q => ?_) (fun q => ?_)
      · have K0 := K0.1 q
        refine r_iinc (pc := 133) (v := l4 + 1) dX2_serve_133 rfl rfl (by decide) ?_
        refine r_goto (pc := 136) (L := [some (.ref b0), some (.ref b1), some (.int l2), some (.int l3), some (.int (l4 + 1)), some (.int r_4)]) (tgt := 61) dX2_serve_136 (by decide) ?_
        exact r_le (L' := [some (.ref b0), some (.ref b1), some (.int l2), some (.int l3), some (.int (l4 + 1)), none]) ⟨rfl, ⟨rfl, ⟨rfl, ⟨rfl, ⟨rfl, trivial⟩⟩⟩⟩⟩ K0
      · have K0 := K0.2 q
        refine r_iload (pc := 97) dX2_serve_97 rfl ?_
        refine r_aload_n (pc := 99) dX2_serve_99 rfl ?_
        obtain ⟨g_6, K0⟩ := K0
        refine s_getR (pc := 100) dX2_serve_100 fl_X2_12 rfl k_b0 g_6 ?_
        refine s_getI (pc := 103) dX2_serve_103 fl_X2_53 rfl k_b0_0 ?_
        refine r_icmp_ge (pc := 106) (tgt := 133) dX2_serve_106 (by decide) (fun q => ?_) (fun q => ?_)
        · have K0 := K0.1 q
          refine r_iinc (pc := 133) (v := l4 + 1) dX2_serve_133 rfl rfl (by decide) ?_
          refine r_goto (pc := 136) (L := [some (.ref b0), some (.ref b1), some (.int l2), some (.int l3), some (.int (l4 + 1)), some (.int r_4)]) (tgt := 61) dX2_serve_136 (by decide) ?_
          exact r_le (L' := [some (.ref b0), some (.ref b1), some (.int l2), some (.int l3), some (.int (l4 + 1)), none]) ⟨rfl, ⟨rfl, ⟨rfl, ⟨rfl, ⟨rfl, trivial⟩⟩⟩⟩⟩ K0
        · have K0 := K0.2 q
          refine r_iload_n (pc := 109) dX2_serve_109 rfl ?_
          refine r_iconst (pc := 110) (v := 1) dX2_serve_110 (by decide) ?_
          refine r_iload (pc := 111) dX2_serve_111 rfl ?_
          refine r_ishl (pc := 113) dX2_serve_113 ?_
          refine r_iconst (pc := 114) (v := (-1)) dX2_serve_114 (by decide) ?_
          refine r_ixor (pc := 115) dX2_serve_115 ?_
          refine r_iand (pc := 116) dX2_serve_116 ?_
          refine r_istore_n (pc := 117) dX2_serve_117 (by decide) ?_
          refine r_aload_n (pc := 118) (L := [some (.ref b0), some (.ref b1), some (.int l2), some (.int (l3 &&& ((1 <<< (r_4 &&& 31)) ^^^ (-1)))), some (.int l4), some (.int r_4)]) dX2_serve_118 rfl ?_
          obtain ⟨c_8, g_9, K0⟩ := K0
          refine s_getR (pc := 119) dX2_serve_119 fl_X2_22 rfl k_b0 g_9 ?_
          refine r_iload (pc := 122) dX2_serve_122 rfl ?_
          refine r_iload (pc := 124) dX2_serve_124 rfl ?_
          obtain ⟨n_11, e_10, K0⟩ := K0
          obtain ⟨i_12, K0⟩ := K0
          refine s_iast (pc := 126) dX2_serve_126 e_10 i_12 ?_
          refine r_aload_n (pc := 127) dX2_serve_127 rfl ?_
          refine r_iload (pc := 128) dX2_serve_128 rfl ?_
          refine s_VV (pc := 130) mX2_lookAt (ci := 2) (a := b0) (As := [.int r_4]) dX2_serve_130 lk_X2_56 in_X2_lookAt mo_X2_lookAt ⟨by decide, rfl⟩ ⟨by decide, by decide⟩ (Nat.le_of_ble_eq_true rfl) k_b0 (mSV_mono K0 (fun y_13 K0 => ?_))
          refine r_iinc (pc := 133) (v := l4 + 1) dX2_serve_133 rfl rfl (by decide) ?_
          refine r_goto (pc := 136) (L := [some (.ref b0), some (.ref b1), some (.int l2), some (.int (l3 &&& ((1 <<< (r_4 &&& 31)) ^^^ (-1)))), some (.int (l4 + 1)), some (.int r_4)]) (tgt := 61) dX2_serve_136 (by decide) ?_
          exact r_le (L' := [some (.ref b0), some (.ref b1), some (.int l2), some (.int (l3 &&& ((1 <<< (r_4 &&& 31)) ^^^ (-1)))), some (.int (l4 + 1)), none]) ⟨rfl, ⟨rfl, ⟨rfl, ⟨rfl, ⟨rfl, trivial⟩⟩⟩⟩⟩ K0
    · have K0 := K0.2 q
      refine r_iconst (pc := 82) (v := 1) dX2_serve_82 (by decide) ?_
      refine r_goto (pc := 83) (tgt := 87) dX2_serve_83 (by decide) ?_
      refine s_VI (pc := 87) mX2_chosen (ci := 2) (a := b0) (As := [.int l3, .int 1]) dX2_serve_87 lk_X2_43 in_X2_chosen mo_X2_chosen ⟨by decide, rfl⟩ ⟨by decide, by decide⟩ (Nat.le_of_ble_eq_true rfl) k_b0 (mSI_mono K0 (fun r_15 y_14 K0 => ?_))
      refine r_istore (pc := 90) dX2_serve_90 (by decide) ?_
      refine r_iload (pc := 92) (L := [some (.ref b0), some (.ref b1), some (.int l2), some (.int l3), some (.int l4), some (.int r_15)]) dX2_serve_92 rfl ?_
      refine r_if_lt (pc := 94) (tgt := 133) dX2_serve_94 (by decide) (fun q => ?_) (fun q => ?_)
      · have K0 := K0.1 q
        refine r_iinc (pc := 133) (v := l4 + 1) dX2_serve_133 rfl rfl (by decide) ?_
        refine r_goto (pc := 136) (L := [some (.ref b0), some (.ref b1), some (.int l2), some (.int l3), some (.int (l4 + 1)), some (.int r_15)]) (tgt := 61) dX2_serve_136 (by decide) ?_
        exact r_le (L' := [some (.ref b0), some (.ref b1), some (.int l2), some (.int l3), some (.int (l4 + 1)), none]) ⟨rfl, ⟨rfl, ⟨rfl, ⟨rfl, ⟨rfl, trivial⟩⟩⟩⟩⟩ K0
      · have K0 := K0.2 q
        refine r_iload (pc := 97) dX2_serve_97 rfl ?_
        refine r_aload_n (pc := 99) dX2_serve_99 rfl ?_
        obtain ⟨g_17, K0⟩ := K0
        refine s_getR (pc := 100) dX2_serve_100 fl_X2_12 rfl k_b0 g_17 ?_
        refine s_getI (pc := 103) dX2_serve_103 fl_X2_53 rfl k_b0_0 ?_
        refine r_icmp_ge (pc := 106) (tgt := 133) dX2_serve_106 (by decide) (fun q => ?_) (fun q => ?_)
        · have K0 := K0.1 q
          refine r_iinc (pc := 133) (v := l4 + 1) dX2_serve_133 rfl rfl (by decide) ?_
          refine r_goto (pc := 136) (L := [some (.ref b0), some (.ref b1), some (.int l2), some (.int l3), some (.int (l4 + 1)), some (.int r_15)]) (tgt := 61) dX2_serve_136 (by decide) ?_
          exact r_le (L' := [some (.ref b0), some (.ref b1), some (.int l2), some (.int l3), some (.int (l4 + 1)), none]) ⟨rfl, ⟨rfl, ⟨rfl, ⟨rfl, ⟨rfl, trivial⟩⟩⟩⟩⟩ K0
        · have K0 := K0.2 q
          refine r_iload_n (pc := 109) dX2_serve_109 rfl ?_
          refine r_iconst (pc := 110) (v := 1) dX2_serve_110 (by decide) ?_
          refine r_iload (pc := 111) dX2_serve_111 rfl ?_
          refine r_ishl (pc := 113) dX2_serve_113 ?_
          refine r_iconst (pc := 114) (v := (-1)) dX2_serve_114 (by decide) ?_
          refine r_ixor (pc := 115) dX2_serve_115 ?_
          refine r_iand (pc := 116) dX2_serve_116 ?_
          refine r_istore_n (pc := 117) dX2_serve_117 (by decide) ?_
          refine r_aload_n (pc := 118) (L := [some (.ref b0), some (.ref b1), some (.int l2), some (.int (l3 &&& ((1 <<< (r_15 &&& 31)) ^^^ (-1)))), some (.int l4), some (.int r_15)]) dX2_serve_118 rfl ?_
          obtain ⟨c_19, g_20, K0⟩ := K0
          refine s_getR (pc := 119) dX2_serve_119 fl_X2_22 rfl k_b0 g_20 ?_
          refine r_iload (pc := 122) dX2_serve_122 rfl ?_
          refine r_iload (pc := 124) dX2_serve_124 rfl ?_
          obtain ⟨n_22, e_21, K0⟩ := K0
          obtain ⟨i_23, K0⟩ := K0
          refine s_iast (pc := 126) dX2_serve_126 e_21 i_23 ?_
          refine r_aload_n (pc := 127) dX2_serve_127 rfl ?_
          refine r_iload (pc := 128) dX2_serve_128 rfl ?_
          refine s_VV (pc := 130) mX2_lookAt (ci := 2) (a := b0) (As := [.int r_15]) dX2_serve_130 lk_X2_56 in_X2_lookAt mo_X2_lookAt ⟨by decide, rfl⟩ ⟨by decide, by decide⟩ (Nat.le_of_ble_eq_true rfl) k_b0 (mSV_mono K0 (fun y_24 K0 => ?_))
          refine r_iinc (pc := 133) (v := l4 + 1) dX2_serve_133 rfl rfl (by decide) ?_
          refine r_goto (pc := 136) (L := [some (.ref b0), some (.ref b1), some (.int l2), some (.int (l3 &&& ((1 <<< (r_15 &&& 31)) ^^^ (-1)))), some (.int (l4 + 1)), some (.int r_15)]) (tgt := 61) dX2_serve_136 (by decide) ?_
          exact r_le (L' := [some (.ref b0), some (.ref b1), some (.int l2), some (.int (l3 &&& ((1 <<< (r_15 &&& 31)) ^^^ (-1)))), some (.int (l4 + 1)), none]) ⟨rfl, ⟨rfl, ⟨rfl, ⟨rfl, ⟨rfl, trivial⟩⟩⟩⟩⟩ K0
section
theorem sp_X2_serve_lp {x : Cn} {Q : Cn → Prop} {W C S A N : Nat} {T0 : TT} {b1 : Nat} {hp : Int32} (P : PLf x) (F : WFB T0 W C S A N) (k : ∀ y, PCr x y → CPR y (accT (plS A N) A (pl0 T0 S)) W C A N → Q y) {y : Cn} {left : Int32} (fy : PCr x y) (cy : CPR y (pl0 T0 S) W C A N) (hu : ∀ a, a < A → tb left a = !(usd (fun _ => -1) a)) : GV mX2_serve 61 [some (.ref 117), some (.ref b1), some (.int hp), some (.int left), some (.int 0), none] [] KW y Q := by
  refine lp_acc (plS A N) (fun k p => PIV W C A N T0 k p → ∀ y left, PCr x y → CPR y p W C A N → (∀ a, a < A → tb left a = !(usd p.2.2.1 a)) → GV mX2_serve 61 [some (.ref 117), some (.ref b1), some (.int hp), some (.int left), some (.int (nI k)), none] [] KW y Q) A (pl0 T0 S) ?_ (fun k p hk n1 => ?_) (PIV.st F) y left fy cy hu
  · intro iv y left fy cy hu
    exact v_X2_serve_61 k117 (P.keep fy.1).1 (ks0 cy.1.1) ⟨fun _ => k y fy cy, fun z => absurd (by rw [cy.1.nums.2.2.2.1]; exact Int32.le_refl _) z⟩
  · intro iv y left fy cy hu
    obtain ⟨a, ha, e1, e2, e3⟩ := iv.a hk
    obtain ⟨E, hl, hg, hth⟩ := cy
    have hA : A ≤ 24 := E.nums.2.2.2.2.2.2.2.1
    have P2 := P.keep fy.1
    have hu' : ∀ b, b < A → tb (left &&& ((1 <<< (nI a &&& 31)) ^^^ (-1))) b = !(usd (uT p.2.2.1 a (nI k)) b) := by
      intro b hb
      rw [tb_and, tb_not _ (by omega), tb_one a (by omega) b (by omega), hu b hb]
      by_cases c : b = a
      · subst c
        rw [usd_t.mpr (show ¬ uT p.2.2.1 b (nI k) b = -1 by rw [uT_at]; exact nI_ne1 (by omega)), decide_eq_true rfl]
        simp
      · rw [decide_eq_false c, show usd (uT p.2.2.1 a (nI k)) b = usd p.2.2.1 b by unfold usd; rw [uT_ne _ _ c]]
        simp
    have look : mSV mX2_lookAt [.ref 117, .int (nI a)] KW (ui y 173 a (nI k)) (fun y_13 => GV mX2_serve 61 [some (.ref 117), some (.ref b1), some (.int hp), some (.int (left &&& ((1 <<< (nI a &&& 31)) ^^^ (-1)))), some (.int (nI (k + 1))), none] [] KW y_13 Q) := by
      have E2 : SEB (ui y 173 a (nI k)) 118 p.1 W C p.2.1 A N := E.eqx (EQx.rf y 173).ui (Or.inr (Or.inr (by decide)))
      have P3 : PLf (ui y 173 a (nI k)) := P2.keep rfl
      have f3 : PCr x (ui y 173 a (nI k)) := fy.ui (by decide)
      refine sp_X2_lookAt P3 E2 (hl.mv (fun i => by rw [gi_ui, if_neg (by omega)])) (g := p.2.2.2.2) (by rw [gi_ui, if_neg (by omega)]; exact hg) ha (fun h0 v fv Ev lv gv tv hv => ?_) (fun h h1 h2 h3 h4 v fv Ev lv gv tv hv => ?_)
      · refine n1 _ (plS_f e1 h0) (iv.f ha hk e3) v _ (f3.tr fv) ⟨Ev, lv, gv, fun b hb => ?_⟩ hu'
        show gi v 173 b = uT p.2.2.1 a (nI k) b ∧ gi v 174 b = uT p.2.2.2.1 a (-1) b
        rw [tv, hv, gi_ui]
        by_cases c : b = a
        · subst c
          rw [if_pos ⟨rfl, rfl⟩, if_pos rfl, uT_at, uT_at]; exact ⟨rfl, rfl⟩
        · rw [if_neg (fun u => c u.2), if_neg c, uT_ne _ _ c, uT_ne _ _ c, gi_ui, if_neg (by omega)]
          exact hth b (by have hb : ¬ uT p.2.2.1 a (nI k) b = -1 := hb
                          rw [uT_ne _ _ c] at hb; exact hb)
      · refine n1 _ (plS_t e1 h2 (nI_ne1 (by omega))) (iv.t ha hk e3 h1 h3 h4) v _ (f3.tr fv) ⟨Ev, lv, gv, fun b hb => ?_⟩ hu'
        show gi v 173 b = uT p.2.2.1 a (nI k) b ∧ gi v 174 b = uT p.2.2.2.1 a (nI h) b
        rw [tv, hv, gi_ui]
        by_cases c : b = a
        · subst c
          rw [if_pos ⟨rfl, rfl⟩, if_pos rfl, uT_at, uT_at]; exact ⟨rfl, rfl⟩
        · rw [if_neg (fun u => c u.2), if_neg c, uT_ne _ _ c, uT_ne _ _ c, gi_ui, if_neg (by omega)]
          exact hth b (by have hb : ¬ uT p.2.2.1 a (nI k) b = -1 := hb
                          rw [uT_ne _ _ c] at hb; exact hb)
    have e4 : gi y 118 4 = nI A := E.nums.2.2.2.1
    refine v_X2_serve_61 k117 P2.1 (ks0 E.1) ⟨fun z => absurd (by rw [e4] at z; exact z) (nI_ge hk (by omega)), fun _ => ?_⟩
    rw [show nI k - nI k / 2 * 2 = nI (k % 2) from pk_rem (d := 2) (by omega) (by decide) (by decide), nI_z (by omega), nI_1]
    have go : ∀ r, r = nI a → (r < 0 → GV mX2_serve 61 [some (.ref 117), some (.ref b1), some (.int hp), some (.int left), some (.int (nI (k + 1))), none] [] KW y Q) ∧ (¬ r < 0 → gr y 117 0 = some 118 ∧ ((gi y 118 4 ≤ r → GV mX2_serve 61 [some (.ref 117), some (.ref b1), some (.int hp), some (.int left), some (.int (nI (k + 1))), none] [] KW y Q) ∧ (¬ gi y 118 4 ≤ r → ∃ c_8, gr y 117 2 = some c_8 ∧ ∃ n_11, kk KW c_8 = some (20, n_11) ∧ (vp_in r n_11 ∧ mSV mX2_lookAt [.ref 117, .int r] KW (ui y c_8 (r : Int32).toNatClampNeg (nI k)) (fun y_13 => GV mX2_serve 61 [some (.ref 117), some (.ref b1), some (.int hp), some (.int (left &&& ((1 <<< (r &&& 31)) ^^^ (-1)))), some (.int (nI (k + 1))), none] [] KW y_13 Q))))) := by
      rintro r rfl
      refine ⟨fun z => absurd z (nI_pos (by omega)), fun _ => ⟨P2.1, fun z => absurd (by rw [e4] at z; exact z) (nI_ge ha (by omega)), fun _ => ⟨173, P2.2.2.1, 24, k173, vp_in_nI (by omega) (by decide), ?_⟩⟩⟩
      rw [nI_clamp (by omega)]
      exact look
    refine ⟨fun z => sp_X2_chosen P2 E hl hu (go _ ?_), fun z => sp_X2_chosen P2 E hl hu (go _ ?_)⟩
    · rw [← e2]; unfold fl; rw [if_neg z]
    · rw [← e2]; unfold fl; rw [if_pos z]
theorem sp_X2_serve {x : Cn} {Q : Cn → Prop} {T T0 : TT} {W C S A N : Nat} {hp : Int32} (c : CRf x) (E : SEA x 2 T W C S A N) (hh : (hp = -1 ∧ T0 = T) ∨ ∃ h, h < 24 ∧ hp = nI h ∧ T0 = hlT T h) (k : ∀ y, PCr x y → CPR y (accT (plS A N) A (pl0 T0 S)) W C A N → Q y) : mSV mX2_serve [.ref 117, .ref 2, .int hp] KW x Q := by
  have P := c.pl
  have hA : A ≤ 24 := E.nums.2.2.2.2.2.2.2.1
  have I118 : Isea 118 := Or.inr (Or.inr (Or.inl rfl))
  have fin : ∀ v, PCr x v → SEB v 118 T0 W C S A N → mSV mX2_countSlots [.ref 117] KW v (fun y_3 => mSI mX2_allAsks [.ref 117] KW (ui y_3 117 4 0) (fun r_5 y_4 => GV mX2_serve 61 [some (.ref 117), some (.ref 2), some (.int hp), some (.int r_5), some (.int 0), none] [] KW y_4 Q)) := by
    intro v fv Ev
    refine sp_X2_countSlots (P.keep fv.1) Ev (fun w hw lw => ?_)
    have Ew := Ev.eqx hw (Or.inr (Or.inr (by decide)))
    have E2 : SEB (ui w 117 4 0) 118 T0 W C S A N := Ew.eqx (EQx.rf w 117).ui (Or.inr (Or.inl (by decide)))
    have f2 : PCr x (ui w 117 4 0) := (fv.tr (hw.pc (by decide))).ui (by decide)
    refine v_X2_allAsks_0 k117 (P.keep f2.1).1 (ks0 I118) (sp_X2_serve_lp P Ev.2.2.2 k f2 ⟨E2, lw.mv (fun i => by rw [gi_ui, if_neg (by omega)]), by rw [gi_ui, if_pos ⟨rfl, rfl⟩]; rfl, fun a ha => absurd rfl ha⟩ (fun a ha => ?_))
    rw [E2.nums.2.2.2.1, tb_alls A (by omega) a (by omega), decide_eq_true ha, usd_f.mpr rfl]
    rfl
  refine v_X2_serve_0 k117 P.1 (ks0 I118) (sp_X4_copyFrom I118 c.2.2.2.2.2.2.2.2.2.2.2.2.2.2.2.2.2.2.1 E (by decide) (fun y fy Ey => ?_))
  rcases hh with ⟨rfl, rfl⟩ | ⟨h, hh, rfl, rfl⟩
  · exact ⟨fun _ => fin y fy.pc Ey.b, fun z => absurd (by decide) z⟩
  · refine ⟨fun z => absurd z (nI_pos (by omega)), fun _ => ⟨fun z => absurd z (nI_ge (b := 24) hh (by decide)), fun _ => ⟨(P.keep fy.1).1, 119, Ey.2.1.1, 24, ks1 I118, vp_in_nI hh (by decide), 120, Ey.2.1.2.1, 24, ks2 I118, vp_in_nI hh (by decide), ?_⟩⟩⟩
    have v5 := Ey.2.2.1.2.2.2.2.2.1 h hh
    have g1 : gi y 119 h = T (6 + 2 * h) := v5.1
    have g2 : gi y 120 h = T (7 + 2 * h) := v5.2
    rw [nI_clamp (by omega), g1, show gi (ui y 119 h (T (6 + 2 * h) + 1)) 120 h = T (7 + 2 * h) by rw [gi_ui, if_neg (by omega)]; exact g2]
    exact fin _ ((fy.pc.ui (by decide)).ui (by decide)) (Ey.b.hl hh)

end
end
/-! 56.pool3.lean.txt -/
section
theorem km722 : kk KW 722 = some (20, 24) := by decide
theorem km723 : kk KW 723 = some (20, 24) := by decide
theorem km721 : kk KW 721 = some (20, 7) := by decide
theorem gi_at (x : Cn) (t k : Nat) (v : Int32) : gi (ui x t k v) t = uT (gi x t) k v := by
  funext i
  rw [gi_ui]
  unfold uT
  by_cases c : i = k
  · rw [if_pos ⟨rfl, c⟩, if_pos c]
  · rw [if_neg (fun u => c u.2), if_neg c]
set_option maxHeartbeats 2000000 in
theorem v_X8_chosen_0 {K : Sh} {x : Cn} {Q : Int32 → Cn → Prop} {b0 : Nat} {l1 : Int32}   (K0 : GI mX8_chosen 4 [some (.ref b0), some (.int l1), some (.int (-1)), some (.int 0), none] [] K x Q) : mSI mX8_chosen [.ref b0, .int l1] K x Q := by
  refine s_I (by decide) (by simp [Value.category]) (Nat.le_of_ble_eq_true rfl) ?_
  show mGM mX8_chosen 0 [some (.ref b0), some (.int l1), none, none, none] [] (hp K x) (PI K Q)
  refine r_iconst (pc := 0) (v := (-1)) dX8_chosen_0 (by decide) ?_
  refine r_istore_n (pc := 1) dX8_chosen_1 (by decide) ?_
  refine r_iconst (pc := 2) (L := [some (.ref b0), some (.int l1), some (.int (-1)), none, none]) (v := 0) dX8_chosen_2 (by decide) ?_
  refine r_istore_n (pc := 3) dX8_chosen_3 (by decide) ?_
  exact r_le (L' := [some (.ref b0), some (.int l1), some (.int (-1)), some (.int 0), none]) ⟨rfl, ⟨rfl, ⟨rfl, ⟨rfl, trivial⟩⟩⟩⟩ K0
set_option maxHeartbeats 2000000 in
theorem v_X8_chosen_4 {K : Sh} {x : Cn} {Q : Int32 → Cn → Prop} {b0 : Nat} {l1 : Int32} {l2 : Int32} {l3 : Int32} {b0_3 : Nat} {n_b0_3 : Nat} {b0_16 : Nat} {n_b0_16 : Nat} (k_b0 : kk K b0 = some (8, 0)) (g_b0_3 : gr x b0 3 = some b0_3) (k_b0_3 : kk K b0_3 = some (20, n_b0_3)) (g_b0_16 : gr x b0 16 = some b0_16) (k_b0_16 : kk K b0_16 = some (20, n_b0_16)) (K0 : vp_in 3 n_b0_3 ∧ (((gi x b0_3 3) ≤ l3 → (Q l2 x)) ∧ (¬ (gi x b0_3 3) ≤ l3 → (vp_in l3 n_b0_16 ∧ ((¬ (gi x b0_16 (l3 : Int32).toNatClampNeg) = (-1) → (GI mX8_chosen 4 [some (.ref b0), some (.int l1), some (.int l2), some (.int (l3 + 1)), none] [] K x Q)) ∧ ((gi x b0_16 (l3 : Int32).toNatClampNeg) = (-1) → ((l24 l3 n_b0_3) ∧ (mSI mX8_isEntrant [.ref b0, .int (ao (gi x b0_3) (l3 : Int32).toNatClampNeg 0), .int (ao (gi x b0_3) (l3 : Int32).toNatClampNeg 1)] K x (fun r_7 y_6 => (r_7 = l1 → ((l2 = (-1) → (GI mX8_chosen 4 [some (.ref b0), some (.int l1), some (.int l3), some (.int (l3 + 1)), none] [] K y_6 Q)) ∧ (¬ l2 = (-1) → (gr y_6 b0 3 = some b0_3 ∧ ((l24 l2 n_b0_3) ∧ ((((ao (gi y_6 b0_3) (l3 : Int32).toNatClampNeg 5) - (ao (gi y_6 b0_3) (l3 : Int32).toNatClampNeg 4)) ≤ ((ao (gi y_6 b0_3) (l2 : Int32).toNatClampNeg 5) - (ao (gi y_6 b0_3) (l2 : Int32).toNatClampNeg 4)) → (GI mX8_chosen 4 [some (.ref b0), some (.int l1), some (.int l2), some (.int (l3 + 1)), none] [] K y_6 Q)) ∧ (¬ ((ao (gi y_6 b0_3) (l3 : Int32).toNatClampNeg 5) - (ao (gi y_6 b0_3) (l3 : Int32).toNatClampNeg 4)) ≤ ((ao (gi y_6 b0_3) (l2 : Int32).toNatClampNeg 5) - (ao (gi y_6 b0_3) (l2 : Int32).toNatClampNeg 4)) → (GI mX8_chosen 4 [some (.ref b0), some (.int l1), some (.int l3), some (.int (l3 + 1)), none] [] K y_6 Q)))))))) ∧ (¬ r_7 = l1 → (GI mX8_chosen 4 [some (.ref b0), some (.int l1), some (.int l2), some (.int (l3 + 1)), none] [] K y_6 Q))))))))))) : GI mX8_chosen 4 [some (.ref b0), some (.int l1), some (.int l2), some (.int l3), none] [] K x Q := by
  show mGM mX8_chosen 4 [some (.ref b0), some (.int l1), some (.int l2), some (.int l3), none] [] (hp K x) (PI K Q)
  refine r_iload_n (pc := 4) dX8_chosen_4 rfl ?_
  refine r_aload_n (pc := 5) dX8_chosen_5 rfl ?_
  refine s_getR (pc := 6) dX8_chosen_6 fl_X8_16 rfl k_b0 g_b0_3 ?_
  refine r_iconst (pc := 9) (v := 3) dX8_chosen_9 (by decide) ?_
  obtain ⟨i_1, K0⟩ := K0
  refine s_iald (pc := 10) dX8_chosen_10 k_b0_3 i_1 ?_
  refine r_icmp_ge (pc := 11) (tgt := 105) dX8_chosen_11 (by decide) (fun q => ?_) (fun q => ?_)
  · have K0 := K0.1 q
    refine r_iload_n (pc := 105) dX8_chosen_105 rfl ?_
    exact s_iret rfl dX8_chosen_106 K0
  · have K0 := K0.2 q
    refine r_aload_n (pc := 14) dX8_chosen_14 rfl ?_
    refine s_getR (pc := 15) dX8_chosen_15 fl_X8_30 rfl k_b0 g_b0_16 ?_
    refine r_iload_n (pc := 18) dX8_chosen_18 rfl ?_
    obtain ⟨i_3, K0⟩ := K0
    refine s_iald (pc := 19) dX8_chosen_19 k_b0_16 i_3 ?_
    refine r_iconst (pc := 20) (v := (-1)) dX8_chosen_20 (by decide) ?_
    refine r_icmp_ne (pc := 21) (tgt := 99) dX8_chosen_21 (by decide) (fun q => ?_) (fun q => ?_)
    · have K0 := K0.1 q
      refine r_iinc (pc := 99) (v := l3 + 1) dX8_chosen_99 rfl rfl (by decide) ?_
      refine r_goto (pc := 102) (L := [some (.ref b0), some (.int l1), some (.int l2), some (.int (l3 + 1)), none]) (tgt := 4) dX8_chosen_102 (by decide) ?_
      exact r_le (L' := [some (.ref b0), some (.int l1), some (.int l2), some (.int (l3 + 1)), none]) ⟨rfl, ⟨rfl, ⟨rfl, ⟨rfl, trivial⟩⟩⟩⟩ K0
    · have K0 := K0.2 q
      refine r_aload_n (pc := 24) dX8_chosen_24 rfl ?_
      refine r_aload_n (pc := 25) dX8_chosen_25 rfl ?_
      refine r_iload_n (pc := 26) dX8_chosen_26 rfl ?_
      refine r_iconst (pc := 27) (v := 0) dX8_chosen_27 (by decide) ?_
      obtain ⟨p_5, K0⟩ := K0
      refine s_VI (pc := 28) mX8_ask0 (ci := 8) (a := b0) (As := [.int l3, .int 0]) dX8_chosen_28 lk_X8_284 in_X8_ask0 mo_X8_ask0 ⟨by decide, rfl⟩ ⟨by decide, by decide⟩ (Nat.le_of_ble_eq_true rfl) k_b0 (sr_X8_ask0 k_b0 g_b0_3 k_b0_3 p_5 ⟨by decide, by decide⟩ ?_)
      refine r_aload_n (pc := 31) dX8_chosen_31 rfl ?_
      refine r_iload_n (pc := 32) dX8_chosen_32 rfl ?_
      refine r_iconst (pc := 33) (v := 1) dX8_chosen_33 (by decide) ?_
      refine s_VI (pc := 34) mX8_ask0 (ci := 8) (a := b0) (As := [.int l3, .int 1]) dX8_chosen_34 lk_X8_284 in_X8_ask0 mo_X8_ask0 ⟨by decide, rfl⟩ ⟨by decide, by decide⟩ (Nat.le_of_ble_eq_true rfl) k_b0 (sr_X8_ask0 k_b0 g_b0_3 k_b0_3 p_5 ⟨by decide, by decide⟩ ?_)
      refine s_VI (pc := 37) mX8_isEntrant (ci := 8) (a := b0) (As := [.int (ao (gi x b0_3) (l3 : Int32).toNatClampNeg 0), .int (ao (gi x b0_3) (l3 : Int32).toNatClampNeg 1)]) dX8_chosen_37 lk_X8_313 in_X8_isEntrant mo_X8_isEntrant ⟨by decide, rfl⟩ ⟨by decide, by decide⟩ (Nat.le_of_ble_eq_true rfl) k_b0 (mSI_mono K0 (fun r_7 y_6 K0 => ?_))
      refine r_iload_n (pc := 40) dX8_chosen_40 rfl ?_
      refine r_icmp_eq (pc := 41) (tgt := 47) dX8_chosen_41 (by decide) (fun q => ?_) (fun q => ?_)
      · have K0 := K0.1 q
        refine r_iload_n (pc := 47) dX8_chosen_47 rfl ?_
        refine r_iconst (pc := 48) (v := (-1)) dX8_chosen_48 (by decide) ?_
        refine r_icmp_eq (pc := 49) (tgt := 81) dX8_chosen_49 (by decide) (fun q => ?_) (fun q => ?_)
        · have K0 := K0.1 q
          refine r_iconst (pc := 81) (v := 1) dX8_chosen_81 (by decide) ?_
          refine r_goto (pc := 82) (tgt := 86) dX8_chosen_82 (by decide) ?_
          refine r_istore (pc := 86) dX8_chosen_86 (by decide) ?_
          refine r_iload (pc := 88) (L := [some (.ref b0), some (.int l1), some (.int l2), some (.int l3), some (.int 1)]) dX8_chosen_88 rfl ?_
          refine r_if_eq (pc := 90) (tgt := 97) dX8_chosen_90 (by decide) (fun q => by first | exact absurd q (by decide) | exact absurd (by decide) q) (fun _ => ?_)
          refine r_iload_n (pc := 93) dX8_chosen_93 rfl ?_
          refine r_goto (pc := 94) (tgt := 98) dX8_chosen_94 (by decide) ?_
          refine r_istore_n (pc := 98) dX8_chosen_98 (by decide) ?_
          refine r_iinc (pc := 99) (L := [some (.ref b0), some (.int l1), some (.int l3), some (.int l3), some (.int 1)]) (v := l3 + 1) dX8_chosen_99 rfl rfl (by decide) ?_
          refine r_goto (pc := 102) (L := [some (.ref b0), some (.int l1), some (.int l3), some (.int (l3 + 1)), some (.int 1)]) (tgt := 4) dX8_chosen_102 (by decide) ?_
          exact r_le (L' := [some (.ref b0), some (.int l1), some (.int l3), some (.int (l3 + 1)), none]) ⟨rfl, ⟨rfl, ⟨rfl, ⟨rfl, trivial⟩⟩⟩⟩ K0
        · have K0 := K0.2 q
          refine r_aload_n (pc := 52) dX8_chosen_52 rfl ?_
          refine r_iload_n (pc := 53) dX8_chosen_53 rfl ?_
          refine r_iconst (pc := 54) (v := 5) dX8_chosen_54 (by decide) ?_
          obtain ⟨g_10, K0⟩ := K0
          refine s_VI (pc := 55) mX8_ask0 (ci := 8) (a := b0) (As := [.int l3, .int 5]) dX8_chosen_55 lk_X8_284 in_X8_ask0 mo_X8_ask0 ⟨by decide, rfl⟩ ⟨by decide, by decide⟩ (Nat.le_of_ble_eq_true rfl) k_b0 (sr_X8_ask0 k_b0 g_10 k_b0_3 p_5 ⟨by decide, by decide⟩ ?_)
          refine r_aload_n (pc := 58) dX8_chosen_58 rfl ?_
          refine r_iload_n (pc := 59) dX8_chosen_59 rfl ?_
          refine r_iconst (pc := 60) (v := 4) dX8_chosen_60 (by decide) ?_
          refine s_VI (pc := 61) mX8_ask0 (ci := 8) (a := b0) (As := [.int l3, .int 4]) dX8_chosen_61 lk_X8_284 in_X8_ask0 mo_X8_ask0 ⟨by decide, rfl⟩ ⟨by decide, by decide⟩ (Nat.le_of_ble_eq_true rfl) k_b0 (sr_X8_ask0 k_b0 g_10 k_b0_3 p_5 ⟨by decide, by decide⟩ ?_)
          refine r_isub (pc := 64) dX8_chosen_64 ?_
          refine r_aload_n (pc := 65) dX8_chosen_65 rfl ?_
          refine r_iload_n (pc := 66) dX8_chosen_66 rfl ?_
          refine r_iconst (pc := 67) (v := 5) dX8_chosen_67 (by decide) ?_
          obtain ⟨p_11, K0⟩ := K0
          refine s_VI (pc := 68) mX8_ask0 (ci := 8) (a := b0) (As := [.int l2, .int 5]) dX8_chosen_68 lk_X8_284 in_X8_ask0 mo_X8_ask0 ⟨by decide, rfl⟩ ⟨by decide, by decide⟩ (Nat.le_of_ble_eq_true rfl) k_b0 (sr_X8_ask0 k_b0 g_10 k_b0_3 p_11 ⟨by decide, by decide⟩ ?_)
          refine r_aload_n (pc := 71) dX8_chosen_71 rfl ?_
          refine r_iload_n (pc := 72) dX8_chosen_72 rfl ?_
          refine r_iconst (pc := 73) (v := 4) dX8_chosen_73 (by decide) ?_
          refine s_VI (pc := 74) mX8_ask0 (ci := 8) (a := b0) (As := [.int l2, .int 4]) dX8_chosen_74 lk_X8_284 in_X8_ask0 mo_X8_ask0 ⟨by decide, rfl⟩ ⟨by decide, by decide⟩ (Nat.le_of_ble_eq_true rfl) k_b0 (sr_X8_ask0 k_b0 g_10 k_b0_3 p_11 ⟨by decide, by decide⟩ ?_)
          refine r_isub (pc := 77) dX8_chosen_77 ?_
          refine r_icmp_le (pc := 78) (tgt := 85) dX8_chosen_78 (by decide) (fun q => ?_) (fun q => ?_)
          · have K0 := K0.1 q
            refine r_iconst (pc := 85) (v := 0) dX8_chosen_85 (by decide) ?_
            refine r_istore (pc := 86) dX8_chosen_86 (by decide) ?_
            refine r_iload (pc := 88) (L := [some (.ref b0), some (.int l1), some (.int l2), some (.int l3), some (.int 0)]) dX8_chosen_88 rfl ?_
            refine r_if_eq (pc := 90) (tgt := 97) dX8_chosen_90 (by decide) (fun _ => ?_) (fun q => by first | exact absurd q (by decide) | exact absurd (by decide) q)
            refine r_iload_n (pc := 97) dX8_chosen_97 rfl ?_
            refine r_istore_n (pc := 98) dX8_chosen_98 (by decide) ?_
            refine r_iinc (pc := 99) (L := [some (.ref b0), some (.int l1), some (.int l2), some (.int l3), some (.int 0)]) (v := l3 + 1) dX8_chosen_99 rfl rfl (by decide) ?_
            refine r_goto (pc := 102) (L := [some (.ref b0), some (.int l1), some (.int l2), some (.int (l3 + 1)), some (.int 0)]) (tgt := 4) dX8_chosen_102 (by decide) ?_
            exact r_le (L' := [some (.ref b0), some (.int l1), some (.int l2), some (.int (l3 + 1)), none]) ⟨rfl, ⟨rfl, ⟨rfl, ⟨rfl, trivial⟩⟩⟩⟩ K0
          · have K0 := K0.2 q
            refine r_iconst (pc := 81) (v := 1) dX8_chosen_81 (by decide) ?_
            refine r_goto (pc := 82) (tgt := 86) dX8_chosen_82 (by decide) ?_
            refine r_istore (pc := 86) dX8_chosen_86 (by decide) ?_
            refine r_iload (pc := 88) (L := [some (.ref b0), some (.int l1), some (.int l2), some (.int l3), some (.int 1)]) dX8_chosen_88 rfl ?_
            refine r_if_eq (pc := 90) (tgt := 97) dX8_chosen_90 (by decide) (fun q => by first | exact absurd q (by decide) | exact absurd (by decide) q) (fun _ => ?_)
            refine r_iload_n (pc := 93) dX8_chosen_93 rfl ?_
            refine r_goto (pc := 94) (tgt := 98) dX8_chosen_94 (by decide) ?_
            refine r_istore_n (pc := 98) dX8_chosen_98 (by decide) ?_
            refine r_iinc (pc := 99) (L := [some (.ref b0), some (.int l1), some (.int l3), some (.int l3), some (.int 1)]) (v := l3 + 1) dX8_chosen_99 rfl rfl (by decide) ?_
            refine r_goto (pc := 102) (L := [some (.ref b0), some (.int l1), some (.int l3), some (.int (l3 + 1)), some (.int 1)]) (tgt := 4) dX8_chosen_102 (by decide) ?_
            exact r_le (L' := [some (.ref b0), some (.int l1), some (.int l3), some (.int (l3 + 1)), none]) ⟨rfl, ⟨rfl, ⟨rfl, ⟨rfl, trivial⟩⟩⟩⟩ K0
      · have K0 := K0.2 q
        refine r_goto (pc := 44) (tgt := 99) dX8_chosen_44 (by decide) ?_
        refine r_iinc (pc := 99) (v := l3 + 1) dX8_chosen_99 rfl rfl (by decide) ?_
        refine r_goto (pc := 102) (L := [some (.ref b0), some (.int l1), some (.int l2), some (.int (l3 + 1)), none]) (tgt := 4) dX8_chosen_102 (by decide) ?_
        exact r_le (L' := [some (.ref b0), some (.int l1), some (.int l2), some (.int (l3 + 1)), none]) ⟨rfl, ⟨rfl, ⟨rfl, ⟨rfl, trivial⟩⟩⟩⟩ K0
section
theorem sp_X8_chosen {x : Cn} {Q : Int32 → Cn → Prop} {t : Nat} {W C S A N : Nat} {e : Int32} {tn : TT} (M : MRf x t) (ht : kk KW t = some (20, 518)) (F : WFB (gi x t) W C S A N) (hu : ∀ a, a < 24 → gi x 722 a = tn a) (k : Q (chR (gi x t) S A (usd tn) e) x) : mSI mX8_chosen [.ref 717, .int e] KW x Q := by
  have hA : A ≤ 24 := F.2.2.2.2.2.2.2.2.1
  have hS : S ≤ 24 := F.2.2.2.2.2.2.1
  have hW : W ≤ 30 := F.2.2.1
  have t3 : gi x t 3 = nI A := F.2.2.2.2.2.2.2.1
  refine v_X8_chosen_0 (lp_acc (chS (gi x t) S (usd tn) e) (fun a b => (b = -1 ∨ ∃ j, j < A ∧ b = nI j) → GI mX8_chosen 4 [some (.ref 717), some (.int e), some (.int b), some (.int (nI a)), none] [] KW x Q) A (-1) ?_ (fun a b ha n1 => ?_) (Or.inl rfl))
  · intro _
    exact v_X8_chosen_4 km M.2.2.1 ht M.2.2.2.2.2.1 km722 ⟨v0 (k := 3) (by decide) rfl rfl, fun _ => k, fun z => absurd (by rw [t3]; exact Int32.le_refl _) z⟩
  · intro hb
    obtain ⟨-, ⟨d, hd, ed⟩, -⟩ := F.2.2.2.2.2.2.2.2.2.2.2.2.2 a ha
    refine v_X8_chosen_4 km M.2.2.1 ht M.2.2.2.2.2.1 km722 ⟨v0 (k := 3) (by decide) rfl rfl, fun z => absurd (by rw [t3] at z; exact z) (nI_ge ha (by omega)), fun _ => ⟨vp_in_nI (by omega) (by decide), ?_⟩⟩
    rw [nI_clamp (by omega), hu a (by omega), nI_1]
    refine ⟨fun z => n1 b ?_ hb, fun z1 => ⟨l24_nI (by omega) rfl, ?_⟩⟩
    · unfold chS; rw [if_neg (fun g => z (usd_f.mp g.1))]
    · refine sp_X8_isEntrant M ht F.2.2.2.2.2.1 hS (by rw [ed]; exact nI_ne1 (by omega)) ?_
      have ee : b2i (accT (inc (fun s => so (gi x t) s 0 = ao (gi x t) a 0 ∧ (ao (gi x t) a 1 = -1 ∨ so (gi x t) s 1 = ao (gi x t) a 1))) S 0 < 2) = b2i (ent (gi x t) S a) := rfl
      rw [ee]
      refine ⟨fun z2 => ⟨fun z3 => n1 (nI a) ?_ (Or.inr ⟨a, ha, rfl⟩), fun z3 => ?_⟩, fun z2 => n1 b ?_ hb⟩
      · unfold chS; rw [if_pos ⟨usd_f.mpr z1, z2, Or.inl z3⟩]
      · rcases hb with g | ⟨j, hj, rfl⟩
        · exact absurd g z3
        · refine ⟨M.2.2.1, l24_nI (by omega) rfl, fun z4 => n1 (nI j) ?_ (Or.inr ⟨j, hj, rfl⟩), fun z4 => n1 (nI a) ?_ (Or.inr ⟨a, ha, rfl⟩)⟩
          · unfold chS; rw [if_neg (fun g => g.2.2.elim z3 (fun g2 => Int32.not_le.mpr g2 z4))]
          · unfold chS; rw [if_pos ⟨usd_f.mpr z1, z2, Or.inr (Int32.not_le.mp z4)⟩]
      · unfold chS; rw [if_neg (fun g => z2 g.2.1)]
end
set_option maxHeartbeats 2000000 in
theorem v_X8_begins_0 {K : Sh} {x : Cn} {Q : Cn → Prop} {b0 : Nat}  (k_b0 : kk K b0 = some (8, 0)) (K0 : GV mX8_begins 7 [some (.ref b0), some (.int 0)] [] K (ui x b0 18 0) Q) : mSV mX8_begins [.ref b0] K x Q := by
  refine s_V (by decide) (by simp [Value.category]) (Nat.le_of_ble_eq_true rfl) ?_
  show mGM mX8_begins 0 [some (.ref b0), none] [] (hp K x) (PV K Q)
  refine r_aload_n (pc := 0) dX8_begins_0 rfl ?_
  refine r_iconst (pc := 1) (v := 0) dX8_begins_1 (by decide) ?_
  refine s_putI (pc := 2) dX8_begins_2 fl_X8_335 rfl rfl k_b0 ?_
  refine r_iconst (pc := 5) (v := 0) dX8_begins_5 (by decide) ?_
  refine r_istore_n (pc := 6) dX8_begins_6 (by decide) ?_
  exact r_le (L' := [some (.ref b0), some (.int 0)]) ⟨rfl, ⟨rfl, trivial⟩⟩ K0
set_option maxHeartbeats 2000000 in
theorem v_X8_begins_7 {K : Sh} {x : Cn} {Q : Cn → Prop} {b0 : Nat} {l1 : Int32} {b0_16 : Nat} {n_b0_16 : Nat} {b0_17 : Nat} {n_b0_17 : Nat} (k_b0 : kk K b0 = some (8, 0)) (g_b0_16 : gr x b0 16 = some b0_16) (k_b0_16 : kk K b0_16 = some (20, n_b0_16)) (g_b0_17 : gr x b0 17 = some b0_17) (k_b0_17 : kk K b0_17 = some (20, n_b0_17)) (K0 : (24 ≤ l1 → (Q x)) ∧ (¬ 24 ≤ l1 → (vp_in l1 n_b0_16 ∧ (vp_in l1 n_b0_17 ∧ (GV mX8_begins 7 [some (.ref b0), some (.int (l1 + 1))] [] K (ui (ui x b0_16 (l1 : Int32).toNatClampNeg (-1)) b0_17 (l1 : Int32).toNatClampNeg (-1)) Q))))) : GV mX8_begins 7 [some (.ref b0), some (.int l1)] [] K x Q := by
  show mGM mX8_begins 7 [some (.ref b0), some (.int l1)] [] (hp K x) (PV K Q)
  refine r_iload_n (pc := 7) dX8_begins_7 rfl ?_
  refine r_bipush (pc := 8) (v := 24) dX8_begins_8 (by decide) ?_
  refine r_icmp_ge (pc := 10) (tgt := 33) dX8_begins_10 (by decide) (fun q => ?_) (fun q => ?_)
  · have K0 := K0.1 q
    exact s_ret rfl dX8_begins_33 K0
  · have K0 := K0.2 q
    refine r_aload_n (pc := 13) dX8_begins_13 rfl ?_
    refine s_getR (pc := 14) dX8_begins_14 fl_X8_30 rfl k_b0 g_b0_16 ?_
    refine r_iload_n (pc := 17) dX8_begins_17 rfl ?_
    refine r_iconst (pc := 18) (v := (-1)) dX8_begins_18 (by decide) ?_
    obtain ⟨i_2, K0⟩ := K0
    refine s_iast (pc := 19) dX8_begins_19 k_b0_16 i_2 ?_
    refine r_aload_n (pc := 20) dX8_begins_20 rfl ?_
    refine s_getR (pc := 21) dX8_begins_21 fl_X8_33 rfl k_b0 g_b0_17 ?_
    refine r_iload_n (pc := 24) dX8_begins_24 rfl ?_
    refine r_iconst (pc := 25) (v := (-1)) dX8_begins_25 (by decide) ?_
    obtain ⟨i_3, K0⟩ := K0
    refine s_iast (pc := 26) dX8_begins_26 k_b0_17 i_3 ?_
    refine r_iinc (pc := 27) (v := l1 + 1) dX8_begins_27 rfl rfl (by decide) ?_
    refine r_goto (pc := 30) (L := [some (.ref b0), some (.int (l1 + 1))]) (tgt := 7) dX8_begins_30 (by decide) ?_
    exact r_le (L' := [some (.ref b0), some (.int (l1 + 1))]) ⟨rfl, ⟨rfl, trivial⟩⟩ K0
section
theorem sp_X8_begins {x : Cn} {Q : Cn → Prop} {t : Nat} (M : MRf x t) (k : ∀ y : Cn, y.2 = x.2 → (∀ a j, a ≠ 722 → a ≠ 723 → ¬ (a = 717 ∧ j = 18) → gi y a j = gi x a j) → gi y 717 18 = nI 0 → (∀ a, a < 24 → gi y 722 a = -1 ∧ gi y 723 a = -1) → Q y) : mSV mX8_begins [.ref 717] KW x Q := by
  have key : ∀ c m y, m + c = 24 → y.2 = x.2 → (∀ a j, a ≠ 722 → a ≠ 723 → ¬ (a = 717 ∧ j = 18) → gi y a j = gi x a j) → gi y 717 18 = nI 0 → (∀ a, a < m → gi y 722 a = -1 ∧ gi y 723 a = -1) → GV mX8_begins 7 [some (.ref 717), some (.int (nI m))] [] KW y Q := by
    intro c
    induction c with
    | zero =>
      intro m y hm y1 y2 y3 y4
      have : m = 24 := by omega
      subst this
      have M2 := M.keep y1
      exact v_X8_begins_7 km M2.2.2.2.2.2.1 km722 M2.2.2.2.2.2.2.1 km723 ⟨fun _ => k y y1 y2 y3 y4, fun z => absurd (Int32.le_refl _) z⟩
    | succ c ih =>
      intro m y hm y1 y2 y3 y4
      have M2 := M.keep y1
      refine v_X8_begins_7 km M2.2.2.2.2.2.1 km722 M2.2.2.2.2.2.2.1 km723 ⟨fun z => absurd z (nI_ge (b := 24) (by omega) (by decide)), fun _ => ⟨vp_in_nI (by omega) (by decide), vp_in_nI (by omega) (by decide), ?_⟩⟩
      rw [nI_1, nI_clamp (by omega)]
      refine ih (m + 1) _ (by omega) y1 (fun a j a1 a2 a3 => by rw [gi_ui, if_neg (fun u => a2 u.1), gi_ui, if_neg (fun u => a1 u.1)]; exact y2 a j a1 a2 a3) (by rw [gi_ui, if_neg (by omega), gi_ui, if_neg (by omega)]; exact y3) (fun a ha => ?_)
      rw [gi_ui, if_neg (by omega), gi_ui, gi_ui]
      by_cases c1 : a = m
      · rw [if_pos ⟨rfl, c1⟩, if_pos ⟨rfl, c1⟩]; exact ⟨rfl, rfl⟩
      · rw [if_neg (fun u => c1 u.2), if_neg (fun u => c1 u.2), gi_ui, if_neg (by omega)]; exact y4 a (by omega)
  exact v_X8_begins_0 km (key 24 0 _ (by omega) rfl (fun a j a1 a2 a3 => by rw [gi_ui, if_neg a3]) (by rw [gi_ui, if_pos ⟨rfl, rfl⟩]; rfl) (fun a ha => by omega))
/-- what addsSeries lays -/
def adf (x : Cn) (hr wk fi nw : Int32) (k : Nat) : Int32 := if k = 0 then gi x 721 0 else if k = 1 then gi x 721 1 else if k = 2 then hr else if k = 3 then gi x 721 3 else if k = 4 then (if nw = 0 then 0 else 1) else if k = 5 then fi else if k = 6 then gi x 721 5 else if k = 7 then wk else 0
end
set_option maxHeartbeats 2000000 in
theorem v_X8_addsSeries_0 {K : Sh} {x : Cn} {Q : Cn → Prop} {b0 : Nat} {l1 : Int32} {l2 : Int32} {l3 : Int32} {l4 : Int32} {b0_3 : Nat} {n_b0_3 : Nat} (k_b0 : kk K b0 = some (8, 0)) (g_b0_3 : gr x b0 3 = some b0_3) (k_b0_3 : kk K b0_3 = some (20, n_b0_3)) (K0 : vp_in 2 n_b0_3 ∧ (GV mX8_addsSeries 11 [some (.ref b0), some (.int l1), some (.int l2), some (.int l3), some (.int l4), some (.int (gi x b0_3 2)), some (.int 0)] [] K x Q)) : mSV mX8_addsSeries [.ref b0, .int l1, .int l2, .int l3, .int l4] K x Q := by
  refine s_V (by decide) (by simp [Value.category]) (Nat.le_of_ble_eq_true rfl) ?_
  show mGM mX8_addsSeries 0 [some (.ref b0), some (.int l1), some (.int l2), some (.int l3), some (.int l4), none, none] [] (hp K x) (PV K Q)
  refine r_aload_n (pc := 0) dX8_addsSeries_0 rfl ?_
  refine s_getR (pc := 1) dX8_addsSeries_1 fl_X8_16 rfl k_b0 g_b0_3 ?_
  refine r_iconst (pc := 4) (v := 2) dX8_addsSeries_4 (by decide) ?_
  obtain ⟨i_1, K0⟩ := K0
  refine s_iald (pc := 5) dX8_addsSeries_5 k_b0_3 i_1 ?_
  refine r_istore (pc := 6) dX8_addsSeries_6 (by decide) ?_
  refine r_iconst (pc := 8) (L := [some (.ref b0), some (.int l1), some (.int l2), some (.int l3), some (.int l4), some (.int (gi x b0_3 2)), none]) (v := 0) dX8_addsSeries_8 (by decide) ?_
  refine r_istore (pc := 9) dX8_addsSeries_9 (by decide) ?_
  exact r_le (L' := [some (.ref b0), some (.int l1), some (.int l2), some (.int l3), some (.int l4), some (.int (gi x b0_3 2)), some (.int 0)]) ⟨rfl, ⟨rfl, ⟨rfl, ⟨rfl, ⟨rfl, ⟨rfl, ⟨rfl, trivial⟩⟩⟩⟩⟩⟩⟩ K0
set_option maxHeartbeats 2000000 in
theorem v_X8_addsSeries_11 {K : Sh} {x : Cn} {Q : Cn → Prop} {b0 : Nat} {l1 : Int32} {l2 : Int32} {l3 : Int32} {l4 : Int32} {l5 : Int32} {l6 : Int32} {b0_15 : Nat} {n_b0_15 : Nat} (k_b0 : kk K b0 = some (8, 0)) (g_b0_15 : gr x b0 15 = some b0_15) (k_b0_15 : kk K b0_15 = some (20, n_b0_15)) (K0 : (12 ≤ l6 → (vp_in 0 n_b0_15 ∧ (mSV mX8_lays [.ref b0, .int l5, .int 0, .int (gi x b0_15 0)] K x (fun y_3 => gr y_3 b0 15 = some b0_15 ∧ (vp_in 1 n_b0_15 ∧ (mSV mX8_lays [.ref b0, .int l5, .int 1, .int (gi y_3 b0_15 1)] K y_3 (fun y_6 => mSV mX8_lays [.ref b0, .int l5, .int 2, .int l1] K y_6 (fun y_7 => gr y_7 b0 15 = some b0_15 ∧ (vp_in 3 n_b0_15 ∧ (mSV mX8_lays [.ref b0, .int l5, .int 3, .int (gi y_7 b0_15 3)] K y_7 (fun y_10 => (l4 = 0 → (mSV mX8_lays [.ref b0, .int l5, .int 4, .int 0] K y_10 (fun y_12 => mSV mX8_lays [.ref b0, .int l5, .int 5, .int l3] K y_12 (fun y_13 => gr y_13 b0 15 = some b0_15 ∧ (vp_in 5 n_b0_15 ∧ (mSV mX8_lays [.ref b0, .int l5, .int 6, .int (gi y_13 b0_15 5)] K y_13 (fun y_16 => mSV mX8_lays [.ref b0, .int l5, .int 7, .int l2] K y_16 (fun y_17 => ∃ c_18 : Nat, gr y_17 b0 3 = some c_18 ∧ (∃ n_21 : Nat, kk K c_18 = some (20, n_21) ∧ (vp_in 2 n_21 ∧ (Q (ui y_17 c_18 2 ((gi y_17 c_18 2) + 1))))))))))))) ∧ (¬ l4 = 0 → (mSV mX8_lays [.ref b0, .int l5, .int 4, .int 1] K y_10 (fun y_23 => mSV mX8_lays [.ref b0, .int l5, .int 5, .int l3] K y_23 (fun y_24 => gr y_24 b0 15 = some b0_15 ∧ (vp_in 5 n_b0_15 ∧ (mSV mX8_lays [.ref b0, .int l5, .int 6, .int (gi y_24 b0_15 5)] K y_24 (fun y_27 => mSV mX8_lays [.ref b0, .int l5, .int 7, .int l2] K y_27 (fun y_28 => ∃ c_29 : Nat, gr y_28 b0 3 = some c_29 ∧ (∃ n_32 : Nat, kk K c_29 = some (20, n_32) ∧ (vp_in 2 n_32 ∧ (Q (ui y_28 c_29 2 ((gi y_28 c_29 2) + 1)))))))))))))))))))))))) ∧ (¬ 12 ≤ l6 → (mSV mX8_lays [.ref b0, .int l5, .int l6, .int 0] K x (fun y_34 => GV mX8_addsSeries 11 [some (.ref b0), some (.int l1), some (.int l2), some (.int l3), some (.int l4), some (.int l5), some (.int (l6 + 1))] [] K y_34 Q)))) : GV mX8_addsSeries 11 [some (.ref b0), some (.int l1), some (.int l2), some (.int l3), some (.int l4), some (.int l5), some (.int l6)] [] K x Q := by
  show mGM mX8_addsSeries 11 [some (.ref b0), some (.int l1), some (.int l2), some (.int l3), some (.int l4), some (.int l5), some (.int l6)] [] (hp K x) (PV K Q)
  refine r_iload (pc := 11) dX8_addsSeries_11 rfl ?_
  refine r_bipush (pc := 13) (v := 12) dX8_addsSeries_13 (by decide) ?_
  refine r_icmp_ge (pc := 15) (tgt := 33) dX8_addsSeries_15 (by decide) (fun q => ?_) (fun q => ?_)
  · have K0 := K0.1 q
    refine r_aload_n (pc := 33) dX8_addsSeries_33 rfl ?_
    refine r_iload (pc := 34) dX8_addsSeries_34 rfl ?_
    refine r_iconst (pc := 36) (v := 0) dX8_addsSeries_36 (by decide) ?_
    refine r_aload_n (pc := 37) dX8_addsSeries_37 rfl ?_
    refine s_getR (pc := 38) dX8_addsSeries_38 fl_X8_27 rfl k_b0 g_b0_15 ?_
    refine r_iconst (pc := 41) (v := 0) dX8_addsSeries_41 (by decide) ?_
    obtain ⟨i_2, K0⟩ := K0
    refine s_iald (pc := 42) dX8_addsSeries_42 k_b0_15 i_2 ?_
    refine s_VV (pc := 43) mX8_lays (ci := 8) (a := b0) (As := [.int l5, .int 0, .int (gi x b0_15 0)]) dX8_addsSeries_43 lk_X8_230 in_X8_lays mo_X8_lays ⟨by decide, rfl⟩ ⟨by decide, by decide⟩ (Nat.le_of_ble_eq_true rfl) k_b0 (mSV_mono K0 (fun y_3 K0 => ?_))
    refine r_aload_n (pc := 46) dX8_addsSeries_46 rfl ?_
    refine r_iload (pc := 47) dX8_addsSeries_47 rfl ?_
    refine r_iconst (pc := 49) (v := 1) dX8_addsSeries_49 (by decide) ?_
    refine r_aload_n (pc := 50) dX8_addsSeries_50 rfl ?_
    obtain ⟨g_4, K0⟩ := K0
    refine s_getR (pc := 51) dX8_addsSeries_51 fl_X8_27 rfl k_b0 g_4 ?_
    refine r_iconst (pc := 54) (v := 1) dX8_addsSeries_54 (by decide) ?_
    obtain ⟨i_5, K0⟩ := K0
    refine s_iald (pc := 55) dX8_addsSeries_55 k_b0_15 i_5 ?_
    refine s_VV (pc := 56) mX8_lays (ci := 8) (a := b0) (As := [.int l5, .int 1, .int (gi y_3 b0_15 1)]) dX8_addsSeries_56 lk_X8_230 in_X8_lays mo_X8_lays ⟨by decide, rfl⟩ ⟨by decide, by decide⟩ (Nat.le_of_ble_eq_true rfl) k_b0 (mSV_mono K0 (fun y_6 K0 => ?_))
    refine r_aload_n (pc := 59) dX8_addsSeries_59 rfl ?_
    refine r_iload (pc := 60) dX8_addsSeries_60 rfl ?_
    refine r_iconst (pc := 62) (v := 2) dX8_addsSeries_62 (by decide) ?_
    refine r_iload_n (pc := 63) dX8_addsSeries_63 rfl ?_
    refine s_VV (pc := 64) mX8_lays (ci := 8) (a := b0) (As := [.int l5, .int 2, .int l1]) dX8_addsSeries_64 lk_X8_230 in_X8_lays mo_X8_lays ⟨by decide, rfl⟩ ⟨by decide, by decide⟩ (Nat.le_of_ble_eq_true rfl) k_b0 (mSV_mono K0 (fun y_7 K0 => ?_))
    refine r_aload_n (pc := 67) dX8_addsSeries_67 rfl ?_
    refine r_iload (pc := 68) dX8_addsSeries_68 rfl ?_
    refine r_iconst (pc := 70) (v := 3) dX8_addsSeries_70 (by decide) ?_
    refine r_aload_n (pc := 71) dX8_addsSeries_71 rfl ?_
    obtain ⟨g_8, K0⟩ := K0
    refine s_getR (pc := 72) dX8_addsSeries_72 fl_X8_27 rfl k_b0 g_8 ?_
    refine r_iconst (pc := 75) (v := 3) dX8_addsSeries_75 (by decide) ?_
    obtain ⟨i_9, K0⟩ := K0
    refine s_iald (pc := 76) dX8_addsSeries_76 k_b0_15 i_9 ?_
    refine s_VV (pc := 77) mX8_lays (ci := 8) (a := b0) (As := [.int l5, .int 3, .int (gi y_7 b0_15 3)]) dX8_addsSeries_77 lk_X8_230 in_X8_lays mo_X8_lays ⟨by decide, rfl⟩ ⟨by decide, by decide⟩ (Nat.le_of_ble_eq_true rfl) k_b0 (mSV_mono K0 (fun y_10 K0 => ?_))
    refine r_aload_n (pc := 80) dX8_addsSeries_80 rfl ?_
    refine r_iload (pc := 81) dX8_addsSeries_81 rfl ?_
    refine r_iconst (pc := 83) (v := 4) dX8_addsSeries_83 (by decide) ?_
    refine r_iload (pc := 84) dX8_addsSeries_84 rfl ?_
    refine r_if_eq (pc := 86) (tgt := 93) dX8_addsSeries_86 (by decide) (fun q => ?_) (fun q => ?_)
    · have K0 := K0.1 q
      refine r_iconst (pc := 93) (v := 0) dX8_addsSeries_93 (by decide) ?_
      refine s_VV (pc := 94) mX8_lays (ci := 8) (a := b0) (As := [.int l5, .int 4, .int 0]) dX8_addsSeries_94 lk_X8_230 in_X8_lays mo_X8_lays ⟨by decide, rfl⟩ ⟨by decide, by decide⟩ (Nat.le_of_ble_eq_true rfl) k_b0 (mSV_mono K0 (fun y_12 K0 => ?_))
      refine r_aload_n (pc := 97) dX8_addsSeries_97 rfl ?_
      refine r_iload (pc := 98) dX8_addsSeries_98 rfl ?_
      refine r_iconst (pc := 100) (v := 5) dX8_addsSeries_100 (by decide) ?_
      refine r_iload_n (pc := 101) dX8_addsSeries_101 rfl ?_
      refine s_VV (pc := 102) mX8_lays (ci := 8) (a := b0) (As := [.int l5, .int 5, .int l3]) dX8_addsSeries_102 lk_X8_230 in_X8_lays mo_X8_lays ⟨by decide, rfl⟩ ⟨by decide, by decide⟩ (Nat.le_of_ble_eq_true rfl) k_b0 (mSV_mono K0 (fun y_13 K0 => ?_))
      refine r_aload_n (pc := 105) dX8_addsSeries_105 rfl ?_
      refine r_iload (pc := 106) dX8_addsSeries_106 rfl ?_
      refine r_bipush (pc := 108) (v := 6) dX8_addsSeries_108 (by decide) ?_
      refine r_aload_n (pc := 110) dX8_addsSeries_110 rfl ?_
      obtain ⟨g_14, K0⟩ := K0
      refine s_getR (pc := 111) dX8_addsSeries_111 fl_X8_27 rfl k_b0 g_14 ?_
      refine r_iconst (pc := 114) (v := 5) dX8_addsSeries_114 (by decide) ?_
      obtain ⟨i_15, K0⟩ := K0
      refine s_iald (pc := 115) dX8_addsSeries_115 k_b0_15 i_15 ?_
      refine s_VV (pc := 116) mX8_lays (ci := 8) (a := b0) (As := [.int l5, .int 6, .int (gi y_13 b0_15 5)]) dX8_addsSeries_116 lk_X8_230 in_X8_lays mo_X8_lays ⟨by decide, rfl⟩ ⟨by decide, by decide⟩ (Nat.le_of_ble_eq_true rfl) k_b0 (mSV_mono K0 (fun y_16 K0 => ?_))
      refine r_aload_n (pc := 119) dX8_addsSeries_119 rfl ?_
      refine r_iload (pc := 120) dX8_addsSeries_120 rfl ?_
      refine r_bipush (pc := 122) (v := 7) dX8_addsSeries_122 (by decide) ?_
      refine r_iload_n (pc := 124) dX8_addsSeries_124 rfl ?_
      refine s_VV (pc := 125) mX8_lays (ci := 8) (a := b0) (As := [.int l5, .int 7, .int l2]) dX8_addsSeries_125 lk_X8_230 in_X8_lays mo_X8_lays ⟨by decide, rfl⟩ ⟨by decide, by decide⟩ (Nat.le_of_ble_eq_true rfl) k_b0 (mSV_mono K0 (fun y_17 K0 => ?_))
      refine r_aload_n (pc := 128) dX8_addsSeries_128 rfl ?_
      obtain ⟨c_18, g_19, K0⟩ := K0
      refine s_getR (pc := 129) dX8_addsSeries_129 fl_X8_16 rfl k_b0 g_19 ?_
      refine r_iconst (pc := 132) (v := 2) dX8_addsSeries_132 (by decide) ?_
      refine r_dup2 (pc := 133) dX8_addsSeries_133 rfl rfl ?_
      obtain ⟨n_21, e_20, K0⟩ := K0
      obtain ⟨i_22, K0⟩ := K0
      refine s_iald (pc := 134) dX8_addsSeries_134 e_20 i_22 ?_
      refine r_iconst (pc := 135) (v := 1) dX8_addsSeries_135 (by decide) ?_
      refine r_iadd (pc := 136) dX8_addsSeries_136 ?_
      refine s_iast (pc := 137) dX8_addsSeries_137 e_20 i_22 ?_
      exact s_ret rfl dX8_addsSeries_138 K0
    · have K0 := K0.2 q
      refine r_iconst (pc := 89) (v := 1) dX8_addsSeries_89 (by decide) ?_
      refine r_goto (pc := 90) (tgt := 94) dX8_addsSeries_90 (by decide) ?_
      refine s_VV (pc := 94) mX8_lays (ci := 8) (a := b0) (As := [.int l5, .int 4, .int 1]) dX8_addsSeries_94 lk_X8_230 in_X8_lays mo_X8_lays ⟨by decide, rfl⟩ ⟨by decide, by decide⟩ (Nat.le_of_ble_eq_true rfl) k_b0 (mSV_mono K0 (fun y_23 K0 => ?_))
      refine r_aload_n (pc := 97) dX8_addsSeries_97 rfl ?_
      refine r_iload (pc := 98) dX8_addsSeries_98 rfl ?_
      refine r_iconst (pc := 100) (v := 5) dX8_addsSeries_100 (by decide) ?_
      refine r_iload_n (pc := 101) dX8_addsSeries_101 rfl ?_
      refine s_VV (pc := 102) mX8_lays (ci := 8) (a := b0) (As := [.int l5, .int 5, .int l3]) dX8_addsSeries_102 lk_X8_230 in_X8_lays mo_X8_lays ⟨by decide, rfl⟩ ⟨by decide, by decide⟩ (Nat.le_of_ble_eq_true rfl) k_b0 (mSV_mono K0 (fun y_24 K0 => ?_))
      refine r_aload_n (pc := 105) dX8_addsSeries_105 rfl ?_
      refine r_iload (pc := 106) dX8_addsSeries_106 rfl ?_
      refine r_bipush (pc := 108) (v := 6) dX8_addsSeries_108 (by decide) ?_
      refine r_aload_n (pc := 110) dX8_addsSeries_110 rfl ?_
      obtain ⟨g_25, K0⟩ := K0
      refine s_getR (pc := 111) dX8_addsSeries_111 fl_X8_27 rfl k_b0 g_25 ?_
      refine r_iconst (pc := 114) (v := 5) dX8_addsSeries_114 (by decide) ?_
      obtain ⟨i_26, K0⟩ := K0
      refine s_iald (pc := 115) dX8_addsSeries_115 k_b0_15 i_26 ?_
      refine s_VV (pc := 116) mX8_lays (ci := 8) (a := b0) (As := [.int l5, .int 6, .int (gi y_24 b0_15 5)]) dX8_addsSeries_116 lk_X8_230 in_X8_lays mo_X8_lays ⟨by decide, rfl⟩ ⟨by decide, by decide⟩ (Nat.le_of_ble_eq_true rfl) k_b0 (mSV_mono K0 (fun y_27 K0 => ?_))
      refine r_aload_n (pc := 119) dX8_addsSeries_119 rfl ?_
      refine r_iload (pc := 120) dX8_addsSeries_120 rfl ?_
      refine r_bipush (pc := 122) (v := 7) dX8_addsSeries_122 (by decide) ?_
      refine r_iload_n (pc := 124) dX8_addsSeries_124 rfl ?_
      refine s_VV (pc := 125) mX8_lays (ci := 8) (a := b0) (As := [.int l5, .int 7, .int l2]) dX8_addsSeries_125 lk_X8_230 in_X8_lays mo_X8_lays ⟨by decide, rfl⟩ ⟨by decide, by decide⟩ (Nat.le_of_ble_eq_true rfl) k_b0 (mSV_mono K0 (fun y_28 K0 => ?_))
      refine r_aload_n (pc := 128) dX8_addsSeries_128 rfl ?_
      obtain ⟨c_29, g_30, K0⟩ := K0
      refine s_getR (pc := 129) dX8_addsSeries_129 fl_X8_16 rfl k_b0 g_30 ?_
      refine r_iconst (pc := 132) (v := 2) dX8_addsSeries_132 (by decide) ?_
      refine r_dup2 (pc := 133) dX8_addsSeries_133 rfl rfl ?_
      obtain ⟨n_32, e_31, K0⟩ := K0
      obtain ⟨i_33, K0⟩ := K0
      refine s_iald (pc := 134) dX8_addsSeries_134 e_31 i_33 ?_
      refine r_iconst (pc := 135) (v := 1) dX8_addsSeries_135 (by decide) ?_
      refine r_iadd (pc := 136) dX8_addsSeries_136 ?_
      refine s_iast (pc := 137) dX8_addsSeries_137 e_31 i_33 ?_
      exact s_ret rfl dX8_addsSeries_138 K0
  · have K0 := K0.2 q
    refine r_aload_n (pc := 18) dX8_addsSeries_18 rfl ?_
    refine r_iload (pc := 19) dX8_addsSeries_19 rfl ?_
    refine r_iload (pc := 21) dX8_addsSeries_21 rfl ?_
    refine r_iconst (pc := 23) (v := 0) dX8_addsSeries_23 (by decide) ?_
    refine s_VV (pc := 24) mX8_lays (ci := 8) (a := b0) (As := [.int l5, .int l6, .int 0]) dX8_addsSeries_24 lk_X8_230 in_X8_lays mo_X8_lays ⟨by decide, rfl⟩ ⟨by decide, by decide⟩ (Nat.le_of_ble_eq_true rfl) k_b0 (mSV_mono K0 (fun y_34 K0 => ?_))
    refine r_iinc (pc := 27) (v := l6 + 1) dX8_addsSeries_27 rfl rfl (by decide) ?_
    refine r_goto (pc := 30) (L := [some (.ref b0), some (.int l1), some (.int l2), some (.int l3), some (.int l4), some (.int l5), some (.int (l6 + 1))]) (tgt := 11) dX8_addsSeries_30 (by decide) ?_
    exact r_le (L' := [some (.ref b0), some (.int l1), some (.int l2), some (.int l3), some (.int l4), some (.int l5), some (.int (l6 + 1))]) ⟨rfl, ⟨rfl, ⟨rfl, ⟨rfl, ⟨rfl, ⟨rfl, ⟨rfl, trivial⟩⟩⟩⟩⟩⟩⟩ K0
section
theorem sp_X8_addsSeries {x : Cn} {Q : Cn → Prop} {t S : Nat} {hr wk fi nw : Int32} (M : MRf x t) (ht : kk KW t = some (20, 518)) (ht2 : t ≠ 721) (h2 : gi x t 2 = nI S) (hS : S < 24) (k : ∀ y : Cn, y.2 = x.2 → (∀ a j, a ≠ t → gi y a j = gi x a j) → gi y t = adT (gi x t) S (adf x hr wk fi nw) → Q y) : mSV mX8_addsSeries [.ref 717, .int hr, .int wk, .int fi, .int nw] KW x Q := by
  have key : ∀ c m y, m + c = 12 → y.2 = x.2 → (∀ a j, a ≠ t → gi y a j = gi x a j) → gi y t = (fun i => if 62 + 12 * S ≤ i ∧ i < 62 + 12 * S + m then 0 else gi x t i) → GV mX8_addsSeries 11 [some (.ref 717), some (.int hr), some (.int wk), some (.int fi), some (.int nw), some (.int (nI S)), some (.int (nI m))] [] KW y Q := by
    intro c
    induction c with
    | zero =>
      intro m y hm y1 y2 y3
      have : m = 12 := by omega
      subst this
      have M2 := M.keep y1
      have r : ∀ (z : Cn), z.2 = x.2 → gr z 717 15 = some 721 := fun z hz => (M.keep hz).2.2.2.2.1
      have o : ∀ (z : Cn) i v, (∀ a j, a ≠ t → gi z a j = gi x a j) → (∀ a j, a ≠ t → gi (ui z t i v) a j = gi x a j) := fun z i v hz a j ha => by rw [gi_ui, if_neg (fun u => ha u.1)]; exact hz a j ha
      refine v_X8_addsSeries_11 km M2.2.2.2.2.1 km721 ⟨fun _ => ⟨v0 (k := 0) (by decide) rfl rfl, ?_⟩, fun z => absurd (Int32.le_refl _) z⟩
      rw [y2 721 0 (Ne.symm ht2)]
      refine sp_X8_lays (k := 0) (M.keep y1) ht hS (by decide) ⟨r _ y1, v0 (k := 1) (by decide) rfl rfl, ?_⟩
      rw [o _ _ _ y2 721 1 (Ne.symm ht2)]
      refine sp_X8_lays (k := 1) (M.keep y1) ht hS (by decide) (sp_X8_lays (k := 2) (M.keep y1) ht hS (by decide) ⟨r _ y1, v0 (k := 3) (by decide) rfl rfl, ?_⟩)
      rw [o _ _ _ (o _ _ _ (o _ _ _ y2)) 721 3 (Ne.symm ht2)]
      have fin : ∀ w, w = (if nw = 0 then (0 : Int32) else 1) → mSV mX8_lays [.ref 717, .int (nI S), .int 4, .int w] KW (ui (ui (ui (ui y t (62 + 12 * S + 0) (gi x 721 0)) t (62 + 12 * S + 1) (gi x 721 1)) t (62 + 12 * S + 2) hr) t (62 + 12 * S + 3) (gi x 721 3)) (fun y_12 => mSV mX8_lays [.ref 717, .int (nI S), .int 5, .int fi] KW y_12 (fun y_13 => gr y_13 717 15 = some 721 ∧ (vp_in 5 7 ∧ mSV mX8_lays [.ref 717, .int (nI S), .int 6, .int (gi y_13 721 5)] KW y_13 (fun y_16 => mSV mX8_lays [.ref 717, .int (nI S), .int 7, .int wk] KW y_16 (fun y_17 => ∃ c_18, gr y_17 717 3 = some c_18 ∧ ∃ n_21, kk KW c_18 = some (20, n_21) ∧ (vp_in 2 n_21 ∧ Q (ui y_17 c_18 2 (gi y_17 c_18 2 + 1)))))))) := by
        intro w hw
        refine sp_X8_lays (k := 4) (M.keep y1) ht hS (by decide) (sp_X8_lays (k := 5) (M.keep y1) ht hS (by decide) ⟨r _ y1, v0 (k := 5) (by decide) rfl rfl, ?_⟩)
        rw [o _ _ _ (o _ _ _ (o _ _ _ (o _ _ _ (o _ _ _ (o _ _ _ y2))))) 721 5 (Ne.symm ht2)]
        refine sp_X8_lays (k := 6) (M.keep y1) ht hS (by decide) (sp_X8_lays (k := 7) (M.keep y1) ht hS (by decide) ⟨t, (M.keep (show _ = x.2 from y1)).2.2.1, 518, ht, v0 (k := 2) (by decide) rfl rfl, ?_⟩)
        refine k _ y1 (o _ _ _ (o _ _ _ (o _ _ _ (o _ _ _ (o _ _ _ (o _ _ _ (o _ _ _ (o _ _ _ (o _ _ _ y2))))))))) ?_
        simp only [gi_at]
        rw [y3]
        funext i
        unfold adT adf
        by_cases c2 : i = 2
        · subst c2
          rw [uT_at, if_pos rfl]
          simp only [uT]
          rw [if_neg (by omega), if_neg (by omega), if_neg (by omega), if_neg (by omega), if_neg (by omega), if_neg (by omega), if_neg (by omega), if_neg (by omega), if_neg (by omega), h2, nI_1]
        · rw [uT_ne _ _ c2, if_neg c2]
          by_cases c3 : 62 + 12 * S ≤ i ∧ i < 74 + 12 * S
          · rw [if_pos c3]
            obtain ⟨j, rfl⟩ : ∃ j, i = 62 + 12 * S + j := ⟨i - (62 + 12 * S), by omega⟩
            have hj : j < 12 := by omega
            rw [show 62 + 12 * S + j - (62 + 12 * S) = j by omega, hw]
            rcases lt12 hj with rfl | rfl | rfl | rfl | rfl | rfl | rfl | rfl | rfl | rfl | rfl | rfl <;> simp [uT]
          · rw [if_neg c3, uT_ne _ _ (by omega), uT_ne _ _ (by omega), uT_ne _ _ (by omega), uT_ne _ _ (by omega), uT_ne _ _ (by omega), uT_ne _ _ (by omega), uT_ne _ _ (by omega), uT_ne _ _ (by omega), if_neg (by omega)]
      refine sp_X8_lays (k := 3) (M.keep y1) ht hS (by decide) ⟨fun z => fin 0 (by rw [if_pos z]), fun z => fin 1 (by rw [if_neg z])⟩
    | succ c ih =>
      intro m y hm y1 y2 y3
      have M2 := M.keep y1
      refine v_X8_addsSeries_11 km M2.2.2.2.2.1 km721 ⟨fun z => absurd z (nI_ge (b := 12) (by omega) (by decide)), fun _ => sp_X8_lays (k := m) M2 ht hS (by omega) ?_⟩
      rw [nI_1]
      refine ih (m + 1) _ (by omega) y1 (fun a j ha => by rw [gi_ui, if_neg (fun u => ha u.1)]; exact y2 a j ha) ?_
      rw [gi_at, y3]
      funext i
      show (if i = 62 + 12 * S + m then 0 else if 62 + 12 * S ≤ i ∧ i < 62 + 12 * S + m then 0 else gi x t i) = (if 62 + 12 * S ≤ i ∧ i < 62 + 12 * S + (m + 1) then 0 else gi x t i)
      by_cases c1 : i = 62 + 12 * S + m
      · rw [if_pos c1, if_pos (by omega)]
      · rw [if_neg c1]
        by_cases c2 : 62 + 12 * S ≤ i ∧ i < 62 + 12 * S + m
        · rw [if_pos c2, if_pos (show 62 + 12 * S ≤ i ∧ i < 62 + 12 * S + (m + 1) by omega)]
        · rw [if_neg c2, if_neg (show ¬ (62 + 12 * S ≤ i ∧ i < 62 + 12 * S + (m + 1)) by omega)]
  refine v_X8_addsSeries_0 km M.2.2.1 ht ⟨v0 (k := 2) (by decide) rfl rfl, ?_⟩
  rw [h2]
  exact key 12 0 x (by omega) rfl (fun _ _ _ => rfl) (by funext i; rw [if_neg (by omega)])
end
set_option maxHeartbeats 2000000 in
theorem v_X8_grants_0 {K : Sh} {x : Cn} {Q : Cn → Prop} {b0 : Nat} {l1 : Int32} {l2 : Int32}   (K0 : GV mX8_grants 2 [some (.ref b0), some (.int l1), some (.int l2), some (.int 0)] [] K x Q) : mSV mX8_grants [.ref b0, .int l1, .int l2] K x Q := by
  refine s_V (by decide) (by simp [Value.category]) (Nat.le_of_ble_eq_true rfl) ?_
  show mGM mX8_grants 0 [some (.ref b0), some (.int l1), some (.int l2), none] [] (hp K x) (PV K Q)
  refine r_iconst (pc := 0) (v := 0) dX8_grants_0 (by decide) ?_
  refine r_istore_n (pc := 1) dX8_grants_1 (by decide) ?_
  exact r_le (L' := [some (.ref b0), some (.int l1), some (.int l2), some (.int 0)]) ⟨rfl, ⟨rfl, ⟨rfl, ⟨rfl, trivial⟩⟩⟩⟩ K0
set_option maxHeartbeats 2000000 in
theorem v_X8_grants_2 {K : Sh} {x : Cn} {Q : Cn → Prop} {b0 : Nat} {l1 : Int32} {l2 : Int32} {l3 : Int32} {b0_3 : Nat} {n_b0_3 : Nat} {b0_15 : Nat} {n_b0_15 : Nat} (k_b0 : kk K b0 = some (8, 0)) (g_b0_3 : gr x b0 3 = some b0_3) (k_b0_3 : kk K b0_3 = some (20, n_b0_3)) (g_b0_15 : gr x b0 15 = some b0_15) (k_b0_15 : kk K b0_15 = some (20, n_b0_15)) (K0 : (7 ≤ l3 → ((l24 l1 n_b0_3) ∧ (vp_in 4 n_b0_3 ∧ (mSV mX8_addsSeries [.ref b0, .int l2, .int (f_span (ao (gi x b0_3) (l1 : Int32).toNatClampNeg 4) (ao (gi x b0_3) (l1 : Int32).toNatClampNeg 5) &&& f_span (gi x b0_3 4) (gi x b0_3 0 - 1)), .int (if (ao (gi x b0_3) (l1 : Int32).toNatClampNeg 4) < (gi x b0_3 4) then (gi x b0_3 4) else (ao (gi x b0_3) (l1 : Int32).toNatClampNeg 4)), .int 1] K x (fun y_4 => ∃ c_5 : Nat, gr y_4 b0 17 = some c_5 ∧ (∃ n_8 : Nat, kk K c_5 = some (20, n_8) ∧ (vp_in l1 n_8 ∧ (Q (ui y_4 c_5 (l1 : Int32).toNatClampNeg l2))))))))) ∧ (¬ 7 ≤ l3 → ((l24 l1 n_b0_3) ∧ ((l7 l3) ∧ (vp_in l3 n_b0_15 ∧ (GV mX8_grants 2 [some (.ref b0), some (.int l1), some (.int l2), some (.int (l3 + 1))] [] K (ui x b0_15 (l3 : Int32).toNatClampNeg (ao (gi x b0_3) (l1 : Int32).toNatClampNeg (l3 : Int32).toNatClampNeg)) Q)))))) : GV mX8_grants 2 [some (.ref b0), some (.int l1), some (.int l2), some (.int l3)] [] K x Q := by
  show mGM mX8_grants 2 [some (.ref b0), some (.int l1), some (.int l2), some (.int l3)] [] (hp K x) (PV K Q)
  refine r_iload_n (pc := 2) dX8_grants_2 rfl ?_
  refine r_bipush (pc := 3) (v := 7) dX8_grants_3 (by decide) ?_
  refine r_icmp_ge (pc := 5) (tgt := 26) dX8_grants_5 (by decide) (fun q => ?_) (fun q => ?_)
  · have K0 := K0.1 q
    refine r_aload_n (pc := 26) dX8_grants_26 rfl ?_
    refine r_iload_n (pc := 27) dX8_grants_27 rfl ?_
    refine r_aload_n (pc := 28) dX8_grants_28 rfl ?_
    refine r_iload_n (pc := 29) dX8_grants_29 rfl ?_
    obtain ⟨p_2, K0⟩ := K0
    refine s_VI (pc := 30) mX8_weeksOf (ci := 8) (a := b0) (As := [.int l1]) dX8_grants_30 lk_X8_326 in_X8_weeksOf mo_X8_weeksOf ⟨by decide, rfl⟩ ⟨by decide, by decide⟩ (Nat.le_of_ble_eq_true rfl) k_b0 (sr_X8_weeksOf k_b0 g_b0_3 k_b0_3 p_2 ?_)
    refine r_aload_n (pc := 33) dX8_grants_33 rfl ?_
    refine r_iload_n (pc := 34) dX8_grants_34 rfl ?_
    refine r_iconst (pc := 35) (v := 4) dX8_grants_35 (by decide) ?_
    refine s_VI (pc := 36) mX8_ask0 (ci := 8) (a := b0) (As := [.int l1, .int 4]) dX8_grants_36 lk_X8_284 in_X8_ask0 mo_X8_ask0 ⟨by decide, rfl⟩ ⟨by decide, by decide⟩ (Nat.le_of_ble_eq_true rfl) k_b0 (sr_X8_ask0 k_b0 g_b0_3 k_b0_3 p_2 ⟨by decide, by decide⟩ ?_)
    refine r_aload_n (pc := 39) dX8_grants_39 rfl ?_
    refine s_getR (pc := 40) dX8_grants_40 fl_X8_16 rfl k_b0 g_b0_3 ?_
    refine r_iconst (pc := 43) (v := 4) dX8_grants_43 (by decide) ?_
    obtain ⟨i_3, K0⟩ := K0
    refine s_iald (pc := 44) dX8_grants_44 k_b0_3 i_3 ?_
    refine r_mmax (pc := 45) dX8_grants_45 lk_X8_293 mw_max ⟨by decide, by decide⟩ (Nat.le_of_ble_eq_true rfl) ?_
    refine r_iconst (pc := 48) (v := 1) dX8_grants_48 (by decide) ?_
    refine s_VV (pc := 49) mX8_addsSeries (ci := 8) (a := b0) (As := [.int l2, .int (f_span (ao (gi x b0_3) (l1 : Int32).toNatClampNeg 4) (ao (gi x b0_3) (l1 : Int32).toNatClampNeg 5) &&& f_span (gi x b0_3 4) (gi x b0_3 0 - 1)), .int (if (ao (gi x b0_3) (l1 : Int32).toNatClampNeg 4) < (gi x b0_3 4) then (gi x b0_3 4) else (ao (gi x b0_3) (l1 : Int32).toNatClampNeg 4)), .int 1]) dX8_grants_49 lk_X8_237 in_X8_addsSeries mo_X8_addsSeries ⟨by decide, rfl⟩ ⟨by decide, by decide⟩ (Nat.le_of_ble_eq_true rfl) k_b0 (mSV_mono K0 (fun y_4 K0 => ?_))
    refine r_aload_n (pc := 52) dX8_grants_52 rfl ?_
    obtain ⟨c_5, g_6, K0⟩ := K0
    refine s_getR (pc := 53) dX8_grants_53 fl_X8_33 rfl k_b0 g_6 ?_
    refine r_iload_n (pc := 56) dX8_grants_56 rfl ?_
    refine r_iload_n (pc := 57) dX8_grants_57 rfl ?_
    obtain ⟨n_8, e_7, K0⟩ := K0
    obtain ⟨i_9, K0⟩ := K0
    refine s_iast (pc := 58) dX8_grants_58 e_7 i_9 ?_
    exact s_ret rfl dX8_grants_59 K0
  · have K0 := K0.2 q
    refine r_aload_n (pc := 8) dX8_grants_8 rfl ?_
    refine s_getR (pc := 9) dX8_grants_9 fl_X8_27 rfl k_b0 g_b0_15 ?_
    refine r_iload_n (pc := 12) dX8_grants_12 rfl ?_
    refine r_aload_n (pc := 13) dX8_grants_13 rfl ?_
    refine r_iload_n (pc := 14) dX8_grants_14 rfl ?_
    refine r_iload_n (pc := 15) dX8_grants_15 rfl ?_
    obtain ⟨p_10, K0⟩ := K0
    obtain ⟨p_11, K0⟩ := K0
    refine s_VI (pc := 16) mX8_ask0 (ci := 8) (a := b0) (As := [.int l1, .int l3]) dX8_grants_16 lk_X8_284 in_X8_ask0 mo_X8_ask0 ⟨by decide, rfl⟩ ⟨by decide, by decide⟩ (Nat.le_of_ble_eq_true rfl) k_b0 (sr_X8_ask0 k_b0 g_b0_3 k_b0_3 p_10 p_11 ?_)
    obtain ⟨i_12, K0⟩ := K0
    refine s_iast (pc := 19) dX8_grants_19 k_b0_15 i_12 ?_
    refine r_iinc (pc := 20) (v := l3 + 1) dX8_grants_20 rfl rfl (by decide) ?_
    refine r_goto (pc := 23) (L := [some (.ref b0), some (.int l1), some (.int l2), some (.int (l3 + 1))]) (tgt := 2) dX8_grants_23 (by decide) ?_
    exact r_le (L' := [some (.ref b0), some (.int l1), some (.int l2), some (.int (l3 + 1))]) ⟨rfl, ⟨rfl, ⟨rfl, ⟨rfl, trivial⟩⟩⟩⟩ K0
section
theorem sp_X8_grants {x : Cn} {Q : Cn → Prop} {t S a : Nat} {hr : Int32} (M : MRf x t) (ht : kk KW t = some (20, 518)) (ht2 : t ≠ 721) (ht3 : t ≠ 723) (h2 : gi x t 2 = nI S) (hS : S < 24) (ha : a < 24) (k : ∀ y : Cn, y.2 = x.2 → (∀ b j, b ≠ t → b ≠ 721 → b ≠ 723 → gi y b j = gi x b j) → gi y t = grT (gi x t) S a hr → (∀ b, gi y 723 b = if b = a then hr else gi x 723 b) → Q y) : mSV mX8_grants [.ref 717, .int (nI a), .int hr] KW x Q := by
  have key : ∀ c m y, m + c = 7 → EQx x y 721 → (∀ j, j < m → gi y 721 j = ao (gi x t) a j) → GV mX8_grants 2 [some (.ref 717), some (.int (nI a)), some (.int hr), some (.int (nI m))] [] KW y Q := by
    intro c
    induction c with
    | zero =>
      intro m y hm f1 f2
      have : m = 7 := by omega
      subst this
      have M2 := M.keep f1.1
      have et : gi y t = gi x t := funext (fun i => f1.2 t i ht2)
      refine v_X8_grants_2 km M2.2.2.1 ht M2.2.2.2.2.1 km721 ⟨fun _ => ⟨l24_nI ha rfl, v0 (k := 4) (by decide) rfl rfl, ?_⟩, fun z => absurd (Int32.le_refl _) z⟩
      rw [et, nI_clamp (by omega)]
      refine sp_X8_addsSeries M2 ht ht2 (by rw [et]; exact h2) hS (fun v v1 v2 v3 => ⟨723, (M2.keep v1).2.2.2.2.2.2.1, 24, km723, vp_in_nI ha (by decide), ?_⟩)
      refine k _ (v1.trans f1.1) (fun b j b1 b2 b3 => ?_) ?_ (fun b => ?_)
      · rw [gi_ui, if_neg (fun u => b3 u.1), v2 b j b1]; exact f1.2 b j b2
      · have : gi (ui v 723 a hr) t = gi v t := funext (fun i => by rw [gi_ui, if_neg (fun u => ht3 u.1)])
        rw [this, v3, et]
        unfold grT
        congr 1
        funext j
        unfold adf grf
        rw [f2 0 (by decide), f2 1 (by decide), f2 3 (by decide), f2 5 (by decide)]
        rfl
      · rw [gi_ui]
        by_cases c1 : b = a
        · rw [if_pos ⟨rfl, c1⟩, if_pos c1]
        · rw [if_neg (fun u => c1 u.2), if_neg c1, v2 723 b (Ne.symm ht3)]; exact f1.2 723 b (by decide)
    | succ c ih =>
      intro m y hm f1 f2
      have M2 := M.keep f1.1
      refine v_X8_grants_2 km M2.2.2.1 ht M2.2.2.2.2.1 km721 ⟨fun z => absurd z (nI_ge (b := 7) (by omega) (by decide)), fun _ => ⟨l24_nI ha rfl, ⟨nI_pos' (by omega), nI_lt (b := 7) (by omega) (by decide)⟩, vp_in_nI (by omega) (by decide), ?_⟩⟩
      rw [nI_1, nI_clamp (show m < 2 ^ 31 by omega), nI_clamp (show a < 2 ^ 31 by omega), show gi y t = gi x t from funext (fun i => f1.2 t i ht2)]
      refine ih (m + 1) _ (by omega) f1.ui (fun j hj => ?_)
      rw [gi_ui]
      by_cases c1 : j = m
      · rw [if_pos ⟨rfl, c1⟩, c1]
      · rw [if_neg (fun u => c1 u.2)]; exact f2 j (by omega)
  exact v_X8_grants_0 (key 7 0 x (by omega) (EQx.rf x _) (fun j hj => by omega))
/-- what is written while a pool is played, in the reference -/
def PFr (x z : Cn) : Prop := z.2 = x.2 ∧ ∀ a k, a ≠ 719 → a ≠ 721 → a ≠ 722 → a ≠ 723 → ¬ (a = 717 ∧ k = 18) → gi z a k = gi x a k
theorem PFr.rf (x : Cn) : PFr x x := ⟨rfl, fun _ _ _ _ _ _ _ => rfl⟩
theorem PFr.tr {x y z : Cn} (h : PFr x y) (g : PFr y z) : PFr x z := ⟨g.1.trans h.1, fun a k a1 a2 a3 a4 a5 => (g.2 a k a1 a2 a3 a4 a5).trans (h.2 a k a1 a2 a3 a4 a5)⟩
def PRS (z : Cn) (p : PS) (k : Nat) : Prop := MRf z 719 ∧ gi z 719 = p.1 ∧ (∀ a, a < 24 → gi z 722 a = p.2.2.1 a) ∧ (∀ a, a < 24 → gi z 723 a = p.2.2.2.1 a) ∧ gi z 717 18 = nI k
theorem fl_s (k : Nat) : fl (k + 1) = if fl k = 0 then 1 else 0 := by
  unfold fl
  by_cases c : k % 2 = 0
  · rw [if_pos c, if_neg (by omega), if_neg (by decide)]
  · rw [if_neg c, if_pos (by omega), if_pos rfl]
end
set_option maxHeartbeats 2000000 in
theorem v_X8_plays_0 {K : Sh} {x : Cn} {Q : Int32 → Cn → Prop} {b0 : Nat}  (k_b0 : kk K b0 = some (8, 0)) (K0 : mSV mX8_begins [.ref b0] K x (fun y_1 => GI mX8_plays 8 [some (.ref b0), some (.int 0), some (.int 1), none, none] [] K y_1 Q)) : mSI mX8_plays [.ref b0] K x Q := by
  refine s_I (by decide) (by simp [Value.category]) (Nat.le_of_ble_eq_true rfl) ?_
  show mGM mX8_plays 0 [some (.ref b0), none, none, none, none] [] (hp K x) (PI K Q)
  refine r_aload_n (pc := 0) dX8_plays_0 rfl ?_
  refine s_VV (pc := 1) mX8_begins (ci := 8) (a := b0) (As := []) dX8_plays_1 lk_X8_338 in_X8_begins mo_X8_begins ⟨by decide, rfl⟩ ⟨by decide, by decide⟩ (Nat.le_of_ble_eq_true rfl) k_b0 (mSV_mono K0 (fun y_1 K0 => ?_))
  refine r_iconst (pc := 4) (v := 0) dX8_plays_4 (by decide) ?_
  refine r_istore_n (pc := 5) dX8_plays_5 (by decide) ?_
  refine r_iconst (pc := 6) (L := [some (.ref b0), some (.int 0), none, none, none]) (v := 1) dX8_plays_6 (by decide) ?_
  refine r_istore_n (pc := 7) dX8_plays_7 (by decide) ?_
  exact r_le (L' := [some (.ref b0), some (.int 0), some (.int 1), none, none]) ⟨rfl, ⟨rfl, ⟨rfl, trivial⟩⟩⟩ K0
set_option maxHeartbeats 2000000 in
theorem v_X8_plays_8 {K : Sh} {x : Cn} {Q : Int32 → Cn → Prop} {b0 : Nat} {l1 : Int32} {l2 : Int32} {b0_3 : Nat} {n_b0_3 : Nat} (k_b0 : kk K b0 = some (8, 0)) (g_b0_3 : gr x b0 3 = some b0_3) (k_b0_3 : kk K b0_3 = some (20, n_b0_3)) (K0 : vp_in 3 n_b0_3 ∧ (((gi x b0_3 3) ≤ (gi x b0 18) → (Q l1 x)) ∧ (¬ (gi x b0_3 3) ≤ (gi x b0 18) → (mSI mX8_chosen [.ref b0, .int l2] K x (fun r_4 y_3 => (¬ r_4 = (-1) → (GI mX8_plays 46 [some (.ref b0), some (.int l1), some (.int l2), some (.int r_4), none] [] K y_3 Q)) ∧ (r_4 = (-1) → ((¬ l2 = 0 → (mSI mX8_chosen [.ref b0, .int 0] K y_3 (fun r_8 y_7 => GI mX8_plays 46 [some (.ref b0), some (.int l1), some (.int l2), some (.int r_8), none] [] K y_7 Q))) ∧ (l2 = 0 → (mSI mX8_chosen [.ref b0, .int 1] K y_3 (fun r_10 y_9 => GI mX8_plays 46 [some (.ref b0), some (.int l1), some (.int l2), some (.int r_10), none] [] K y_9 Q)))))))))) : GI mX8_plays 8 [some (.ref b0), some (.int l1), some (.int l2), none, none] [] K x Q := by
  show mGM mX8_plays 8 [some (.ref b0), some (.int l1), some (.int l2), none, none] [] (hp K x) (PI K Q)
  refine r_aload_n (pc := 8) dX8_plays_8 rfl ?_
  refine s_getI (pc := 9) dX8_plays_9 fl_X8_335 rfl k_b0 ?_
  refine r_aload_n (pc := 12) dX8_plays_12 rfl ?_
  refine s_getR (pc := 13) dX8_plays_13 fl_X8_16 rfl k_b0 g_b0_3 ?_
  refine r_iconst (pc := 16) (v := 3) dX8_plays_16 (by decide) ?_
  obtain ⟨i_1, K0⟩ := K0
  refine s_iald (pc := 17) dX8_plays_17 k_b0_3 i_1 ?_
  refine r_icmp_ge (pc := 18) (tgt := 105) dX8_plays_18 (by decide) (fun q => ?_) (fun q => ?_)
  · have K0 := K0.1 q
    refine r_iload_n (pc := 105) dX8_plays_105 rfl ?_
    exact s_iret rfl dX8_plays_106 K0
  · have K0 := K0.2 q
    refine r_aload_n (pc := 21) dX8_plays_21 rfl ?_
    refine r_iload_n (pc := 22) dX8_plays_22 rfl ?_
    refine s_VI (pc := 23) mX8_chosen (ci := 8) (a := b0) (As := [.int l2]) dX8_plays_23 lk_X8_341 in_X8_chosen mo_X8_chosen ⟨by decide, rfl⟩ ⟨by decide, by decide⟩ (Nat.le_of_ble_eq_true rfl) k_b0 (mSI_mono K0 (fun r_4 y_3 K0 => ?_))
    refine r_istore_n (pc := 26) dX8_plays_26 (by decide) ?_
    refine r_iload_n (pc := 27) (L := [some (.ref b0), some (.int l1), some (.int l2), some (.int r_4), none]) dX8_plays_27 rfl ?_
    refine r_iconst (pc := 28) (v := (-1)) dX8_plays_28 (by decide) ?_
    refine r_icmp_ne (pc := 29) (tgt := 46) dX8_plays_29 (by decide) (fun q => ?_) (fun q => ?_)
    · have K0 := K0.1 q
      exact r_le (L' := [some (.ref b0), some (.int l1), some (.int l2), some (.int r_4), none]) ⟨rfl, ⟨rfl, ⟨rfl, ⟨rfl, trivial⟩⟩⟩⟩ K0
    · have K0 := K0.2 q
      refine r_aload_n (pc := 32) dX8_plays_32 rfl ?_
      refine r_iload_n (pc := 33) dX8_plays_33 rfl ?_
      refine r_if_ne (pc := 34) (tgt := 41) dX8_plays_34 (by decide) (fun q => ?_) (fun q => ?_)
      · have K0 := K0.1 q
        refine r_iconst (pc := 41) (v := 0) dX8_plays_41 (by decide) ?_
        refine s_VI (pc := 42) mX8_chosen (ci := 8) (a := b0) (As := [.int 0]) dX8_plays_42 lk_X8_341 in_X8_chosen mo_X8_chosen ⟨by decide, rfl⟩ ⟨by decide, by decide⟩ (Nat.le_of_ble_eq_true rfl) k_b0 (mSI_mono K0 (fun r_8 y_7 K0 => ?_))
        refine r_istore_n (pc := 45) dX8_plays_45 (by decide) ?_
        exact r_le (L' := [some (.ref b0), some (.int l1), some (.int l2), some (.int r_8), none]) ⟨rfl, ⟨rfl, ⟨rfl, ⟨rfl, trivial⟩⟩⟩⟩ K0
      · have K0 := K0.2 q
        refine r_iconst (pc := 37) (v := 1) dX8_plays_37 (by decide) ?_
        refine r_goto (pc := 38) (tgt := 42) dX8_plays_38 (by decide) ?_
        refine s_VI (pc := 42) mX8_chosen (ci := 8) (a := b0) (As := [.int 1]) dX8_plays_42 lk_X8_341 in_X8_chosen mo_X8_chosen ⟨by decide, rfl⟩ ⟨by decide, by decide⟩ (Nat.le_of_ble_eq_true rfl) k_b0 (mSI_mono K0 (fun r_10 y_9 K0 => ?_))
        refine r_istore_n (pc := 45) dX8_plays_45 (by decide) ?_
        exact r_le (L' := [some (.ref b0), some (.int l1), some (.int l2), some (.int r_10), none]) ⟨rfl, ⟨rfl, ⟨rfl, ⟨rfl, trivial⟩⟩⟩⟩ K0
set_option maxHeartbeats 2000000 in
theorem v_X8_plays_46 {K : Sh} {x : Cn} {Q : Int32 → Cn → Prop} {b0 : Nat} {l1 : Int32} {l2 : Int32} {l3 : Int32} {b0_16 : Nat} {n_b0_16 : Nat} (k_b0 : kk K b0 = some (8, 0)) (g_b0_16 : gr x b0 16 = some b0_16) (k_b0_16 : kk K b0_16 = some (20, n_b0_16)) (K0 : vp_in l3 n_b0_16 ∧ (∀ r_2 : Int32, r_2 = gi (ui x b0_16 (l3 : Int32).toNatClampNeg (gi x b0 18)) b0 18 → ((¬ l2 = 0 → (mSI mX8_hourFor [.ref b0, .int l3] K (ui (ui x b0_16 (l3 : Int32).toNatClampNeg (gi x b0 18)) b0 18 (r_2 + 1)) (fun r_6 y_5 => (¬ r_6 = (-1) → (mSV mX8_grants [.ref b0, .int l3, .int r_6] K y_5 (fun y_8 => GI mX8_plays 8 [some (.ref b0), some (.int (l1 + 1)), some (.int 0), none, none] [] K y_8 Q))) ∧ (r_6 = (-1) → (GI mX8_plays 8 [some (.ref b0), some (.int l1), some (.int 0), none, none] [] K y_5 Q))))) ∧ (l2 = 0 → (mSI mX8_hourFor [.ref b0, .int l3] K (ui (ui x b0_16 (l3 : Int32).toNatClampNeg (gi x b0 18)) b0 18 (r_2 + 1)) (fun r_10 y_9 => (¬ r_10 = (-1) → (mSV mX8_grants [.ref b0, .int l3, .int r_10] K y_9 (fun y_12 => GI mX8_plays 8 [some (.ref b0), some (.int (l1 + 1)), some (.int 1), none, none] [] K y_12 Q))) ∧ (r_10 = (-1) → (GI mX8_plays 8 [some (.ref b0), some (.int l1), some (.int 1), none, none] [] K y_9 Q)))))))) : GI mX8_plays 46 [some (.ref b0), some (.int l1), some (.int l2), some (.int l3), none] [] K x Q := by
  show mGM mX8_plays 46 [some (.ref b0), some (.int l1), some (.int l2), some (.int l3), none] [] (hp K x) (PI K Q)
  refine r_aload_n (pc := 46) dX8_plays_46 rfl ?_
  refine s_getR (pc := 47) dX8_plays_47 fl_X8_30 rfl k_b0 g_b0_16 ?_
  refine r_iload_n (pc := 50) dX8_plays_50 rfl ?_
  refine r_aload_n (pc := 51) dX8_plays_51 rfl ?_
  refine s_getI (pc := 52) dX8_plays_52 fl_X8_335 rfl k_b0 ?_
  obtain ⟨i_1, K0⟩ := K0
  refine s_iast (pc := 55) dX8_plays_55 k_b0_16 i_1 ?_
  refine r_aload_n (pc := 56) dX8_plays_56 rfl ?_
  refine r_dup (pc := 57) dX8_plays_57 rfl ?_
  refine s_getI (pc := 58) dX8_plays_58 fl_X8_335 rfl k_b0 ?_
  obtain ⟨r_2, w_3⟩ : ∃ z : Int32, z = gi (ui x b0_16 (l3 : Int32).toNatClampNeg (gi x b0 18)) b0 18 := ⟨_, rfl⟩
  rw [← w_3]
  have K0 := K0 r_2 w_3
  refine r_iconst (pc := 61) (v := 1) dX8_plays_61 (by decide) ?_
  refine r_iadd (pc := 62) dX8_plays_62 ?_
  refine s_putI (pc := 63) dX8_plays_63 fl_X8_335 rfl rfl k_b0 ?_
  refine r_iload_n (pc := 66) dX8_plays_66 rfl ?_
  refine r_if_ne (pc := 67) (tgt := 74) dX8_plays_67 (by decide) (fun q => ?_) (fun q => ?_)
  · have K0 := K0.1 q
    refine r_iconst (pc := 74) (v := 0) dX8_plays_74 (by decide) ?_
    refine r_istore_n (pc := 75) dX8_plays_75 (by decide) ?_
    refine r_aload_n (pc := 76) (L := [some (.ref b0), some (.int l1), some (.int 0), some (.int l3), none]) dX8_plays_76 rfl ?_
    refine r_iload_n (pc := 77) dX8_plays_77 rfl ?_
    refine s_VI (pc := 78) mX8_hourFor (ci := 8) (a := b0) (As := [.int l3]) dX8_plays_78 lk_X8_332 in_X8_hourFor mo_X8_hourFor ⟨by decide, rfl⟩ ⟨by decide, by decide⟩ (Nat.le_of_ble_eq_true rfl) k_b0 (mSI_mono K0 (fun r_6 y_5 K0 => ?_))
    refine r_istore (pc := 81) dX8_plays_81 (by decide) ?_
    refine r_iload (pc := 83) (L := [some (.ref b0), some (.int l1), some (.int 0), some (.int l3), some (.int r_6)]) dX8_plays_83 rfl ?_
    refine r_iconst (pc := 85) (v := (-1)) dX8_plays_85 (by decide) ?_
    refine r_icmp_ne (pc := 86) (tgt := 92) dX8_plays_86 (by decide) (fun q => ?_) (fun q => ?_)
    · have K0 := K0.1 q
      refine r_aload_n (pc := 92) dX8_plays_92 rfl ?_
      refine r_iload_n (pc := 93) dX8_plays_93 rfl ?_
      refine r_iload (pc := 94) dX8_plays_94 rfl ?_
      refine s_VV (pc := 96) mX8_grants (ci := 8) (a := b0) (As := [.int l3, .int r_6]) dX8_plays_96 lk_X8_345 in_X8_grants mo_X8_grants ⟨by decide, rfl⟩ ⟨by decide, by decide⟩ (Nat.le_of_ble_eq_true rfl) k_b0 (mSV_mono K0 (fun y_8 K0 => ?_))
      refine r_iinc (pc := 99) (v := l1 + 1) dX8_plays_99 rfl rfl (by decide) ?_
      refine r_goto (pc := 102) (L := [some (.ref b0), some (.int (l1 + 1)), some (.int 0), some (.int l3), some (.int r_6)]) (tgt := 8) dX8_plays_102 (by decide) ?_
      exact r_le (L' := [some (.ref b0), some (.int (l1 + 1)), some (.int 0), none, none]) ⟨rfl, ⟨rfl, ⟨rfl, trivial⟩⟩⟩ K0
    · have K0 := K0.2 q
      refine r_goto (pc := 89) (tgt := 8) dX8_plays_89 (by decide) ?_
      exact r_le (L' := [some (.ref b0), some (.int l1), some (.int 0), none, none]) ⟨rfl, ⟨rfl, ⟨rfl, trivial⟩⟩⟩ K0
  · have K0 := K0.2 q
    refine r_iconst (pc := 70) (v := 1) dX8_plays_70 (by decide) ?_
    refine r_goto (pc := 71) (tgt := 75) dX8_plays_71 (by decide) ?_
    refine r_istore_n (pc := 75) dX8_plays_75 (by decide) ?_
    refine r_aload_n (pc := 76) (L := [some (.ref b0), some (.int l1), some (.int 1), some (.int l3), none]) dX8_plays_76 rfl ?_
    refine r_iload_n (pc := 77) dX8_plays_77 rfl ?_
    refine s_VI (pc := 78) mX8_hourFor (ci := 8) (a := b0) (As := [.int l3]) dX8_plays_78 lk_X8_332 in_X8_hourFor mo_X8_hourFor ⟨by decide, rfl⟩ ⟨by decide, by decide⟩ (Nat.le_of_ble_eq_true rfl) k_b0 (mSI_mono K0 (fun r_10 y_9 K0 => ?_))
    refine r_istore (pc := 81) dX8_plays_81 (by decide) ?_
    refine r_iload (pc := 83) (L := [some (.ref b0), some (.int l1), some (.int 1), some (.int l3), some (.int r_10)]) dX8_plays_83 rfl ?_
    refine r_iconst (pc := 85) (v := (-1)) dX8_plays_85 (by decide) ?_
    refine r_icmp_ne (pc := 86) (tgt := 92) dX8_plays_86 (by decide) (fun q => ?_) (fun q => ?_)
    · have K0 := K0.1 q
      refine r_aload_n (pc := 92) dX8_plays_92 rfl ?_
      refine r_iload_n (pc := 93) dX8_plays_93 rfl ?_
      refine r_iload (pc := 94) dX8_plays_94 rfl ?_
      refine s_VV (pc := 96) mX8_grants (ci := 8) (a := b0) (As := [.int l3, .int r_10]) dX8_plays_96 lk_X8_345 in_X8_grants mo_X8_grants ⟨by decide, rfl⟩ ⟨by decide, by decide⟩ (Nat.le_of_ble_eq_true rfl) k_b0 (mSV_mono K0 (fun y_12 K0 => ?_))
      refine r_iinc (pc := 99) (v := l1 + 1) dX8_plays_99 rfl rfl (by decide) ?_
      refine r_goto (pc := 102) (L := [some (.ref b0), some (.int (l1 + 1)), some (.int 1), some (.int l3), some (.int r_10)]) (tgt := 8) dX8_plays_102 (by decide) ?_
      exact r_le (L' := [some (.ref b0), some (.int (l1 + 1)), some (.int 1), none, none]) ⟨rfl, ⟨rfl, ⟨rfl, trivial⟩⟩⟩ K0
    · have K0 := K0.2 q
      refine r_goto (pc := 89) (tgt := 8) dX8_plays_89 (by decide) ?_
      exact r_le (L' := [some (.ref b0), some (.int l1), some (.int 1), none, none]) ⟨rfl, ⟨rfl, ⟨rfl, trivial⟩⟩⟩ K0
section
theorem sp_X8_plays {x : Cn} {Q : Int32 → Cn → Prop} {W C S A N : Nat} {T0 : TT} (M : MRf x 719) (hT : gi x 719 = T0) (F : WFB T0 W C S A N) (k : ∀ z, PFr x z → PRS z (accT (plS A N) A (pl0 T0 S)) A → Q (nI (accT (plS A N) A (pl0 T0 S)).2.2.2.2) z) : mSI mX8_plays [.ref 717] KW x Q := by
  have hA : A ≤ 24 := F.2.2.2.2.2.2.2.2.1
  refine v_X8_plays_0 km (sp_X8_begins M (fun v v1 v2 v3 v4 => ?_))
  refine lp_acc (plS A N) (fun k p => PIV W C A N T0 k p → ∀ y, PFr x y → PRS y p k → GI mX8_plays 8 [some (.ref 717), some (.int (nI p.2.2.2.2)), some (.int (fl k)), none, none] [] KW y Q) A (pl0 T0 S) ?_ (fun k p hk n1 => ?_) (PIV.st F) v ⟨v1, fun a j a1 a2 a3 a4 a5 => v2 a j a3 a4 a5⟩ ⟨M.keep v1, ?_, fun a ha => (v4 a ha).1, fun a ha => (v4 a ha).2, v3⟩
  · intro iv y fy ry
    exact v_X8_plays_8 km ry.1.2.2.1 km2 ⟨v0 (k := 3) (by decide) rfl rfl, fun _ => k y fy ry, fun z => absurd (by rw [ry.2.1, iv.1.2.2.2.2.2.2.2.1, ry.2.2.2.2]; exact Int32.le_refl _) z⟩
  · intro iv y fy ry
    obtain ⟨a, ha, e1, e2, e3⟩ := iv.a hk
    have hS : p.2.1 ≤ 24 := iv.1.2.2.2.2.2.2.1
    have Fy : WFB (gi y 719) W C p.2.1 A N := by rw [ry.2.1]; exact iv.1
    have h46 : GI mX8_plays 46 [some (.ref 717), some (.int (nI p.2.2.2.2)), some (.int (fl k)), some (.int (nI a)), none] [] KW y Q := by
      refine v_X8_plays_46 km ry.1.2.2.2.2.2.1 km722 ⟨vp_in_nI (by omega) (by decide), fun r hr => ?_⟩
      rw [nI_clamp (by omega)] at hr
      have er : r = nI k := by rw [hr, gi_ui, if_neg (by omega)]; exact ry.2.2.2.2
      rw [er, nI_1, nI_clamp (by omega), ry.2.2.2.2]
      have f2 : PFr x (ui (ui y 722 a (nI k)) 717 18 (nI (k + 1))) := ⟨fy.1, fun b j b1 b2 b3 b4 b5 => by rw [gi_ui, if_neg b5, gi_ui, if_neg (fun u => b3 u.1)]; exact fy.2 b j b1 b2 b3 b4 b5⟩
      have g719 : gi (ui (ui y 722 a (nI k)) 717 18 (nI (k + 1))) 719 = p.1 := by
        rw [← ry.2.1]
        funext i
        rw [gi_ui, if_neg (by omega), gi_ui, if_neg (by omega)]
      have M2 : MRf (ui (ui y 722 a (nI k)) 717 18 (nI (k + 1))) 719 := ry.1.keep rfl
      have F2 : WFB (gi (ui (ui y 722 a (nI k)) 717 18 (nI (k + 1))) 719) W C p.2.1 A N := by rw [g719]; exact iv.1
      have g722 : ∀ b, b < 24 → gi (ui (ui y 722 a (nI k)) 717 18 (nI (k + 1))) 722 b = uT p.2.2.1 a (nI k) b := fun b hb => by
        rw [gi_ui, if_neg (by omega), gi_ui]
        unfold uT
        by_cases c : b = a
        · rw [if_pos ⟨rfl, c⟩, if_pos c]
        · rw [if_neg (fun u => c u.2), if_neg c]; exact ry.2.2.1 b hb
      have g723 : ∀ b, b < 24 → gi (ui (ui y 722 a (nI k)) 717 18 (nI (k + 1))) 723 b = p.2.2.2.1 b := fun b hb => by
        rw [gi_ui, if_neg (by omega), gi_ui, if_neg (by omega)]; exact ry.2.2.2.1 b hb
      have g18 : gi (ui (ui y 722 a (nI k)) 717 18 (nI (k + 1))) 717 18 = nI (k + 1) := by rw [gi_ui, if_pos ⟨rfl, rfl⟩]
      obtain ⟨-, -, ⟨h0, hh0, eh0⟩, -⟩ := iv.1.2.2.2.2.2.2.2.2.2.2.2.2.2 a ha
      have body : ∀ w, w = fl (k + 1) → mSI mX8_hourFor [.ref 717, .int (nI a)] KW (ui (ui y 722 a (nI k)) 717 18 (nI (k + 1))) (fun r_6 y_5 => (¬ r_6 = -1 → mSV mX8_grants [.ref 717, .int (nI a), .int r_6] KW y_5 (fun y_8 => GI mX8_plays 8 [some (.ref 717), some (.int (nI p.2.2.2.2 + 1)), some (.int w), none, none] [] KW y_8 Q)) ∧ (r_6 = -1 → GI mX8_plays 8 [some (.ref 717), some (.int (nI p.2.2.2.2)), some (.int w), none, none] [] KW y_5 Q)) := by
        intro w hw
        rw [hw, nI_1]
        refine sb_X8_hourFor M2 km2 F2 ha ?_
        rw [g719]
        refine ⟨fun z => ?_, fun z => ?_⟩
        · rcases hrF_in (S := p.2.1) (N := N) hh0 eh0 with g0 | ⟨h, h1, h2, h3, h4⟩
          · exact absurd g0 z
          · rw [h2]
            refine sp_X8_grants M2 km2 (by decide) (by decide) F2.2.2.2.2.2.1 (by omega) (by omega) (fun u u1 u2 u3 u4 => ?_)
            refine n1 _ (plS_t e1 h2 (nI_ne1 (by omega))) (iv.t ha hk e3 h1 (by omega) h4) u ⟨u1.trans f2.1, fun b j b1 b2 b3 b4 b5 => (u2 b j b1 b2 b4).trans (f2.2 b j b1 b2 b3 b4 b5)⟩ ⟨M2.keep u1, by rw [u3, g719], fun b hb => by rw [u2 722 b (by decide) (by decide) (by decide)]; exact g722 b hb, fun b hb => ?_, by rw [u2 717 18 (by decide) (by decide) (by decide)]; exact g18⟩
            show gi u 723 b = uT p.2.2.2.1 a (nI h) b
            rw [u4]
            unfold uT
            by_cases c : b = a
            · rw [if_pos c, if_pos c]
            · rw [if_neg c, if_neg c]; exact g723 b hb
        · refine n1 _ (plS_f e1 z) (iv.f ha hk e3) _ f2 ⟨M2, g719, g722, fun b hb => ?_, g18⟩
          show _ = uT p.2.2.2.1 a (-1) b
          rw [g723 b hb]
          unfold uT
          by_cases c : b = a
          · rw [if_pos c, c, ← ry.2.2.2.1 a (by omega)]
            exact (ry.2.2.2.1 a (by omega)).trans (iv.2.2.2.2.2 a e3)
          · rw [if_neg c]
      refine ⟨fun z => body 0 (by rw [fl_s, if_neg z]), fun z => body 1 (by rw [fl_s, if_pos z])⟩
    unfold chC at e2
    refine v_X8_plays_8 km ry.1.2.2.1 km2 ⟨v0 (k := 3) (by decide) rfl rfl, fun z => absurd (by rw [ry.2.1, iv.1.2.2.2.2.2.2.2.1, ry.2.2.2.2] at z; exact z) (nI_ge hk (by omega)), fun _ => sp_X8_chosen ry.1 km2 Fy ry.2.2.1 ?_⟩
    rw [ry.2.1]
    refine ⟨fun z => ?_, fun z => ⟨fun z2 => sp_X8_chosen ry.1 km2 Fy ry.2.2.1 ?_, fun z2 => sp_X8_chosen ry.1 km2 Fy ry.2.2.1 ?_⟩⟩
    · rw [if_neg z] at e2
      rw [e2]; exact h46
    · rw [if_pos z, if_neg z2] at e2
      rw [ry.2.1, e2]; exact h46
    · rw [if_pos z, if_pos z2] at e2
      rw [ry.2.1, e2]; exact h46
  · rw [← hT]
    funext i
    exact v2 719 i (by decide) (by decide) (by omega)
def mixT (x : Cn) : TT := fun i => if i < 518 then gi x 718 i else gi x 719 i
end
set_option maxHeartbeats 2000000 in
theorem v_X8_copies_0 {K : Sh} {x : Cn} {Q : Cn → Prop} {b0 : Nat}   (K0 : GV mX8_copies 2 [some (.ref b0), some (.int 0)] [] K x Q) : mSV mX8_copies [.ref b0] K x Q := by
  refine s_V (by decide) (by simp [Value.category]) (Nat.le_of_ble_eq_true rfl) ?_
  show mGM mX8_copies 0 [some (.ref b0), none] [] (hp K x) (PV K Q)
  refine r_iconst (pc := 0) (v := 0) dX8_copies_0 (by decide) ?_
  refine r_istore_n (pc := 1) dX8_copies_1 (by decide) ?_
  exact r_le (L' := [some (.ref b0), some (.int 0)]) ⟨rfl, ⟨rfl, trivial⟩⟩ K0
set_option maxHeartbeats 2000000 in
theorem v_X8_copies_2 {K : Sh} {x : Cn} {Q : Cn → Prop} {b0 : Nat} {l1 : Int32} {b0_2 : Nat} {b0_1 : Nat} {n_b0_1 : Nat} {n_b0_2 : Nat} (k_b0 : kk K b0 = some (8, 0)) (g_b0_2 : gr x b0 2 = some b0_2) (g_b0_1 : gr x b0 1 = some b0_1) (k_b0_1 : kk K b0_1 = some (20, n_b0_1)) (k_b0_2 : kk K b0_2 = some (20, n_b0_2)) (K0 : (518 ≤ l1 → (Q x)) ∧ (¬ 518 ≤ l1 → (vp_in l1 n_b0_1 ∧ (vp_in l1 n_b0_2 ∧ (GV mX8_copies 2 [some (.ref b0), some (.int (l1 + 1))] [] K (ui x b0_2 (l1 : Int32).toNatClampNeg (gi x b0_1 (l1 : Int32).toNatClampNeg)) Q))))) : GV mX8_copies 2 [some (.ref b0), some (.int l1)] [] K x Q := by
  show mGM mX8_copies 2 [some (.ref b0), some (.int l1)] [] (hp K x) (PV K Q)
  refine r_iload_n (pc := 2) dX8_copies_2 rfl ?_
  refine r_sipush (pc := 3) (v := 518) dX8_copies_3 (by decide) ?_
  refine r_icmp_ge (pc := 6) (tgt := 27) dX8_copies_6 (by decide) (fun q => ?_) (fun q => ?_)
  · have K0 := K0.1 q
    exact s_ret rfl dX8_copies_27 K0
  · have K0 := K0.2 q
    refine r_aload_n (pc := 9) dX8_copies_9 rfl ?_
    refine s_getR (pc := 10) dX8_copies_10 fl_X8_13 rfl k_b0 g_b0_2 ?_
    refine r_iload_n (pc := 13) dX8_copies_13 rfl ?_
    refine r_aload_n (pc := 14) dX8_copies_14 rfl ?_
    refine s_getR (pc := 15) dX8_copies_15 fl_X8_9 rfl k_b0 g_b0_1 ?_
    refine r_iload_n (pc := 18) dX8_copies_18 rfl ?_
    obtain ⟨i_2, K0⟩ := K0
    refine s_iald (pc := 19) dX8_copies_19 k_b0_1 i_2 ?_
    obtain ⟨i_3, K0⟩ := K0
    refine s_iast (pc := 20) dX8_copies_20 k_b0_2 i_3 ?_
    refine r_iinc (pc := 21) (v := l1 + 1) dX8_copies_21 rfl rfl (by decide) ?_
    refine r_goto (pc := 24) (L := [some (.ref b0), some (.int (l1 + 1))]) (tgt := 2) dX8_copies_24 (by decide) ?_
    exact r_le (L' := [some (.ref b0), some (.int (l1 + 1))]) ⟨rfl, ⟨rfl, trivial⟩⟩ K0
section
theorem sp_X8_copies {x : Cn} {Q : Cn → Prop} (M : MRf x 718) (k : ∀ y : Cn, EQx x y 719 → gi y 719 = mixT x → Q y) : mSV mX8_copies [.ref 717] KW x Q := by
  have key : ∀ c m y, m + c = 518 → EQx x y 719 → (∀ i, gi y 719 i = if i < m then gi x 718 i else gi x 719 i) → GV mX8_copies 2 [some (.ref 717), some (.int (nI m))] [] KW y Q := by
    intro c
    induction c with
    | zero =>
      intro m y hm f1 f2
      have : m = 518 := by omega
      subst this
      have M2 := M.keep f1.1
      exact v_X8_copies_2 km M2.2.1 M2.1 km1 km2 ⟨fun _ => k y f1 (funext f2), fun z => absurd (Int32.le_refl _) z⟩
    | succ c ih =>
      intro m y hm f1 f2
      have M2 := M.keep f1.1
      refine v_X8_copies_2 km M2.2.1 M2.1 km1 km2 ⟨fun z => absurd z (nI_ge (b := 518) (by omega) (by decide)), fun _ => ⟨vp_in_nI (by omega) (by decide), vp_in_nI (by omega) (by decide), ?_⟩⟩
      rw [nI_1, nI_clamp (by omega)]
      refine ih (m + 1) _ (by omega) f1.ui (fun i => ?_)
      rw [gi_ui]
      by_cases c1 : i = m
      · rw [if_pos ⟨rfl, c1⟩, if_pos (by omega), c1]; exact f1.2 718 m (by decide)
      · rw [if_neg (fun u => c1 u.2), f2]
        by_cases c2 : i < m
        · rw [if_pos c2, if_pos (by omega)]
        · rw [if_neg c2, if_neg (by omega)]
  exact v_X8_copies_0 (key 518 0 x (by omega) (EQx.rf x _) (fun i => by rw [if_neg (by omega)]))
end
set_option maxHeartbeats 2000000 in
theorem v_X8_playsAside_0 {K : Sh} {x : Cn} {Q : Int32 → Cn → Prop} {b0 : Nat} {l1 : Int32}  (k_b0 : kk K b0 = some (8, 0)) (K0 : mSV mX8_copies [.ref b0] K x (fun y_1 => (l1 = (-1) → (∃ c_3 : Nat, gr y_1 b0 2 = some c_3 ∧ (mSI mX8_plays [.ref b0] K (ur y_1 b0 3 (some c_3)) (fun r_6 y_5 => ∃ c_7 : Nat, gr y_5 b0 1 = some c_7 ∧ (Q r_6 (ur y_5 b0 3 (some c_7))))))) ∧ (¬ l1 = (-1) → (∃ c_9 : Nat, gr y_1 b0 2 = some c_9 ∧ (∃ n_12 : Nat, kk K c_9 = some (20, n_12) ∧ (vp_in (6 + (2 * l1)) n_12 ∧ (vp_in ((6 + (2 * l1)) + 1) n_12 ∧ (mSI mX8_plays [.ref b0] K (ur (ui (ui y_1 c_9 ((6 + (2 * l1)) : Int32).toNatClampNeg ((gi y_1 c_9 ((6 + (2 * l1)) : Int32).toNatClampNeg) + 1)) c_9 (((6 + (2 * l1)) + 1) : Int32).toNatClampNeg ((gi (ui y_1 c_9 ((6 + (2 * l1)) : Int32).toNatClampNeg ((gi y_1 c_9 ((6 + (2 * l1)) : Int32).toNatClampNeg) + 1)) c_9 (((6 + (2 * l1)) + 1) : Int32).toNatClampNeg) + 1)) b0 3 (some c_9)) (fun r_16 y_15 => ∃ c_17 : Nat, gr y_15 b0 1 = some c_17 ∧ (Q r_16 (ur y_15 b0 3 (some c_17)))))))))))) : mSI mX8_playsAside [.ref b0, .int l1] K x Q := by
  refine s_I (by decide) (by simp [Value.category]) (Nat.le_of_ble_eq_true rfl) ?_
  show mGM mX8_playsAside 0 [some (.ref b0), some (.int l1), none] [] (hp K x) (PI K Q)
  refine r_aload_n (pc := 0) dX8_playsAside_0 rfl ?_
  refine s_VV (pc := 1) mX8_copies (ci := 8) (a := b0) (As := []) dX8_playsAside_1 lk_X8_348 in_X8_copies mo_X8_copies ⟨by decide, rfl⟩ ⟨by decide, by decide⟩ (Nat.le_of_ble_eq_true rfl) k_b0 (mSV_mono K0 (fun y_1 K0 => ?_))
  refine r_iload_n (pc := 4) dX8_playsAside_4 rfl ?_
  refine r_iconst (pc := 5) (v := (-1)) dX8_playsAside_5 (by decide) ?_
  refine r_icmp_eq (pc := 6) (tgt := 41) dX8_playsAside_6 (by decide) (fun q => ?_) (fun q => ?_)
  · have K0 := K0.1 q
    refine r_aload_n (pc := 41) dX8_playsAside_41 rfl ?_
    refine r_aload_n (pc := 42) dX8_playsAside_42 rfl ?_
    obtain ⟨c_3, g_4, K0⟩ := K0
    refine s_getR (pc := 43) dX8_playsAside_43 fl_X8_13 rfl k_b0 g_4 ?_
    refine s_putR (pc := 46) dX8_playsAside_46 fl_X8_16 rfl rfl k_b0 ?_
    refine r_aload_n (pc := 49) dX8_playsAside_49 rfl ?_
    refine s_VI (pc := 50) mX8_plays (ci := 8) (a := b0) (As := []) dX8_playsAside_50 lk_X8_351 in_X8_plays mo_X8_plays ⟨by decide, rfl⟩ ⟨by decide, by decide⟩ (Nat.le_of_ble_eq_true rfl) k_b0 (mSI_mono K0 (fun r_6 y_5 K0 => ?_))
    refine r_istore_n (pc := 53) dX8_playsAside_53 (by decide) ?_
    refine r_aload_n (pc := 54) (L := [some (.ref b0), some (.int l1), some (.int r_6)]) dX8_playsAside_54 rfl ?_
    refine r_aload_n (pc := 55) dX8_playsAside_55 rfl ?_
    obtain ⟨c_7, g_8, K0⟩ := K0
    refine s_getR (pc := 56) dX8_playsAside_56 fl_X8_9 rfl k_b0 g_8 ?_
    refine s_putR (pc := 59) dX8_playsAside_59 fl_X8_16 rfl rfl k_b0 ?_
    refine r_iload_n (pc := 62) dX8_playsAside_62 rfl ?_
    exact s_iret rfl dX8_playsAside_63 K0
  · have K0 := K0.2 q
    refine r_aload_n (pc := 9) dX8_playsAside_9 rfl ?_
    obtain ⟨c_9, g_10, K0⟩ := K0
    refine s_getR (pc := 10) dX8_playsAside_10 fl_X8_13 rfl k_b0 g_10 ?_
    refine r_bipush (pc := 13) (v := 6) dX8_playsAside_13 (by decide) ?_
    refine r_iconst (pc := 15) (v := 2) dX8_playsAside_15 (by decide) ?_
    refine r_iload_n (pc := 16) dX8_playsAside_16 rfl ?_
    refine r_imul (pc := 17) dX8_playsAside_17 ?_
    refine r_iadd (pc := 18) dX8_playsAside_18 ?_
    refine r_dup2 (pc := 19) dX8_playsAside_19 rfl rfl ?_
    obtain ⟨n_12, e_11, K0⟩ := K0
    obtain ⟨i_13, K0⟩ := K0
    refine s_iald (pc := 20) dX8_playsAside_20 e_11 i_13 ?_
    refine r_iconst (pc := 21) (v := 1) dX8_playsAside_21 (by decide) ?_
    refine r_iadd (pc := 22) dX8_playsAside_22 ?_
    refine s_iast (pc := 23) dX8_playsAside_23 e_11 i_13 ?_
    refine r_aload_n (pc := 24) dX8_playsAside_24 rfl ?_
    refine s_getR (pc := 25) dX8_playsAside_25 fl_X8_13 rfl k_b0 g_10 ?_
    refine r_bipush (pc := 28) (v := 6) dX8_playsAside_28 (by decide) ?_
    refine r_iconst (pc := 30) (v := 2) dX8_playsAside_30 (by decide) ?_
    refine r_iload_n (pc := 31) dX8_playsAside_31 rfl ?_
    refine r_imul (pc := 32) dX8_playsAside_32 ?_
    refine r_iadd (pc := 33) dX8_playsAside_33 ?_
    refine r_iconst (pc := 34) (v := 1) dX8_playsAside_34 (by decide) ?_
    refine r_iadd (pc := 35) dX8_playsAside_35 ?_
    refine r_dup2 (pc := 36) dX8_playsAside_36 rfl rfl ?_
    obtain ⟨i_14, K0⟩ := K0
    refine s_iald (pc := 37) dX8_playsAside_37 e_11 i_14 ?_
    refine r_iconst (pc := 38) (v := 1) dX8_playsAside_38 (by decide) ?_
    refine r_iadd (pc := 39) dX8_playsAside_39 ?_
    refine s_iast (pc := 40) dX8_playsAside_40 e_11 i_14 ?_
    refine r_aload_n (pc := 41) dX8_playsAside_41 rfl ?_
    refine r_aload_n (pc := 42) dX8_playsAside_42 rfl ?_
    refine s_getR (pc := 43) dX8_playsAside_43 fl_X8_13 rfl k_b0 g_10 ?_
    refine s_putR (pc := 46) dX8_playsAside_46 fl_X8_16 rfl rfl k_b0 ?_
    refine r_aload_n (pc := 49) dX8_playsAside_49 rfl ?_
    refine s_VI (pc := 50) mX8_plays (ci := 8) (a := b0) (As := []) dX8_playsAside_50 lk_X8_351 in_X8_plays mo_X8_plays ⟨by decide, rfl⟩ ⟨by decide, by decide⟩ (Nat.le_of_ble_eq_true rfl) k_b0 (mSI_mono K0 (fun r_16 y_15 K0 => ?_))
    refine r_istore_n (pc := 53) dX8_playsAside_53 (by decide) ?_
    refine r_aload_n (pc := 54) (L := [some (.ref b0), some (.int l1), some (.int r_16)]) dX8_playsAside_54 rfl ?_
    refine r_aload_n (pc := 55) dX8_playsAside_55 rfl ?_
    obtain ⟨c_17, g_18, K0⟩ := K0
    refine s_getR (pc := 56) dX8_playsAside_56 fl_X8_9 rfl k_b0 g_18 ?_
    refine s_putR (pc := 59) dX8_playsAside_59 fl_X8_16 rfl rfl k_b0 ?_
    refine r_iload_n (pc := 62) dX8_playsAside_62 rfl ?_
    exact s_iret rfl dX8_playsAside_63 K0
section
theorem sp_X8_playsAside {x : Cn} {Q : Int32 → Cn → Prop} {W C S A N : Nat} {T0 : TT} {hp : Int32} (M : MRf x 718) (hh : (hp = -1 ∧ T0 = mixT x) ∨ ∃ h, h < 24 ∧ hp = nI h ∧ T0 = hlT (mixT x) h) (F : WFB T0 W C S A N) (k : ∀ z, PFr x z → gi z 719 = (accT (plS A N) A (pl0 T0 S)).1 → (∀ a, a < 24 → gi z 722 a = (accT (plS A N) A (pl0 T0 S)).2.2.1 a) → (∀ a, a < 24 → gi z 723 a = (accT (plS A N) A (pl0 T0 S)).2.2.2.1 a) → Q (nI (accT (plS A N) A (pl0 T0 S)).2.2.2.2) z) : mSI mX8_playsAside [.ref 717, .int hp] KW x Q := by
  have fin : ∀ v : Cn, v.2 = x.2 → (∀ a j, a ≠ 719 → gi v a j = gi x a j) → gi v 719 = T0 → mSI mX8_plays [.ref 717] KW (ur v 717 3 (some 719)) (fun r_6 y_5 => ∃ c_7, gr y_5 717 1 = some c_7 ∧ Q r_6 (ur y_5 717 3 (some c_7))) := by
    intro v v1 v2 v3
    have M2 : MRf (ur v 717 3 (some 719)) 719 := by
      have Mv := M.keep v1
      unfold MRf at Mv ⊢
      simp only [gr_ur]
      simp only [show ¬ (1 : Nat) = 3 by decide, show ¬ (2 : Nat) = 3 by decide, show ¬ (4 : Nat) = 3 by decide, show ¬ (15 : Nat) = 3 by decide, show ¬ (16 : Nat) = 3 by decide, show ¬ (17 : Nat) = 3 by decide, show ¬ (20 : Nat) = 3 by decide, show ¬ (21 : Nat) = 3 by decide, and_false, if_false, and_self, if_true]
      exact ⟨Mv.1, Mv.2.1, trivial, Mv.2.2.2⟩
    refine sp_X8_plays M2 (T0 := T0) (by rw [← v3]; rfl) F (fun z fz rz => ⟨718, rz.1.1, k _ ⟨?_, fun a j a1 a2 a3 a4 a5 => ?_⟩ rz.2.1 rz.2.2.1 rz.2.2.2.1⟩)
    · show (ur z 717 3 (some 718)).2 = x.2
      funext a j
      show (if a = 717 ∧ j = 3 then some 718 else z.2 a j) = x.2 a j
      by_cases c : a = 717 ∧ j = 3
      · rw [if_pos c, c.1, c.2]; exact M.2.2.1.symm
      · rw [if_neg c, fz.1]
        show (if a = 717 ∧ j = 3 then some 719 else v.2 a j) = x.2 a j
        rw [if_neg c, v1]
    · show gi z a j = gi x a j
      exact (fz.2 a j a1 a2 a3 a4 a5).trans (v2 a j a1)
  refine v_X8_playsAside_0 km (sp_X8_copies M (fun y f1 f2 => ?_))
  rcases hh with ⟨rfl, rfl⟩ | ⟨h, hh, rfl, rfl⟩
  · exact ⟨fun _ => ⟨719, (M.keep f1.1).2.1, fin y f1.1 (fun a j ha => f1.2 a j ha) f2⟩, fun z => absurd rfl z⟩
  · refine ⟨fun z => absurd z (nI_ne1 (by omega)), fun _ => ⟨719, (M.keep f1.1).2.1, 518, km2, ?_⟩⟩
    rw [ixh1, ixh, nI_clamp (show 6 + 2 * h < 2 ^ 31 by omega), nI_clamp (show 7 + 2 * h < 2 ^ 31 by omega)]
    refine ⟨vp_in_nI (by omega) (by decide), vp_in_nI (by omega) (by decide), ?_⟩
    rw [show gi (ui y 719 (6 + 2 * h) (gi y 719 (6 + 2 * h) + 1)) 719 (7 + 2 * h) = gi y 719 (7 + 2 * h) by rw [gi_ui, if_neg (by omega)]]
    refine fin _ f1.1 (fun a j ha => by rw [gi_ui, if_neg (fun u => ha u.1), gi_ui, if_neg (fun u => ha u.1)]; exact f1.2 a j ha) ?_
    rw [gi_at, gi_at, f2]
    rfl

end
end
/-! 57.pool4.lean.txt -/
section
theorem PCr.kp {x y : Cn} (h : PCr x y) : Kp x y := ⟨h.1, fun a k c => h.2 a k (fun u => c (Or.inr (Or.inl (by omega))))⟩
theorem PFr.kp {x y : Cn} (h : PFr x y) : Kp x y := ⟨h.1, fun a k c => h.2 a k (fun u => c (by unfold scr; omega)) (fun u => c (by unfold scr; omega)) (fun u => c (by unfold scr; omega)) (fun u => c (by unfold scr; omega)) (fun u => c (by unfold scr; omega))⟩
theorem CRf.c9 {x : Cn} (h : CRf x) : gr x 0 9 = some 117 := h.2.2.2.2.2.1
theorem mix_pc {x y : Cn} (h : PCr x y) : mixT y = mixT x := by
  funext i
  unfold mixT
  rw [h.2 718 i (by omega), h.2 719 i (by omega)]
theorem mix_lt {x : Cn} {i : Nat} (h : i < 518) : mixT x i = gi x 718 i := if_pos h
theorem pl_wf {x : Cn} {W C S A N : Nat} {T0 : TT} {hp : Int32} (E : SEA x 2 (gi x 718) W C S A N) (hh : (hp = -1 ∧ T0 = mixT x) ∨ ∃ h, h < 24 ∧ hp = nI h ∧ T0 = hlT (mixT x) h) : WFB T0 W C S A N := by
  have F : WFB (mixT x) W C S A N := E.2.2.2.b.cg (fun i hi => mix_lt hi)
  rcases hh with ⟨_, rfl⟩ | ⟨h, h1, _, rfl⟩
  · exact F
  · exact F.hl h1
theorem pl_cls {x y : Cn} {W C S A N : Nat} {T0 : TT} {hp : Int32} {Q : Cn → Prop} (R : Rel x) (E : SEA x 2 (gi x 718) W C S A N) (f : PCr x y) (hh : (hp = -1 ∧ T0 = mixT x) ∨ ∃ h, h < 24 ∧ hp = nI h ∧ T0 = hlT (mixT x) h) (k : ∀ z, PCr x z → CPR z (accT (plS A N) A (pl0 T0 S)) W C A N → Q z) : mSV mX2_serve [.ref 117, .ref 2, .int hp] KW y Q :=
  sp_X2_serve (R.1.keep f.1) (E.mv (y := y) (T' := mixT x) (fun a j _ _ => by unfold gr; rw [f.1]) (fun a j _ _ _ => f.2 a j (by omega)) (fun i hi => mix_lt hi)) hh (fun z fz cz => k z (f.tr fz) cz)
theorem pl_ref {x y : Cn} {W C S A N : Nat} {T0 : TT} {hp : Int32} {z : Cn} {Q : Int32 → Cn → Prop} (R : Rel x) (E : SEA x 2 (gi x 718) W C S A N) (f : PCr x y) (f2 : PFr y z) (hm : mixT z = mixT x) (hh : (hp = -1 ∧ T0 = mixT x) ∨ ∃ h, h < 24 ∧ hp = nI h ∧ T0 = hlT (mixT x) h) (k : ∀ u, PFr y u → mixT u = mixT x → gi u 719 = (accT (plS A N) A (pl0 T0 S)).1 → (∀ a, a < 24 → gi u 722 a = (accT (plS A N) A (pl0 T0 S)).2.2.1 a) → (∀ a, a < 24 → gi u 723 a = (accT (plS A N) A (pl0 T0 S)).2.2.2.1 a) → Q (nI (accT (plS A N) A (pl0 T0 S)).2.2.2.2) u) : mSI mX8_playsAside [.ref 717, .int hp] KW z Q := by
  have M : MRf z 718 := (R.2.1.keep f.1).keep f2.1
  refine sp_X8_playsAside M (T0 := T0) (by rw [hm]; exact hh) (pl_wf E hh) (fun u fu u1 u2 u3 => k u (f2.tr fu) ?_ u1 u2 u3)
  have iv := PIV.run (pl_wf E hh) A (Nat.le_refl _)
  funext i
  unfold mixT
  by_cases c : i < 518
  · rw [if_pos c, if_pos c, fu.2 718 i (by decide) (by decide) (by decide) (by decide) (by omega), f2.2 718 i (by decide) (by decide) (by decide) (by decide) (by omega), f.2 718 i (by omega)]
  · rw [if_neg c, if_neg c, u1, iv.2.2.2.1 i (by omega) (by omega)]
    rcases hh with ⟨_, rfl⟩ | ⟨h, h1, _, rfl⟩
    · unfold mixT; rw [if_neg c]
    · rw [hlT_off h1 (by omega)]; unfold mixT; rw [if_neg c]
theorem CPR.end {y : Cn} {W C S A N : Nat} {T0 : TT} (F : WFB T0 W C S A N) (c : CPR y (accT (plS A N) A (pl0 T0 S)) W C A N) {a : Nat} (ha : a < A) : gi y 173 a = (accT (plS A N) A (pl0 T0 S)).2.2.1 a ∧ gi y 174 a = (accT (plS A N) A (pl0 T0 S)).2.2.2.1 a :=
  c.2.2.2 a (usd_t.mp (cnt_all A (PIV.run F A (Nat.le_refl _)).2.1 a ha))
set_option maxHeartbeats 2000000 in
theorem v_X2_firstOf_0 {K : Sh} {x : Cn} {Q : Int32 → Cn → Prop} {b0 : Nat} {b1 : Nat} {b0_0 : Nat} (k_b0 : kk K b0 = some (2, 0)) (g_b0_0 : gr x b0 0 = some b0_0) (k_b0_0 : kk K b0_0 = some (4, 0)) (K0 : mSV mX4_copyFrom [.ref b0_0, .ref b1] K x (fun y_1 => mSV mX2_countSlots [.ref b0] K y_1 (fun y_2 => mSI mX2_allAsks [.ref b0] K y_2 (fun r_4 y_3 => mSI mX2_chosen [.ref b0, .int r_4, .int 1] K y_3 (fun r_6 y_5 => Q r_6 y_5))))) : mSI mX2_firstOf [.ref b0, .ref b1] K x Q := by
  refine s_I (by decide) (by simp [Value.category]) (Nat.le_of_ble_eq_true rfl) ?_
  show mGM mX2_firstOf 0 [some (.ref b0), some (.ref b1)] [] (hp K x) (PI K Q)
  refine r_aload_n (pc := 0) dX2_firstOf_0 rfl ?_
  refine s_getR (pc := 1) dX2_firstOf_1 fl_X2_12 rfl k_b0 g_b0_0 ?_
  refine r_aload_n (pc := 4) dX2_firstOf_4 rfl ?_
  refine s_VV (pc := 5) mX4_copyFrom (ci := 4) (a := b0_0) (As := [.ref b1]) dX2_firstOf_5 lk_X2_32 in_X4_copyFrom mo_X4_copyFrom ⟨by decide, rfl⟩ ⟨by decide, by decide⟩ (Nat.le_of_ble_eq_true rfl) k_b0_0 (mSV_mono K0 (fun y_1 K0 => ?_))
  refine r_aload_n (pc := 8) dX2_firstOf_8 rfl ?_
  refine s_VV (pc := 9) mX2_countSlots (ci := 2) (a := b0) (As := []) dX2_firstOf_9 lk_X2_36 in_X2_countSlots mo_X2_countSlots ⟨by decide, rfl⟩ ⟨by decide, by decide⟩ (Nat.le_of_ble_eq_true rfl) k_b0 (mSV_mono K0 (fun y_2 K0 => ?_))
  refine r_aload_n (pc := 12) dX2_firstOf_12 rfl ?_
  refine r_aload_n (pc := 13) dX2_firstOf_13 rfl ?_
  refine s_VI (pc := 14) mX2_allAsks (ci := 2) (a := b0) (As := []) dX2_firstOf_14 lk_X2_39 in_X2_allAsks mo_X2_allAsks ⟨by decide, rfl⟩ ⟨by decide, by decide⟩ (Nat.le_of_ble_eq_true rfl) k_b0 (mSI_mono K0 (fun r_4 y_3 K0 => ?_))
  refine r_iconst (pc := 17) (v := 1) dX2_firstOf_17 (by decide) ?_
  refine s_VI (pc := 18) mX2_chosen (ci := 2) (a := b0) (As := [.int r_4, .int 1]) dX2_firstOf_18 lk_X2_43 in_X2_chosen mo_X2_chosen ⟨by decide, rfl⟩ ⟨by decide, by decide⟩ (Nat.le_of_ble_eq_true rfl) k_b0 (mSI_mono K0 (fun r_6 y_5 K0 => ?_))
  exact s_iret rfl dX2_firstOf_21 K0
set_option maxHeartbeats 2000000 in
theorem v_X7_first_0 {K : Sh} {x : Cn} {Q : Int32 → Cn → Prop} {b0 : Nat} {b0_2 : Nat} {b0_9 : Nat} (k_b0 : kk K b0 = some (7, 0)) (g_b0_2 : gr x b0 2 = some b0_2) (k_b0_2 : kk K b0_2 = some (4, 0)) (g_b0_9 : gr x b0 9 = some b0_9) (k_b0_9 : kk K b0_9 = some (2, 0)) (K0 : ((0 < gi x b0_2 0) → (mSI mX2_firstOf [.ref b0_9, .ref b0_2] K x (fun r_3 y_2 => Q r_3 y_2))) ∧ (¬ (0 < gi x b0_2 0) → (Q (-2) x))) : mSI mX7_first [.ref b0] K x Q := by
  refine s_I (by decide) (by simp [Value.category]) (Nat.le_of_ble_eq_true rfl) ?_
  show mGM mX7_first 0 [some (.ref b0)] [] (hp K x) (PI K Q)
  refine r_aload_n (pc := 0) dX7_first_0 rfl ?_
  refine s_VI (pc := 1) mX7_hasText (ci := 7) (a := b0) (As := []) dX7_first_1 lk_X7_121 in_X7_hasText mo_X7_hasText ⟨by decide, rfl⟩ ⟨by decide, by decide⟩ (Nat.le_of_ble_eq_true rfl) k_b0 (sp_X7_hasText k_b0 g_b0_2 k_b0_2 ?_)
  refine r_if_ne (pc := 4) (tgt := 10) dX7_first_4 (by decide) (fun q => ?_) (fun q => ?_)
  · have q := b2i_nz q
    have K0 := K0.1 q
    refine r_aload_n (pc := 10) dX7_first_10 rfl ?_
    refine s_getR (pc := 11) dX7_first_11 fl_X7_54 rfl k_b0 g_b0_9 ?_
    refine r_aload_n (pc := 14) dX7_first_14 rfl ?_
    refine s_getR (pc := 15) dX7_first_15 fl_X7_20 rfl k_b0 g_b0_2 ?_
    refine s_VI (pc := 18) mX2_firstOf (ci := 2) (a := b0_9) (As := [.ref b0_2]) dX7_first_18 lk_X7_310 in_X2_firstOf mo_X2_firstOf ⟨by decide, rfl⟩ ⟨by decide, by decide⟩ (Nat.le_of_ble_eq_true rfl) k_b0_9 (mSI_mono K0 (fun r_3 y_2 K0 => ?_))
    exact s_iret rfl dX7_first_21 K0
  · have q := (b2i_z _).mp q
    have K0 := K0.2 q
    refine r_bipush (pc := 7) (v := (-2)) dX7_first_7 (by decide) ?_
    exact s_iret rfl dX7_first_9 K0
set_option maxHeartbeats 2000000 in
theorem v_X8_first_0 {K : Sh} {x : Cn} {Q : Int32 → Cn → Prop} {b0 : Nat} {b0_1 : Nat} {n_b0_1 : Nat} (k_b0 : kk K b0 = some (8, 0)) (g_b0_1 : gr x b0 1 = some b0_1) (k_b0_1 : kk K b0_1 = some (20, n_b0_1)) (K0 : vp_in 0 n_b0_1 ∧ (((0 < gi x b0_1 0) → (mSV mX8_begins [.ref b0] K x (fun y_3 => mSI mX8_chosen [.ref b0, .int 1] K y_3 (fun r_5 y_4 => (¬ r_5 = (-1) → (Q r_5 y_4)) ∧ (r_5 = (-1) → (mSI mX8_chosen [.ref b0, .int 0] K y_4 (fun r_8 y_7 => Q r_8 y_7))))))) ∧ (¬ (0 < gi x b0_1 0) → (Q (-2) x)))) : mSI mX8_first [.ref b0] K x Q := by
  refine s_I (by decide) (by simp [Value.category]) (Nat.le_of_ble_eq_true rfl) ?_
  show mGM mX8_first 0 [some (.ref b0), none] [] (hp K x) (PI K Q)
  refine r_aload_n (pc := 0) dX8_first_0 rfl ?_
  obtain ⟨i_1, K0⟩ := K0
  refine s_VI (pc := 1) mX8_isThere (ci := 8) (a := b0) (As := []) dX8_first_1 lk_X8_49 in_X8_isThere mo_X8_isThere ⟨by decide, rfl⟩ ⟨by decide, by decide⟩ (Nat.le_of_ble_eq_true rfl) k_b0 (sp_X8_isThere k_b0 g_b0_1 k_b0_1 i_1 ?_)
  refine r_if_ne (pc := 4) (tgt := 10) dX8_first_4 (by decide) (fun q => ?_) (fun q => ?_)
  · have q := b2i_nz q
    have K0 := K0.1 q
    refine r_aload_n (pc := 10) dX8_first_10 rfl ?_
    refine s_VV (pc := 11) mX8_begins (ci := 8) (a := b0) (As := []) dX8_first_11 lk_X8_338 in_X8_begins mo_X8_begins ⟨by decide, rfl⟩ ⟨by decide, by decide⟩ (Nat.le_of_ble_eq_true rfl) k_b0 (mSV_mono K0 (fun y_3 K0 => ?_))
    refine r_aload_n (pc := 14) dX8_first_14 rfl ?_
    refine r_iconst (pc := 15) (v := 1) dX8_first_15 (by decide) ?_
    refine s_VI (pc := 16) mX8_chosen (ci := 8) (a := b0) (As := [.int 1]) dX8_first_16 lk_X8_341 in_X8_chosen mo_X8_chosen ⟨by decide, rfl⟩ ⟨by decide, by decide⟩ (Nat.le_of_ble_eq_true rfl) k_b0 (mSI_mono K0 (fun r_5 y_4 K0 => ?_))
    refine r_istore_n (pc := 19) dX8_first_19 (by decide) ?_
    refine r_iload_n (pc := 20) (L := [some (.ref b0), some (.int r_5)]) dX8_first_20 rfl ?_
    refine r_iconst (pc := 21) (v := (-1)) dX8_first_21 (by decide) ?_
    refine r_icmp_ne (pc := 22) (tgt := 33) dX8_first_22 (by decide) (fun q => ?_) (fun q => ?_)
    · have K0 := K0.1 q
      refine r_iload_n (pc := 33) dX8_first_33 rfl ?_
      exact s_iret rfl dX8_first_34 K0
    · have K0 := K0.2 q
      refine r_aload_n (pc := 25) dX8_first_25 rfl ?_
      refine r_iconst (pc := 26) (v := 0) dX8_first_26 (by decide) ?_
      refine s_VI (pc := 27) mX8_chosen (ci := 8) (a := b0) (As := [.int 0]) dX8_first_27 lk_X8_341 in_X8_chosen mo_X8_chosen ⟨by decide, rfl⟩ ⟨by decide, by decide⟩ (Nat.le_of_ble_eq_true rfl) k_b0 (mSI_mono K0 (fun r_8 y_7 K0 => ?_))
      refine r_goto (pc := 30) (tgt := 34) dX8_first_30 (by decide) ?_
      exact s_iret rfl dX8_first_34 K0
  · have q := (b2i_z _).mp q
    have K0 := K0.2 q
    refine r_bipush (pc := 7) (v := (-2)) dX8_first_7 (by decide) ?_
    exact s_iret rfl dX8_first_9 K0
set_option maxHeartbeats 2000000 in
theorem v_X7_would_0 {K : Sh} {x : Cn} {Q : Int32 → Cn → Prop} {b0 : Nat} {b0_2 : Nat} {b0_9 : Nat} (k_b0 : kk K b0 = some (7, 0)) (g_b0_2 : gr x b0 2 = some b0_2) (k_b0_2 : kk K b0_2 = some (4, 0)) (g_b0_9 : gr x b0 9 = some b0_9) (k_b0_9 : kk K b0_9 = some (2, 0)) (K0 : ((0 < gi x b0_2 0) → (mSV mX2_serve [.ref b0_9, .ref b0_2, .int (-1)] K x (fun y_2 => gr y_2 b0 9 = some b0_9 ∧ (Q (gi y_2 b0_9 4) y_2)))) ∧ (¬ (0 < gi x b0_2 0) → (Q (-2) x))) : mSI mX7_would [.ref b0] K x Q := by
  refine s_I (by decide) (by simp [Value.category]) (Nat.le_of_ble_eq_true rfl) ?_
  show mGM mX7_would 0 [some (.ref b0)] [] (hp K x) (PI K Q)
  refine r_aload_n (pc := 0) dX7_would_0 rfl ?_
  refine s_VI (pc := 1) mX7_hasText (ci := 7) (a := b0) (As := []) dX7_would_1 lk_X7_121 in_X7_hasText mo_X7_hasText ⟨by decide, rfl⟩ ⟨by decide, by decide⟩ (Nat.le_of_ble_eq_true rfl) k_b0 (sp_X7_hasText k_b0 g_b0_2 k_b0_2 ?_)
  refine r_if_ne (pc := 4) (tgt := 10) dX7_would_4 (by decide) (fun q => ?_) (fun q => ?_)
  · have q := b2i_nz q
    have K0 := K0.1 q
    refine r_aload_n (pc := 10) dX7_would_10 rfl ?_
    refine s_getR (pc := 11) dX7_would_11 fl_X7_54 rfl k_b0 g_b0_9 ?_
    refine r_aload_n (pc := 14) dX7_would_14 rfl ?_
    refine s_getR (pc := 15) dX7_would_15 fl_X7_20 rfl k_b0 g_b0_2 ?_
    refine r_iconst (pc := 18) (v := (-1)) dX7_would_18 (by decide) ?_
    refine s_VV (pc := 19) mX2_serve (ci := 2) (a := b0_9) (As := [.ref b0_2, .int (-1)]) dX7_would_19 lk_X7_314 in_X2_serve mo_X2_serve ⟨by decide, rfl⟩ ⟨by decide, by decide⟩ (Nat.le_of_ble_eq_true rfl) k_b0_9 (mSV_mono K0 (fun y_2 K0 => ?_))
    refine r_aload_n (pc := 22) dX7_would_22 rfl ?_
    obtain ⟨g_3, K0⟩ := K0
    refine s_getR (pc := 23) dX7_would_23 fl_X7_54 rfl k_b0 g_3 ?_
    refine s_getI (pc := 26) dX7_would_26 fl_X7_318 rfl k_b0_9 ?_
    exact s_iret rfl dX7_would_29 K0
  · have q := (b2i_z _).mp q
    have K0 := K0.2 q
    refine r_bipush (pc := 7) (v := (-2)) dX7_would_7 (by decide) ?_
    exact s_iret rfl dX7_would_9 K0
set_option maxHeartbeats 2000000 in
theorem v_X8_would_0 {K : Sh} {x : Cn} {Q : Int32 → Cn → Prop} {b0 : Nat} {b0_1 : Nat} {n_b0_1 : Nat} (k_b0 : kk K b0 = some (8, 0)) (g_b0_1 : gr x b0 1 = some b0_1) (k_b0_1 : kk K b0_1 = some (20, n_b0_1)) (K0 : vp_in 0 n_b0_1 ∧ ((¬ (0 < gi x b0_1 0) → (Q (-2) x)) ∧ ((0 < gi x b0_1 0) → (mSI mX8_playsAside [.ref b0, .int (-1)] K x (fun r_4 y_3 => Q r_4 y_3))))) : mSI mX8_would [.ref b0] K x Q := by
  refine s_I (by decide) (by simp [Value.category]) (Nat.le_of_ble_eq_true rfl) ?_
  show mGM mX8_would 0 [some (.ref b0)] [] (hp K x) (PI K Q)
  refine r_aload_n (pc := 0) dX8_would_0 rfl ?_
  obtain ⟨i_1, K0⟩ := K0
  refine s_VI (pc := 1) mX8_isThere (ci := 8) (a := b0) (As := []) dX8_would_1 lk_X8_49 in_X8_isThere mo_X8_isThere ⟨by decide, rfl⟩ ⟨by decide, by decide⟩ (Nat.le_of_ble_eq_true rfl) k_b0 (sp_X8_isThere k_b0 g_b0_1 k_b0_1 i_1 ?_)
  refine r_if_eq (pc := 4) (tgt := 15) dX8_would_4 (by decide) (fun q => ?_) (fun q => ?_)
  · have q := (b2i_z _).mp q
    have K0 := K0.1 q
    refine r_bipush (pc := 15) (v := (-2)) dX8_would_15 (by decide) ?_
    exact s_iret rfl dX8_would_17 K0
  · have q := b2i_nz q
    have K0 := K0.2 q
    refine r_aload_n (pc := 7) dX8_would_7 rfl ?_
    refine r_iconst (pc := 8) (v := (-1)) dX8_would_8 (by decide) ?_
    refine s_VI (pc := 9) mX8_playsAside (ci := 8) (a := b0) (As := [.int (-1)]) dX8_would_9 lk_X8_354 in_X8_playsAside mo_X8_playsAside ⟨by decide, rfl⟩ ⟨by decide, by decide⟩ (Nat.le_of_ble_eq_true rfl) k_b0 (mSI_mono K0 (fun r_4 y_3 K0 => ?_))
    refine r_goto (pc := 12) (tgt := 17) dX8_would_12 (by decide) ?_
    exact s_iret rfl dX8_would_17 K0
set_option maxHeartbeats 2000000 in
theorem v_X7_helps_0 {K : Sh} {x : Cn} {Q : Int32 → Cn → Prop} {b0 : Nat} {l1 : Int32} {b0_2 : Nat} (k_b0 : kk K b0 = some (7, 0)) (g_b0_2 : gr x b0 2 = some b0_2) (k_b0_2 : kk K b0_2 = some (4, 0)) (K0 : (¬ (0 < gi x b0_2 0) → (Q (-2) x)) ∧ ((0 < gi x b0_2 0) → (((0 ≤ l1 ∧ l1 ≤ 1) → (GI mX7_helps 26 [some (.ref b0), some (.int l1), some (.int 0), some (.int (-1)), some (.int 0)] [] K x Q)) ∧ (¬ (0 ≤ l1 ∧ l1 ≤ 1) → (Q (-2) x))))) : mSI mX7_helps [.ref b0, .int l1] K x Q := by
  refine s_I (by decide) (by simp [Value.category]) (Nat.le_of_ble_eq_true rfl) ?_
  show mGM mX7_helps 0 [some (.ref b0), some (.int l1), none, none, none] [] (hp K x) (PI K Q)
  refine r_aload_n (pc := 0) dX7_helps_0 rfl ?_
  refine s_VI (pc := 1) mX7_hasText (ci := 7) (a := b0) (As := []) dX7_helps_1 lk_X7_121 in_X7_hasText mo_X7_hasText ⟨by decide, rfl⟩ ⟨by decide, by decide⟩ (Nat.le_of_ble_eq_true rfl) k_b0 (sp_X7_hasText k_b0 g_b0_2 k_b0_2 ?_)
  refine r_if_eq (pc := 4) (tgt := 16) dX7_helps_4 (by decide) (fun q => ?_) (fun q => ?_)
  · have q := (b2i_z _).mp q
    have K0 := K0.1 q
    refine r_bipush (pc := 16) (v := (-2)) dX7_helps_16 (by decide) ?_
    exact s_iret rfl dX7_helps_18 K0
  · have q := b2i_nz q
    have K0 := K0.2 q
    refine r_iload_n (pc := 7) dX7_helps_7 rfl ?_
    refine r_iconst (pc := 8) (v := 0) dX7_helps_8 (by decide) ?_
    refine r_iconst (pc := 9) (v := 1) dX7_helps_9 (by decide) ?_
    refine s_SI (pc := 10) mX7_isWithin (As := [.int l1, .int 0, .int 1]) dX7_helps_10 lk_X7_113 st_X7_isWithin mo_X7_isWithin ⟨by decide, by decide⟩ (Nat.le_of_ble_eq_true rfl) (sp_X7_isWithin  ?_)
    refine r_if_ne (pc := 13) (tgt := 19) dX7_helps_13 (by decide) (fun q => ?_) (fun q => ?_)
    · have q := b2i_nz q
      have K0 := K0.1 q
      refine r_iconst (pc := 19) (v := 0) dX7_helps_19 (by decide) ?_
      refine r_istore_n (pc := 20) dX7_helps_20 (by decide) ?_
      refine r_iconst (pc := 21) (L := [some (.ref b0), some (.int l1), some (.int 0), none, none]) (v := (-1)) dX7_helps_21 (by decide) ?_
      refine r_istore_n (pc := 22) dX7_helps_22 (by decide) ?_
      refine r_iconst (pc := 23) (L := [some (.ref b0), some (.int l1), some (.int 0), some (.int (-1)), none]) (v := 0) dX7_helps_23 (by decide) ?_
      refine r_istore (pc := 24) dX7_helps_24 (by decide) ?_
      exact r_le (L' := [some (.ref b0), some (.int l1), some (.int 0), some (.int (-1)), some (.int 0)]) ⟨rfl, ⟨rfl, ⟨rfl, ⟨rfl, ⟨rfl, trivial⟩⟩⟩⟩⟩ K0
    · have q := (b2i_z _).mp q
      have K0 := K0.2 q
      refine r_bipush (pc := 16) (v := (-2)) dX7_helps_16 (by decide) ?_
      exact s_iret rfl dX7_helps_18 K0
set_option maxHeartbeats 2000000 in
theorem v_X7_helps_26 {K : Sh} {x : Cn} {Q : Int32 → Cn → Prop} {b0 : Nat} {l1 : Int32} {l2 : Int32} {l3 : Int32} {l4 : Int32} {b0_9 : Nat} {b0_2 : Nat} (k_b0 : kk K b0 = some (7, 0)) (g_b0_9 : gr x b0 9 = some b0_9) (g_b0_2 : gr x b0 2 = some b0_2) (k_b0_9 : kk K b0_9 = some (2, 0)) (K0 : (24 ≤ l4 → ((¬ l1 = 0 → (Q l3 x)) ∧ (l1 = 0 → (Q l2 x)))) ∧ (¬ 24 ≤ l4 → (mSV mX2_serve [.ref b0_9, .ref b0_2, .int l4] K x (fun y_3 => gr y_3 b0 9 = some b0_9 ∧ (((gi y_3 b0_9 4) ≤ l3 → (GI mX7_helps 26 [some (.ref b0), some (.int l1), some (.int l2), some (.int l3), some (.int (l4 + 1))] [] K y_3 Q)) ∧ (¬ (gi y_3 b0_9 4) ≤ l3 → (GI mX7_helps 26 [some (.ref b0), some (.int l1), some (.int l4), some (.int (gi y_3 b0_9 4)), some (.int (l4 + 1))] [] K y_3 Q))))))) : GI mX7_helps 26 [some (.ref b0), some (.int l1), some (.int l2), some (.int l3), some (.int l4)] [] K x Q := by
  show mGM mX7_helps 26 [some (.ref b0), some (.int l1), some (.int l2), some (.int l3), some (.int l4)] [] (hp K x) (PI K Q)
  refine r_iload (pc := 26) dX7_helps_26 rfl ?_
  refine r_bipush (pc := 28) (v := 24) dX7_helps_28 (by decide) ?_
  refine r_icmp_ge (pc := 30) (tgt := 74) dX7_helps_30 (by decide) (fun q => ?_) (fun q => ?_)
  · have K0 := K0.1 q
    refine r_iload_n (pc := 74) dX7_helps_74 rfl ?_
    refine r_if_ne (pc := 75) (tgt := 82) dX7_helps_75 (by decide) (fun q => ?_) (fun q => ?_)
    · have K0 := K0.1 q
      refine r_iload_n (pc := 82) dX7_helps_82 rfl ?_
      exact s_iret rfl dX7_helps_83 K0
    · have K0 := K0.2 q
      refine r_iload_n (pc := 78) dX7_helps_78 rfl ?_
      refine r_goto (pc := 79) (tgt := 83) dX7_helps_79 (by decide) ?_
      exact s_iret rfl dX7_helps_83 K0
  · have K0 := K0.2 q
    refine r_aload_n (pc := 33) dX7_helps_33 rfl ?_
    refine s_getR (pc := 34) dX7_helps_34 fl_X7_54 rfl k_b0 g_b0_9 ?_
    refine r_aload_n (pc := 37) dX7_helps_37 rfl ?_
    refine s_getR (pc := 38) dX7_helps_38 fl_X7_20 rfl k_b0 g_b0_2 ?_
    refine r_iload (pc := 41) dX7_helps_41 rfl ?_
    refine s_VV (pc := 43) mX2_serve (ci := 2) (a := b0_9) (As := [.ref b0_2, .int l4]) dX7_helps_43 lk_X7_314 in_X2_serve mo_X2_serve ⟨by decide, rfl⟩ ⟨by decide, by decide⟩ (Nat.le_of_ble_eq_true rfl) k_b0_9 (mSV_mono K0 (fun y_3 K0 => ?_))
    refine r_aload_n (pc := 46) dX7_helps_46 rfl ?_
    obtain ⟨g_4, K0⟩ := K0
    refine s_getR (pc := 47) dX7_helps_47 fl_X7_54 rfl k_b0 g_4 ?_
    refine s_getI (pc := 50) dX7_helps_50 fl_X7_318 rfl k_b0_9 ?_
    refine r_iload_n (pc := 53) dX7_helps_53 rfl ?_
    refine r_icmp_le (pc := 54) (tgt := 68) dX7_helps_54 (by decide) (fun q => ?_) (fun q => ?_)
    · have K0 := K0.1 q
      refine r_iinc (pc := 68) (v := l4 + 1) dX7_helps_68 rfl rfl (by decide) ?_
      refine r_goto (pc := 71) (L := [some (.ref b0), some (.int l1), some (.int l2), some (.int l3), some (.int (l4 + 1))]) (tgt := 26) dX7_helps_71 (by decide) ?_
      exact r_le (L' := [some (.ref b0), some (.int l1), some (.int l2), some (.int l3), some (.int (l4 + 1))]) ⟨rfl, ⟨rfl, ⟨rfl, ⟨rfl, ⟨rfl, trivial⟩⟩⟩⟩⟩ K0
    · have K0 := K0.2 q
      refine r_aload_n (pc := 57) dX7_helps_57 rfl ?_
      refine s_getR (pc := 58) dX7_helps_58 fl_X7_54 rfl k_b0 g_4 ?_
      refine s_getI (pc := 61) dX7_helps_61 fl_X7_318 rfl k_b0_9 ?_
      refine r_istore_n (pc := 64) dX7_helps_64 (by decide) ?_
      refine r_iload (pc := 65) (L := [some (.ref b0), some (.int l1), some (.int l2), some (.int (gi y_3 b0_9 4)), some (.int l4)]) dX7_helps_65 rfl ?_
      refine r_istore_n (pc := 67) dX7_helps_67 (by decide) ?_
      refine r_iinc (pc := 68) (L := [some (.ref b0), some (.int l1), some (.int l4), some (.int (gi y_3 b0_9 4)), some (.int l4)]) (v := l4 + 1) dX7_helps_68 rfl rfl (by decide) ?_
      refine r_goto (pc := 71) (L := [some (.ref b0), some (.int l1), some (.int l4), some (.int (gi y_3 b0_9 4)), some (.int (l4 + 1))]) (tgt := 26) dX7_helps_71 (by decide) ?_
      exact r_le (L' := [some (.ref b0), some (.int l1), some (.int l4), some (.int (gi y_3 b0_9 4)), some (.int (l4 + 1))]) ⟨rfl, ⟨rfl, ⟨rfl, ⟨rfl, ⟨rfl, trivial⟩⟩⟩⟩⟩ K0
set_option maxHeartbeats 2000000 in
theorem v_X8_helps_0 {K : Sh} {x : Cn} {Q : Int32 → Cn → Prop} {b0 : Nat} {l1 : Int32} {b0_1 : Nat} {n_b0_1 : Nat} (k_b0 : kk K b0 = some (8, 0)) (g_b0_1 : gr x b0 1 = some b0_1) (k_b0_1 : kk K b0_1 = some (20, n_b0_1)) (K0 : vp_in 0 n_b0_1 ∧ ((¬ (0 < gi x b0_1 0) → (Q (-2) x)) ∧ ((0 < gi x b0_1 0) → (((0 ≤ l1 ∧ l1 ≤ 1) → (GI mX8_helps 27 [some (.ref b0), some (.int l1), some (.int 0), some (.int (-1)), some (.int 0), none] [] K x Q)) ∧ (¬ (0 ≤ l1 ∧ l1 ≤ 1) → (Q (-2) x)))))) : mSI mX8_helps [.ref b0, .int l1] K x Q := by
  refine s_I (by decide) (by simp [Value.category]) (Nat.le_of_ble_eq_true rfl) ?_
  show mGM mX8_helps 0 [some (.ref b0), some (.int l1), none, none, none, none] [] (hp K x) (PI K Q)
  refine r_aload_n (pc := 0) dX8_helps_0 rfl ?_
  obtain ⟨i_1, K0⟩ := K0
  refine s_VI (pc := 1) mX8_isThere (ci := 8) (a := b0) (As := []) dX8_helps_1 lk_X8_49 in_X8_isThere mo_X8_isThere ⟨by decide, rfl⟩ ⟨by decide, by decide⟩ (Nat.le_of_ble_eq_true rfl) k_b0 (sp_X8_isThere k_b0 g_b0_1 k_b0_1 i_1 ?_)
  refine r_if_eq (pc := 4) (tgt := 17) dX8_helps_4 (by decide) (fun q => ?_) (fun q => ?_)
  · have q := (b2i_z _).mp q
    have K0 := K0.1 q
    refine r_bipush (pc := 17) (v := (-2)) dX8_helps_17 (by decide) ?_
    exact s_iret rfl dX8_helps_19 K0
  · have q := b2i_nz q
    have K0 := K0.2 q
    refine r_iload_n (pc := 7) dX8_helps_7 rfl ?_
    refine r_i2l (pc := 8) dX8_helps_8 ?_
    refine r_lconst (pc := 9) (v := 0) dX8_helps_9 (by decide) ?_
    refine r_lconst (pc := 10) (v := 1) dX8_helps_10 (by decide) ?_
    refine s_SI (pc := 11) mX8_in (As := [.long ((l1 : Int32).toInt64), .long 0, .long 1]) dX8_helps_11 lk_X8_45 st_X8_in mo_X8_in ⟨by decide, by decide⟩ (Nat.le_of_ble_eq_true rfl) (sq_X8_in (v := l1) (lo := 0) (hi := 1) rfl (by decide) (by decide) ?_)
    refine r_if_ne (pc := 14) (tgt := 20) dX8_helps_14 (by decide) (fun q => ?_) (fun q => ?_)
    · have q := b2i_nz q
      have K0 := K0.1 q
      refine r_iconst (pc := 20) (v := 0) dX8_helps_20 (by decide) ?_
      refine r_istore_n (pc := 21) dX8_helps_21 (by decide) ?_
      refine r_iconst (pc := 22) (L := [some (.ref b0), some (.int l1), some (.int 0), none, none, none]) (v := (-1)) dX8_helps_22 (by decide) ?_
      refine r_istore_n (pc := 23) dX8_helps_23 (by decide) ?_
      refine r_iconst (pc := 24) (L := [some (.ref b0), some (.int l1), some (.int 0), some (.int (-1)), none, none]) (v := 0) dX8_helps_24 (by decide) ?_
      refine r_istore (pc := 25) dX8_helps_25 (by decide) ?_
      exact r_le (L' := [some (.ref b0), some (.int l1), some (.int 0), some (.int (-1)), some (.int 0), none]) ⟨rfl, ⟨rfl, ⟨rfl, ⟨rfl, ⟨rfl, trivial⟩⟩⟩⟩⟩ K0
    · have q := (b2i_z _).mp q
      have K0 := K0.2 q
      refine r_bipush (pc := 17) (v := (-2)) dX8_helps_17 (by decide) ?_
      exact s_iret rfl dX8_helps_19 K0
set_option maxHeartbeats 2000000 in
theorem v_X8_helps_27 {K : Sh} {x : Cn} {Q : Int32 → Cn → Prop} {b0 : Nat} {l1 : Int32} {l2 : Int32} {l3 : Int32} {l4 : Int32}  (k_b0 : kk K b0 = some (8, 0)) (K0 : (24 ≤ l4 → ((¬ l1 = 0 → (Q l3 x)) ∧ (l1 = 0 → (Q l2 x)))) ∧ (¬ 24 ≤ l4 → (mSI mX8_playsAside [.ref b0, .int l4] K x (fun r_4 y_3 => (l3 < r_4 → (GI mX8_helps 27 [some (.ref b0), some (.int l1), some (.int l4), some (.int r_4), some (.int (l4 + 1)), none] [] K y_3 Q)) ∧ (¬ l3 < r_4 → (GI mX8_helps 27 [some (.ref b0), some (.int l1), some (.int l2), some (.int l3), some (.int (l4 + 1)), none] [] K y_3 Q)))))) : GI mX8_helps 27 [some (.ref b0), some (.int l1), some (.int l2), some (.int l3), some (.int l4), none] [] K x Q := by
  show mGM mX8_helps 27 [some (.ref b0), some (.int l1), some (.int l2), some (.int l3), some (.int l4), none] [] (hp K x) (PI K Q)
  refine r_iload (pc := 27) dX8_helps_27 rfl ?_
  refine r_bipush (pc := 29) (v := 24) dX8_helps_29 (by decide) ?_
  refine r_icmp_ge (pc := 31) (tgt := 63) dX8_helps_31 (by decide) (fun q => ?_) (fun q => ?_)
  · have K0 := K0.1 q
    refine r_iload_n (pc := 63) dX8_helps_63 rfl ?_
    refine r_if_ne (pc := 64) (tgt := 71) dX8_helps_64 (by decide) (fun q => ?_) (fun q => ?_)
    · have K0 := K0.1 q
      refine r_iload_n (pc := 71) dX8_helps_71 rfl ?_
      exact s_iret rfl dX8_helps_72 K0
    · have K0 := K0.2 q
      refine r_iload_n (pc := 67) dX8_helps_67 rfl ?_
      refine r_goto (pc := 68) (tgt := 72) dX8_helps_68 (by decide) ?_
      exact s_iret rfl dX8_helps_72 K0
  · have K0 := K0.2 q
    refine r_aload_n (pc := 34) dX8_helps_34 rfl ?_
    refine r_iload (pc := 35) dX8_helps_35 rfl ?_
    refine s_VI (pc := 37) mX8_playsAside (ci := 8) (a := b0) (As := [.int l4]) dX8_helps_37 lk_X8_354 in_X8_playsAside mo_X8_playsAside ⟨by decide, rfl⟩ ⟨by decide, by decide⟩ (Nat.le_of_ble_eq_true rfl) k_b0 (mSI_mono K0 (fun r_4 y_3 K0 => ?_))
    refine r_istore (pc := 40) dX8_helps_40 (by decide) ?_
    refine r_iload (pc := 42) (L := [some (.ref b0), some (.int l1), some (.int l2), some (.int l3), some (.int l4), some (.int r_4)]) dX8_helps_42 rfl ?_
    refine r_iload_n (pc := 44) dX8_helps_44 rfl ?_
    refine r_icmp_gt (pc := 45) (tgt := 51) dX8_helps_45 (by decide) (fun q => ?_) (fun q => ?_)
    · have K0 := K0.1 q
      refine r_iload (pc := 51) dX8_helps_51 rfl ?_
      refine r_istore_n (pc := 53) dX8_helps_53 (by decide) ?_
      refine r_iload (pc := 54) (L := [some (.ref b0), some (.int l1), some (.int l4), some (.int l3), some (.int l4), some (.int r_4)]) dX8_helps_54 rfl ?_
      refine r_istore_n (pc := 56) dX8_helps_56 (by decide) ?_
      refine r_iinc (pc := 57) (L := [some (.ref b0), some (.int l1), some (.int l4), some (.int r_4), some (.int l4), some (.int r_4)]) (v := l4 + 1) dX8_helps_57 rfl rfl (by decide) ?_
      refine r_goto (pc := 60) (L := [some (.ref b0), some (.int l1), some (.int l4), some (.int r_4), some (.int (l4 + 1)), some (.int r_4)]) (tgt := 27) dX8_helps_60 (by decide) ?_
      exact r_le (L' := [some (.ref b0), some (.int l1), some (.int l4), some (.int r_4), some (.int (l4 + 1)), none]) ⟨rfl, ⟨rfl, ⟨rfl, ⟨rfl, ⟨rfl, trivial⟩⟩⟩⟩⟩ K0
    · have K0 := K0.2 q
      refine r_goto (pc := 48) (tgt := 57) dX8_helps_48 (by decide) ?_
      refine r_iinc (pc := 57) (v := l4 + 1) dX8_helps_57 rfl rfl (by decide) ?_
      refine r_goto (pc := 60) (L := [some (.ref b0), some (.int l1), some (.int l2), some (.int l3), some (.int (l4 + 1)), some (.int r_4)]) (tgt := 27) dX8_helps_60 (by decide) ?_
      exact r_le (L' := [some (.ref b0), some (.int l1), some (.int l2), some (.int l3), some (.int (l4 + 1)), none]) ⟨rfl, ⟨rfl, ⟨rfl, ⟨rfl, ⟨rfl, trivial⟩⟩⟩⟩⟩ K0
set_option maxHeartbeats 2000000 in
theorem v_X7_turn_0 {K : Sh} {x : Cn} {Q : Int32 → Cn → Prop} {b0 : Nat} {l1 : Int32} {b0_2 : Nat} {b0_9 : Nat} (k_b0 : kk K b0 = some (7, 0)) (g_b0_2 : gr x b0 2 = some b0_2) (k_b0_2 : kk K b0_2 = some (4, 0)) (g_b0_9 : gr x b0 9 = some b0_9) (k_b0_9 : kk K b0_9 = some (2, 0)) (K0 : ((0 ≤ l1 ∧ l1 < gi x b0_2 4) → (mSV mX2_serve [.ref b0_9, .ref b0_2, .int (-1)] K x (fun y_2 => gr y_2 b0 9 = some b0_9 ∧ (∃ c_4 : Nat, gr y_2 b0_9 2 = some c_4 ∧ (∃ n_7 : Nat, kk K c_4 = some (20, n_7) ∧ (vp_in l1 n_7 ∧ (Q (gi y_2 c_4 (l1 : Int32).toNatClampNeg) y_2))))))) ∧ (¬ (0 ≤ l1 ∧ l1 < gi x b0_2 4) → (Q (-2) x))) : mSI mX7_turn [.ref b0, .int l1] K x Q := by
  refine s_I (by decide) (by simp [Value.category]) (Nat.le_of_ble_eq_true rfl) ?_
  show mGM mX7_turn 0 [some (.ref b0), some (.int l1)] [] (hp K x) (PI K Q)
  refine r_aload_n (pc := 0) dX7_turn_0 rfl ?_
  refine r_iload_n (pc := 1) dX7_turn_1 rfl ?_
  refine s_VI (pc := 2) mX7_isAsk (ci := 7) (a := b0) (As := [.int l1]) dX7_turn_2 lk_X7_173 in_X7_isAsk mo_X7_isAsk ⟨by decide, rfl⟩ ⟨by decide, by decide⟩ (Nat.le_of_ble_eq_true rfl) k_b0 (sp_X7_isAsk k_b0 g_b0_2 k_b0_2 ?_)
  refine r_if_ne (pc := 5) (tgt := 11) dX7_turn_5 (by decide) (fun q => ?_) (fun q => ?_)
  · have q := b2i_nz q
    have K0 := K0.1 q
    refine r_aload_n (pc := 11) dX7_turn_11 rfl ?_
    refine s_getR (pc := 12) dX7_turn_12 fl_X7_54 rfl k_b0 g_b0_9 ?_
    refine r_aload_n (pc := 15) dX7_turn_15 rfl ?_
    refine s_getR (pc := 16) dX7_turn_16 fl_X7_20 rfl k_b0 g_b0_2 ?_
    refine r_iconst (pc := 19) (v := (-1)) dX7_turn_19 (by decide) ?_
    refine s_VV (pc := 20) mX2_serve (ci := 2) (a := b0_9) (As := [.ref b0_2, .int (-1)]) dX7_turn_20 lk_X7_314 in_X2_serve mo_X2_serve ⟨by decide, rfl⟩ ⟨by decide, by decide⟩ (Nat.le_of_ble_eq_true rfl) k_b0_9 (mSV_mono K0 (fun y_2 K0 => ?_))
    refine r_aload_n (pc := 23) dX7_turn_23 rfl ?_
    obtain ⟨g_3, K0⟩ := K0
    refine s_getR (pc := 24) dX7_turn_24 fl_X7_54 rfl k_b0 g_3 ?_
    obtain ⟨c_4, g_5, K0⟩ := K0
    refine s_getR (pc := 27) dX7_turn_27 fl_X7_321 rfl k_b0_9 g_5 ?_
    refine r_iload_n (pc := 30) dX7_turn_30 rfl ?_
    obtain ⟨n_7, e_6, K0⟩ := K0
    obtain ⟨i_8, K0⟩ := K0
    refine s_iald (pc := 31) dX7_turn_31 e_6 i_8 ?_
    exact s_iret rfl dX7_turn_32 K0
  · have q := (b2i_z _).mp q
    have K0 := K0.2 q
    refine r_bipush (pc := 8) (v := (-2)) dX7_turn_8 (by decide) ?_
    exact s_iret rfl dX7_turn_10 K0
set_option maxHeartbeats 2000000 in
theorem v_X8_turn_0 {K : Sh} {x : Cn} {Q : Int32 → Cn → Prop} {b0 : Nat} {l1 : Int32} {b0_1 : Nat} {n_b0_1 : Nat} (k_b0 : kk K b0 = some (8, 0)) (g_b0_1 : gr x b0 1 = some b0_1) (k_b0_1 : kk K b0_1 = some (20, n_b0_1)) (K0 : vp_in 3 n_b0_1 ∧ (((0 ≤ l1 ∧ l1 ≤ gi x b0_1 3 - 1) → (mSI mX8_playsAside [.ref b0, .int (-1)] K x (fun r_4 y_3 => ∃ c_5 : Nat, gr y_3 b0 16 = some c_5 ∧ (∃ n_8 : Nat, kk K c_5 = some (20, n_8) ∧ (vp_in l1 n_8 ∧ (Q (gi y_3 c_5 (l1 : Int32).toNatClampNeg) y_3)))))) ∧ (¬ (0 ≤ l1 ∧ l1 ≤ gi x b0_1 3 - 1) → (Q (-2) x)))) : mSI mX8_turn [.ref b0, .int l1] K x Q := by
  refine s_I (by decide) (by simp [Value.category]) (Nat.le_of_ble_eq_true rfl) ?_
  show mGM mX8_turn 0 [some (.ref b0), some (.int l1), none] [] (hp K x) (PI K Q)
  refine r_aload_n (pc := 0) dX8_turn_0 rfl ?_
  refine r_iload_n (pc := 1) dX8_turn_1 rfl ?_
  obtain ⟨i_1, K0⟩ := K0
  refine s_VI (pc := 2) mX8_isAsk (ci := 8) (a := b0) (As := [.int l1]) dX8_turn_2 lk_X8_281 in_X8_isAsk mo_X8_isAsk ⟨by decide, rfl⟩ ⟨by decide, by decide⟩ (Nat.le_of_ble_eq_true rfl) k_b0 (sp_X8_isAsk k_b0 g_b0_1 k_b0_1 i_1 ?_)
  refine r_if_ne (pc := 5) (tgt := 11) dX8_turn_5 (by decide) (fun q => ?_) (fun q => ?_)
  · have q := b2i_nz q
    have K0 := K0.1 q
    refine r_aload_n (pc := 11) dX8_turn_11 rfl ?_
    refine r_iconst (pc := 12) (v := (-1)) dX8_turn_12 (by decide) ?_
    refine s_VI (pc := 13) mX8_playsAside (ci := 8) (a := b0) (As := [.int (-1)]) dX8_turn_13 lk_X8_354 in_X8_playsAside mo_X8_playsAside ⟨by decide, rfl⟩ ⟨by decide, by decide⟩ (Nat.le_of_ble_eq_true rfl) k_b0 (mSI_mono K0 (fun r_4 y_3 K0 => ?_))
    refine r_istore_n (pc := 16) dX8_turn_16 (by decide) ?_
    refine r_aload_n (pc := 17) (L := [some (.ref b0), some (.int l1), some (.int r_4)]) dX8_turn_17 rfl ?_
    obtain ⟨c_5, g_6, K0⟩ := K0
    refine s_getR (pc := 18) dX8_turn_18 fl_X8_30 rfl k_b0 g_6 ?_
    refine r_iload_n (pc := 21) dX8_turn_21 rfl ?_
    obtain ⟨n_8, e_7, K0⟩ := K0
    obtain ⟨i_9, K0⟩ := K0
    refine s_iald (pc := 22) dX8_turn_22 e_7 i_9 ?_
    exact s_iret rfl dX8_turn_23 K0
  · have q := (b2i_z _).mp q
    have K0 := K0.2 q
    refine r_bipush (pc := 8) (v := (-2)) dX8_turn_8 (by decide) ?_
    exact s_iret rfl dX8_turn_10 K0
set_option maxHeartbeats 2000000 in
theorem v_X7_granted_0 {K : Sh} {x : Cn} {Q : Int32 → Cn → Prop} {b0 : Nat} {l1 : Int32} {b0_2 : Nat} {b0_9 : Nat} (k_b0 : kk K b0 = some (7, 0)) (g_b0_2 : gr x b0 2 = some b0_2) (k_b0_2 : kk K b0_2 = some (4, 0)) (g_b0_9 : gr x b0 9 = some b0_9) (k_b0_9 : kk K b0_9 = some (2, 0)) (K0 : ((0 ≤ l1 ∧ l1 < gi x b0_2 4) → (mSV mX2_serve [.ref b0_9, .ref b0_2, .int (-1)] K x (fun y_2 => gr y_2 b0 9 = some b0_9 ∧ (∃ c_4 : Nat, gr y_2 b0_9 3 = some c_4 ∧ (∃ n_7 : Nat, kk K c_4 = some (20, n_7) ∧ (vp_in l1 n_7 ∧ (Q (gi y_2 c_4 (l1 : Int32).toNatClampNeg) y_2))))))) ∧ (¬ (0 ≤ l1 ∧ l1 < gi x b0_2 4) → (Q (-2) x))) : mSI mX7_granted [.ref b0, .int l1] K x Q := by
  refine s_I (by decide) (by simp [Value.category]) (Nat.le_of_ble_eq_true rfl) ?_
  show mGM mX7_granted 0 [some (.ref b0), some (.int l1)] [] (hp K x) (PI K Q)
  refine r_aload_n (pc := 0) dX7_granted_0 rfl ?_
  refine r_iload_n (pc := 1) dX7_granted_1 rfl ?_
  refine s_VI (pc := 2) mX7_isAsk (ci := 7) (a := b0) (As := [.int l1]) dX7_granted_2 lk_X7_173 in_X7_isAsk mo_X7_isAsk ⟨by decide, rfl⟩ ⟨by decide, by decide⟩ (Nat.le_of_ble_eq_true rfl) k_b0 (sp_X7_isAsk k_b0 g_b0_2 k_b0_2 ?_)
  refine r_if_ne (pc := 5) (tgt := 11) dX7_granted_5 (by decide) (fun q => ?_) (fun q => ?_)
  · have q := b2i_nz q
    have K0 := K0.1 q
    refine r_aload_n (pc := 11) dX7_granted_11 rfl ?_
    refine s_getR (pc := 12) dX7_granted_12 fl_X7_54 rfl k_b0 g_b0_9 ?_
    refine r_aload_n (pc := 15) dX7_granted_15 rfl ?_
    refine s_getR (pc := 16) dX7_granted_16 fl_X7_20 rfl k_b0 g_b0_2 ?_
    refine r_iconst (pc := 19) (v := (-1)) dX7_granted_19 (by decide) ?_
    refine s_VV (pc := 20) mX2_serve (ci := 2) (a := b0_9) (As := [.ref b0_2, .int (-1)]) dX7_granted_20 lk_X7_314 in_X2_serve mo_X2_serve ⟨by decide, rfl⟩ ⟨by decide, by decide⟩ (Nat.le_of_ble_eq_true rfl) k_b0_9 (mSV_mono K0 (fun y_2 K0 => ?_))
    refine r_aload_n (pc := 23) dX7_granted_23 rfl ?_
    obtain ⟨g_3, K0⟩ := K0
    refine s_getR (pc := 24) dX7_granted_24 fl_X7_54 rfl k_b0 g_3 ?_
    obtain ⟨c_4, g_5, K0⟩ := K0
    refine s_getR (pc := 27) dX7_granted_27 fl_X7_324 rfl k_b0_9 g_5 ?_
    refine r_iload_n (pc := 30) dX7_granted_30 rfl ?_
    obtain ⟨n_7, e_6, K0⟩ := K0
    obtain ⟨i_8, K0⟩ := K0
    refine s_iald (pc := 31) dX7_granted_31 e_6 i_8 ?_
    exact s_iret rfl dX7_granted_32 K0
  · have q := (b2i_z _).mp q
    have K0 := K0.2 q
    refine r_bipush (pc := 8) (v := (-2)) dX7_granted_8 (by decide) ?_
    exact s_iret rfl dX7_granted_10 K0
set_option maxHeartbeats 2000000 in
theorem v_X8_granted_0 {K : Sh} {x : Cn} {Q : Int32 → Cn → Prop} {b0 : Nat} {l1 : Int32} {b0_1 : Nat} {n_b0_1 : Nat} (k_b0 : kk K b0 = some (8, 0)) (g_b0_1 : gr x b0 1 = some b0_1) (k_b0_1 : kk K b0_1 = some (20, n_b0_1)) (K0 : vp_in 3 n_b0_1 ∧ (((0 ≤ l1 ∧ l1 ≤ gi x b0_1 3 - 1) → (mSI mX8_playsAside [.ref b0, .int (-1)] K x (fun r_4 y_3 => ∃ c_5 : Nat, gr y_3 b0 17 = some c_5 ∧ (∃ n_8 : Nat, kk K c_5 = some (20, n_8) ∧ (vp_in l1 n_8 ∧ (Q (gi y_3 c_5 (l1 : Int32).toNatClampNeg) y_3)))))) ∧ (¬ (0 ≤ l1 ∧ l1 ≤ gi x b0_1 3 - 1) → (Q (-2) x)))) : mSI mX8_granted [.ref b0, .int l1] K x Q := by
  refine s_I (by decide) (by simp [Value.category]) (Nat.le_of_ble_eq_true rfl) ?_
  show mGM mX8_granted 0 [some (.ref b0), some (.int l1), none] [] (hp K x) (PI K Q)
  refine r_aload_n (pc := 0) dX8_granted_0 rfl ?_
  refine r_iload_n (pc := 1) dX8_granted_1 rfl ?_
  obtain ⟨i_1, K0⟩ := K0
  refine s_VI (pc := 2) mX8_isAsk (ci := 8) (a := b0) (As := [.int l1]) dX8_granted_2 lk_X8_281 in_X8_isAsk mo_X8_isAsk ⟨by decide, rfl⟩ ⟨by decide, by decide⟩ (Nat.le_of_ble_eq_true rfl) k_b0 (sp_X8_isAsk k_b0 g_b0_1 k_b0_1 i_1 ?_)
  refine r_if_ne (pc := 5) (tgt := 11) dX8_granted_5 (by decide) (fun q => ?_) (fun q => ?_)
  · have q := b2i_nz q
    have K0 := K0.1 q
    refine r_aload_n (pc := 11) dX8_granted_11 rfl ?_
    refine r_iconst (pc := 12) (v := (-1)) dX8_granted_12 (by decide) ?_
    refine s_VI (pc := 13) mX8_playsAside (ci := 8) (a := b0) (As := [.int (-1)]) dX8_granted_13 lk_X8_354 in_X8_playsAside mo_X8_playsAside ⟨by decide, rfl⟩ ⟨by decide, by decide⟩ (Nat.le_of_ble_eq_true rfl) k_b0 (mSI_mono K0 (fun r_4 y_3 K0 => ?_))
    refine r_istore_n (pc := 16) dX8_granted_16 (by decide) ?_
    refine r_aload_n (pc := 17) (L := [some (.ref b0), some (.int l1), some (.int r_4)]) dX8_granted_17 rfl ?_
    obtain ⟨c_5, g_6, K0⟩ := K0
    refine s_getR (pc := 18) dX8_granted_18 fl_X8_33 rfl k_b0 g_6 ?_
    refine r_iload_n (pc := 21) dX8_granted_21 rfl ?_
    obtain ⟨n_8, e_7, K0⟩ := K0
    obtain ⟨i_9, K0⟩ := K0
    refine s_iald (pc := 22) dX8_granted_22 e_7 i_9 ?_
    exact s_iret rfl dX8_granted_23 K0
  · have q := (b2i_z _).mp q
    have K0 := K0.2 q
    refine r_bipush (pc := 8) (v := (-2)) dX8_granted_8 (by decide) ?_
    exact s_iret rfl dX8_granted_10 K0
theorem eq_first : Both mX7_first mX8_first [] := by
  intro x R
  obtain ⟨W, C, S, A, N, E, -, -⟩ := R.sea
  have hn := E.nums
  have hA : A ≤ 24 := hn.2.2.2.2.2.2.2.1
  have I118 : Isea 118 := Or.inr (Or.inr (Or.inl rfl))
  refine v_X7_first_0 k0 R.1.2.1 (ks0 E.1) R.1.c9 k117 ?_
  rw [hn.1]
  refine ⟨fun z => ?_, fun z => v_X8_first_0 km R.2.1.1 km1 ⟨v0 (k := 0) (by decide) rfl rfl, fun u => absurd (by rw [(Rel.t2 E).1] at u; exact u) z, fun _ => ⟨rfl, R⟩⟩⟩
  refine v_X2_firstOf_0 k117 R.1.pl.1 (ks0 I118) (sp_X4_copyFrom I118 R.1.2.2.2.2.2.2.2.2.2.2.2.2.2.2.2.2.2.2.1 E (by decide) (fun v fv Ev => ?_))
  refine sp_X2_countSlots (R.1.pl.keep fv.1) Ev.b (fun w hw lw => ?_)
  have fw : PCr x w := fv.pc.tr (hw.pc (by decide))
  have Ew : SEB w 118 (gi x 718) W C S A N := Ev.b.eqx hw (Or.inr (Or.inr (by decide)))
  refine v_X2_allAsks_0 k117 (R.1.pl.keep fw.1).1 (ks0 I118) ?_
  rw [Ew.nums.2.2.2.1]
  refine sp_X2_chosen (R.1.pl.keep fw.1) Ew lw (u := usd (fun _ => -1)) (fun a ha => by rw [tb_alls A (by omega) a (by omega), decide_eq_true ha, usd_f.mpr rfl]; rfl) ?_
  have Rw := R.keep fw.kp
  have e718 : gi w 718 = gi x 718 := funext (fun i => fw.2 718 i (by omega))
  refine v_X8_first_0 km Rw.2.1.1 km1 ⟨v0 (k := 0) (by decide) rfl rfl, fun _ => ?_, fun u => absurd (by rw [e718, (Rel.t2 E).1]; exact z) u⟩
  refine sp_X8_begins Rw.2.1 (fun u u1 u2 u3 u4 => ?_)
  have fu : PFr w u := ⟨u1, fun a j a1 a2 a3 a4 a5 => u2 a j a3 a4 a5⟩
  have e2 : gi u 718 = gi x 718 := (funext (fun i => u2 718 i (by decide) (by decide) (by omega))).trans e718
  have Fu : WFB (gi u 718) W C S A N := by rw [e2]; exact E.2.2.2.b
  have hu : ∀ a, a < 24 → gi u 722 a = (fun _ => (-1 : Int32)) a := fun a ha => (u4 a ha).1
  have Ru : Rel u := Rw.keep fu.kp
  refine sp_X8_chosen Ru.2.1 km1 Fu hu ?_
  rw [e2]
  unfold chC
  refine ⟨fun z2 => ⟨by rw [if_neg z2], Ru⟩, fun z2 => sp_X8_chosen Ru.2.1 km1 Fu hu ⟨?_, Ru⟩⟩
  rw [if_pos z2, if_neg (by decide), e2]
theorem eq_would : Both mX7_would mX8_would [] := by
  intro x R
  obtain ⟨W, C, S, A, N, E, -, -⟩ := R.sea
  have hn := E.nums
  refine v_X7_would_0 k0 R.1.2.1 (ks0 E.1) R.1.c9 k117 ?_
  rw [hn.1]
  refine ⟨fun z => pl_cls R E (PCr.rf x) (Or.inl ⟨rfl, rfl⟩) (fun y fy cy => ⟨(R.1.keep fy.1).c9, ?_⟩), fun z => v_X8_would_0 km R.2.1.1 km1 ⟨v0 (k := 0) (by decide) rfl rfl, fun _ => ⟨rfl, R⟩, fun u => absurd (by rw [(Rel.t2 E).1] at u; exact u) z⟩⟩
  rw [cy.2.2.1]
  have Ry := R.keep fy.kp
  refine v_X8_would_0 km Ry.2.1.1 km1 ⟨v0 (k := 0) (by decide) rfl rfl, fun u => absurd (by rw [fy.2 718 0 (by omega), (Rel.t2 E).1]; exact z) u, fun _ => ?_⟩
  exact pl_ref R E fy (PFr.rf y) (mix_pc fy) (Or.inl ⟨rfl, rfl⟩) (fun u fu u1 u2 u3 u4 => ⟨rfl, Ry.keep fu.kp⟩)
theorem eq_turn (a : Int32) : Both mX7_turn mX8_turn [.int a] := by
  intro x R
  obtain ⟨W, C, S, A, N, E, -, -⟩ := R.sea
  have hn := E.nums
  have hA : A ≤ 24 := hn.2.2.2.2.2.2.2.1
  have t3 := (Rel.t2 E).2.2.2.1
  refine v_X7_turn_0 k0 R.1.2.1 (ks0 E.1) R.1.c9 k117 ?_
  rw [hn.2.2.2.1]
  refine ⟨fun z => ?_, fun z => v_X8_turn_0 km R.2.1.1 km1 ⟨v0 (k := 3) (by decide) rfl rfl, fun u => absurd (by rw [t3, inN' (by omega)] at u; exact u) z, fun _ => ⟨rfl, R⟩⟩⟩
  obtain ⟨b, hb, rfl⟩ := inN (by omega) z
  refine pl_cls R E (PCr.rf x) (Or.inl ⟨rfl, rfl⟩) (fun y fy cy => ⟨(R.1.keep fy.1).c9, 173, (R.1.pl.keep fy.1).2.2.1, 24, k173, vp_in_nI (by omega) (by decide), ?_⟩)
  have Ry := R.keep fy.kp
  refine v_X8_turn_0 km Ry.2.1.1 km1 ⟨v0 (k := 3) (by decide) rfl rfl, fun _ => ?_, fun u => absurd (by rw [fy.2 718 3 (by omega), t3, inN' (by omega)]; exact ⟨nI_pos' (by omega), nI_lt hb (by omega)⟩) u⟩
  refine pl_ref R E fy (PFr.rf y) (mix_pc fy) (Or.inl ⟨rfl, rfl⟩) (fun u fu u1 u2 u3 u4 => ⟨722, (Ry.2.1.keep fu.1).2.2.2.2.2.1, 24, km722, vp_in_nI (by omega) (by decide), ?_, Ry.keep fu.kp⟩)
  rw [nI_clamp (by omega), u3 b (by omega)]
  exact (cy.end (pl_wf E (Or.inl ⟨rfl, rfl⟩)) hb).1
theorem eq_granted (a : Int32) : Both mX7_granted mX8_granted [.int a] := by
  intro x R
  obtain ⟨W, C, S, A, N, E, -, -⟩ := R.sea
  have hn := E.nums
  have hA : A ≤ 24 := hn.2.2.2.2.2.2.2.1
  have t3 := (Rel.t2 E).2.2.2.1
  refine v_X7_granted_0 k0 R.1.2.1 (ks0 E.1) R.1.c9 k117 ?_
  rw [hn.2.2.2.1]
  refine ⟨fun z => ?_, fun z => v_X8_granted_0 km R.2.1.1 km1 ⟨v0 (k := 3) (by decide) rfl rfl, fun u => absurd (by rw [t3, inN' (by omega)] at u; exact u) z, fun _ => ⟨rfl, R⟩⟩⟩
  obtain ⟨b, hb, rfl⟩ := inN (by omega) z
  refine pl_cls R E (PCr.rf x) (Or.inl ⟨rfl, rfl⟩) (fun y fy cy => ⟨(R.1.keep fy.1).c9, 174, (R.1.pl.keep fy.1).2.2.2, 24, k174, vp_in_nI (by omega) (by decide), ?_⟩)
  have Ry := R.keep fy.kp
  refine v_X8_granted_0 km Ry.2.1.1 km1 ⟨v0 (k := 3) (by decide) rfl rfl, fun _ => ?_, fun u => absurd (by rw [fy.2 718 3 (by omega), t3, inN' (by omega)]; exact ⟨nI_pos' (by omega), nI_lt hb (by omega)⟩) u⟩
  refine pl_ref R E fy (PFr.rf y) (mix_pc fy) (Or.inl ⟨rfl, rfl⟩) (fun u fu u1 u2 u3 u4 => ⟨723, (Ry.2.1.keep fu.1).2.2.2.2.2.2.1, 24, km723, vp_in_nI (by omega) (by decide), ?_, Ry.keep fu.kp⟩)
  rw [nI_clamp (by omega), u4 b (by omega)]
  exact (cy.end (pl_wf E (Or.inl ⟨rfl, rfl⟩)) hb).2
theorem eq_helps (a : Int32) : Both mX7_helps mX8_helps [.int a] := by
  intro x R
  obtain ⟨W, C, S, A, N, E, -, -⟩ := R.sea
  have hn := E.nums
  have t0 := (Rel.t2 E).1
  refine v_X7_helps_0 k0 R.1.2.1 (ks0 E.1) ?_
  rw [hn.1]
  refine ⟨fun z => v_X8_helps_0 km R.2.1.1 km1 ⟨v0 (k := 0) (by decide) rfl rfl, fun _ => ⟨rfl, R⟩, fun u => absurd (by rw [t0] at u; exact u) z⟩, fun z1 => ⟨fun z2 => ?_, fun z2 => v_X8_helps_0 km R.2.1.1 km1 ⟨v0 (k := 0) (by decide) rfl rfl, fun _ => ⟨rfl, R⟩, fun _ => ⟨fun u => absurd u z2, fun _ => ⟨rfl, R⟩⟩⟩⟩⟩
  let gn : Nat → Int32 := fun h => nI (accT (plS A N) A (pl0 (hlT (mixT x) h) S)).2.2.2.2
  let st : Nat → Int32 × Int32 → Int32 × Int32 := fun h t => if t.2 < gn h then (nI h, gn h) else t
  refine lp_acc st (fun h t => ∀ y, PCr x y → GI mX7_helps 26 [some (.ref 0), some (.int a), some (.int t.1), some (.int t.2), some (.int (nI h))] [] KW y _) 24 (0, -1) ?_ (fun h t hh n1 => ?_) x (PCr.rf x)
  · intro y fy
    have Ry := R.keep fy.kp
    have ref : ∀ v, v = (if a = 0 then (accT st 24 (0, -1)).1 else (accT st 24 (0, -1)).2) → mSI mX8_helps [.ref 717, .int a] KW y (fun r' z => v = r' ∧ Rel z) := by
      intro v hv
      refine v_X8_helps_0 km Ry.2.1.1 km1 ⟨v0 (k := 0) (by decide) rfl rfl, fun u => absurd (by rw [fy.2 718 0 (by omega), t0]; exact z1) u, fun _ => ⟨fun _ => ?_, fun u => absurd z2 u⟩⟩
      refine lp_acc st (fun h t => ∀ z, PFr y z → mixT z = mixT x → GI mX8_helps 27 [some (.ref 717), some (.int a), some (.int t.1), some (.int t.2), some (.int (nI h)), none] [] KW z _) 24 (0, -1) ?_ (fun h t hh n1 => ?_) y (PFr.rf y) (mix_pc fy)
      · intro z fz hz
        exact v_X8_helps_27 km ⟨fun _ => ⟨fun u => ⟨by rw [hv, if_neg u], Ry.keep fz.kp⟩, fun u => ⟨by rw [hv, if_pos u], Ry.keep fz.kp⟩⟩, fun u => absurd (Int32.le_refl _) u⟩
      · intro z fz hz
        refine v_X8_helps_27 km ⟨fun u => absurd u (nI_ge (b := 24) hh (by decide)), fun _ => ?_⟩
        rw [nI_1]
        refine pl_ref R E fy fz hz (T0 := hlT (mixT x) h) (Or.inr ⟨h, hh, rfl, rfl⟩) (fun u fu hu u1 u2 u3 => ⟨fun c => n1 (nI h, gn h) (if_pos c) u fu hu, fun c => n1 t (if_neg c) u fu hu⟩)
    exact v_X7_helps_26 k0 (R.1.keep fy.1).c9 (R.1.keep fy.1).2.1 k117 ⟨fun _ => ⟨fun u => ref _ (by rw [if_neg u]), fun u => ref _ (by rw [if_pos u])⟩, fun u => absurd (Int32.le_refl _) u⟩
  · intro y fy
    refine v_X7_helps_26 k0 (R.1.keep fy.1).c9 (R.1.keep fy.1).2.1 k117 ⟨fun u => absurd u (nI_ge (b := 24) hh (by decide)), fun _ => ?_⟩
    rw [nI_1]
    refine pl_cls R E fy (T0 := hlT (mixT x) h) (Or.inr ⟨h, hh, rfl, rfl⟩) (fun z fz cz => ⟨(R.1.keep fz.1).c9, ?_⟩)
    rw [cz.2.2.1]
    exact ⟨fun c => n1 t (if_neg (Int32.not_lt.mpr c)) z fz, fun c => n1 (nI h, gn h) (if_pos (Int32.not_le.mp c)) z fz⟩
end
/-! 58.pool5.lean.txt -/
section
theorem AC.pc {x y z : Cn} {W C S A N n : Nat} {T : TT} {H : Nat → TT} (a : AC x y W C S A N n T H) (f : PCr y z) : AC x z W C S A N n T H :=
  ⟨fun b k b1 b2 b3 b4 => (f.2 b k (by omega)).trans (a.1 b k b1 b2 b3 b4), a.2.1.keep f.1, a.2.2.1.keep f.1, a.2.2.2.1.mv a.2.1 (f.2 0 5 (by omega)) (fun b k g1 g2 => f.2 b k (by omega)) (fun b k _ => by unfold gr; rw [f.1]) (fun _ _ => rfl), a.2.2.2.2.keep f.1 (fun b k g1 g2 _ => f.2 b k (by omega))⟩
theorem AC.rem2 {x y : Cn} {Q : Cn → Prop} {W C S A N n : Nat} {T : TT} {H : Nat → TT} (a : AC x y W C S A N n T H) (hT : ∀ c, c < C → T (54 + c) = gi x 718 (54 + c)) (k : ∀ z, AC x z W C S A N (pn n) T (push H n T) → (∀ b j, ¬ (177 ≤ b ∧ b < 717) → ¬ (b = 0 ∧ j = 5) → gi z b j = gi y b j) → (∀ b j, b ≠ 58 → gr z b j = gr y b j) → Q z) : mSV mX7_remember [.ref 0] KW y Q := by
  obtain ⟨a1, a2, a3, a4, a5⟩ := a
  have a4' : Hs y C T n H := ⟨a4.1, a4.2.1, fun j hj => by
    obtain ⟨q, W2, S2, A2, N2, q1, q2, q3⟩ := a4.2.2 j hj
    exact ⟨q, W2, S2, A2, N2, q1, q2, fun c hc => (q3 c hc).trans (hT c hc).symm⟩⟩
  refine sp_X7_remember a2 a5 a4' (fun z z1 z2 z3 z4 => k z ⟨fun b j b1 b2 b3 b4 => (z2 b j b3 b4).trans (a1 b j b1 b2 b3 b4), z1, ?_, ?_, a5.mv (fun b j g1 g2 => z3 b j (by omega)) (fun b j g1 g2 _ => z2 b j (by omega) (by omega)) (fun _ _ => rfl)⟩ z2 z3)
  · unfold MRf at a3 ⊢
    simp only [z3 717 _ (by decide)]
    exact a3
  · exact ⟨z4.1, z4.2.1, fun j hj => by
      obtain ⟨q, W2, S2, A2, N2, q1, q2, q3⟩ := z4.2.2 j hj
      exact ⟨q, W2, S2, A2, N2, q1, q2, fun c hc => (q3 c hc).trans (hT c hc)⟩⟩
theorem RS.pf {x y : Cn} {n : Nat} {T : TT} {H : Nat → TT} (r : RS x T n H) (f : PFr x y) : RS y T n H :=
  ⟨r.1.keep f.1, (funext (fun i => f.2 718 i (by decide) (by decide) (by decide) (by decide) (by omega))).trans r.2.1, (f.2 717 19 (by decide) (by decide) (by decide) (by decide) (by omega)).trans r.2.2.1, r.2.2.2.1, fun j hj i hi => (f.2 724 _ (by decide) (by decide) (by decide) (by decide) (by omega)).trans (r.2.2.2.2 j hj i hi)⟩
theorem PFr.rfr {x y : Cn} (f : PFr x y) : RFr x y := ⟨f.1, fun a k _ a2 a3 a4 a5 _ a7 => f.2 a k a2 a3 a4 a5 (fun u => a7 (by omega))⟩
theorem RS.keeps2 {x : Cn} {Q : Cn → Prop} {n : Nat} {T : TT} {H : Nat → TT} (r : RS x T n H) (k : ∀ y, RFr x y → (∀ a j, a ≠ 724 → ¬ (a = 717 ∧ j = 19) → gi y a j = gi x a j) → RS y T (pn n) (push H n T) → Q y) : mSV mX8_keeps [.ref 717] KW x Q := by
  refine sp_X8_keeps r.1 r.2.2.2.1 r.2.2.1 (fun y f1 f2 f3 f4 => k y f1 f2 ⟨r.1.keep f1.1, (funext (fun i => f2 718 i (by decide) (by omega))).trans r.2.1, f3, by unfold pn; split <;> have := r.2.2.2.1 <;> omega, fun j hj i hi => ?_⟩)
  rw [f4 j hj i hi, r.2.1]
  have hn := r.2.2.2.1
  have h2 := r.2.2.2.2
  unfold push pn at *
  by_cases c : n = 10
  · rw [if_pos c] at hj ⊢
    rw [if_pos c]
    by_cases c9 : j = 9
    · rw [if_pos c9, if_pos c9]
    · rw [if_neg c9, if_neg c9]; exact h2 (j + 1) (by omega) i hi
  · rw [if_neg c] at hj ⊢
    rw [if_neg c]
    by_cases c9 : j = n
    · rw [if_pos c9, if_pos c9]
    · rw [if_neg c9, if_neg c9]; exact h2 j (by omega) i hi
/-- the asks that were granted go, from the last on -/
def dpF (hr : TT) : Nat → TT × Nat → TT × Nat
  | 0, t => t
  | m + 1, t => dpF hr m (if hr m = -1 then t else (drT t.1 m t.2, t.2 - 1))
theorem dp_skip {hr : TT} {A : Nat} (h : ∀ a, A ≤ a → hr a = -1) : ∀ m, A ≤ m → ∀ t, dpF hr m t = dpF hr A t := by
  intro m
  induction m with
  | zero => intro hA t; rw [show A = 0 by omega]
  | succ m ih =>
    intro hA t
    by_cases c : A = m + 1
    · rw [c]
    · show dpF hr m (if hr m = -1 then t else (drT t.1 m t.2, t.2 - 1)) = _
      rw [if_pos (h m (by omega))]
      exact ih (by omega) t
theorem dp_off {hr : TT} : ∀ m t i, i < 350 → i ≠ 3 → (dpF hr m t).1 i = t.1 i := by
  intro m
  induction m with
  | zero => intro t i _ _; rfl
  | succ m ih =>
    intro t i hi h3
    show (dpF hr m (if hr m = -1 then t else (drT t.1 m t.2, t.2 - 1))).1 i = t.1 i
    rw [ih _ i hi h3]
    by_cases c : hr m = -1
    · rw [if_pos c]
    · rw [if_neg c]; exact drT_off h3 hi
set_option maxHeartbeats 2000000 in
theorem v_X2_carryOver_0 {K : Sh} {x : Cn} {Q : Cn → Prop} {b0 : Nat} {b1 : Nat} {b0_0 : Nat} (k_b0 : kk K b0 = some (2, 0)) (g_b0_0 : gr x b0 0 = some b0_0) (k_b1 : kk K b1 = some (4, 0)) (k_b0_0 : kk K b0_0 = some (4, 0)) (K0 : mSV mX4_copyFrom [.ref b1, .ref b0_0] K x (fun y_1 => gr y_1 b0 0 = some b0_0 ∧ (GV mX2_carryOver 18 [some (.ref b0), some (.ref b1), some (.int ((gi y_1 b0_0 4) - 1))] [] K y_1 Q))) : mSV mX2_carryOver [.ref b0, .ref b1] K x Q := by
  refine s_V (by decide) (by simp [Value.category]) (Nat.le_of_ble_eq_true rfl) ?_
  show mGM mX2_carryOver 0 [some (.ref b0), some (.ref b1), none] [] (hp K x) (PV K Q)
  refine r_aload_n (pc := 0) dX2_carryOver_0 rfl ?_
  refine r_aload_n (pc := 1) dX2_carryOver_1 rfl ?_
  refine s_getR (pc := 2) dX2_carryOver_2 fl_X2_12 rfl k_b0 g_b0_0 ?_
  refine s_VV (pc := 5) mX4_copyFrom (ci := 4) (a := b1) (As := [.ref b0_0]) dX2_carryOver_5 lk_X2_32 in_X4_copyFrom mo_X4_copyFrom ⟨by decide, rfl⟩ ⟨by decide, by decide⟩ (Nat.le_of_ble_eq_true rfl) k_b1 (mSV_mono K0 (fun y_1 K0 => ?_))
  refine r_aload_n (pc := 8) dX2_carryOver_8 rfl ?_
  obtain ⟨g_2, K0⟩ := K0
  refine s_getR (pc := 9) dX2_carryOver_9 fl_X2_12 rfl k_b0 g_2 ?_
  refine s_getI (pc := 12) dX2_carryOver_12 fl_X2_53 rfl k_b0_0 ?_
  refine r_iconst (pc := 15) (v := 1) dX2_carryOver_15 (by decide) ?_
  refine r_isub (pc := 16) dX2_carryOver_16 ?_
  refine r_istore_n (pc := 17) dX2_carryOver_17 (by decide) ?_
  exact r_le (L' := [some (.ref b0), some (.ref b1), some (.int ((gi y_1 b0_0 4) - 1))]) ⟨rfl, ⟨rfl, ⟨rfl, trivial⟩⟩⟩ K0
set_option maxHeartbeats 2000000 in
theorem v_X2_carryOver_18 {K : Sh} {x : Cn} {Q : Cn → Prop} {b0 : Nat} {b1 : Nat} {l2 : Int32} {b0_3 : Nat} {n_b0_3 : Nat} (k_b0 : kk K b0 = some (2, 0)) (g_b0_3 : gr x b0 3 = some b0_3) (k_b0_3 : kk K b0_3 = some (20, n_b0_3)) (k_b1 : kk K b1 = some (4, 0)) (K0 : (l2 < 0 → (Q x)) ∧ (¬ l2 < 0 → (vp_in l2 n_b0_3 ∧ (((gi x b0_3 (l2 : Int32).toNatClampNeg) = (-1) → (GV mX2_carryOver 18 [some (.ref b0), some (.ref b1), some (.int (l2 + (-1)))] [] K x Q)) ∧ (¬ (gi x b0_3 (l2 : Int32).toNatClampNeg) = (-1) → (mSV mX4_removeAsk [.ref b1, .int l2] K x (fun y_4 => GV mX2_carryOver 18 [some (.ref b0), some (.ref b1), some (.int (l2 + (-1)))] [] K y_4 Q))))))) : GV mX2_carryOver 18 [some (.ref b0), some (.ref b1), some (.int l2)] [] K x Q := by
  show mGM mX2_carryOver 18 [some (.ref b0), some (.ref b1), some (.int l2)] [] (hp K x) (PV K Q)
  refine r_iload_n (pc := 18) dX2_carryOver_18 rfl ?_
  refine r_if_lt (pc := 19) (tgt := 43) dX2_carryOver_19 (by decide) (fun q => ?_) (fun q => ?_)
  · have K0 := K0.1 q
    exact s_ret rfl dX2_carryOver_43 K0
  · have K0 := K0.2 q
    refine r_aload_n (pc := 22) dX2_carryOver_22 rfl ?_
    refine s_getR (pc := 23) dX2_carryOver_23 fl_X2_25 rfl k_b0 g_b0_3 ?_
    refine r_iload_n (pc := 26) dX2_carryOver_26 rfl ?_
    obtain ⟨i_2, K0⟩ := K0
    refine s_iald (pc := 27) dX2_carryOver_27 k_b0_3 i_2 ?_
    refine r_iconst (pc := 28) (v := (-1)) dX2_carryOver_28 (by decide) ?_
    refine r_icmp_eq (pc := 29) (tgt := 37) dX2_carryOver_29 (by decide) (fun q => ?_) (fun q => ?_)
    · have K0 := K0.1 q
      refine r_iinc (pc := 37) (v := l2 + (-1)) dX2_carryOver_37 rfl rfl (by decide) ?_
      refine r_goto (pc := 40) (L := [some (.ref b0), some (.ref b1), some (.int (l2 + (-1)))]) (tgt := 18) dX2_carryOver_40 (by decide) ?_
      exact r_le (L' := [some (.ref b0), some (.ref b1), some (.int (l2 + (-1)))]) ⟨rfl, ⟨rfl, ⟨rfl, trivial⟩⟩⟩ K0
    · have K0 := K0.2 q
      refine r_aload_n (pc := 32) dX2_carryOver_32 rfl ?_
      refine r_iload_n (pc := 33) dX2_carryOver_33 rfl ?_
      refine s_VV (pc := 34) mX4_removeAsk (ci := 4) (a := b1) (As := [.int l2]) dX2_carryOver_34 lk_X2_60 in_X4_removeAsk mo_X4_removeAsk ⟨by decide, rfl⟩ ⟨by decide, by decide⟩ (Nat.le_of_ble_eq_true rfl) k_b1 (mSV_mono K0 (fun y_4 K0 => ?_))
      refine r_iinc (pc := 37) (v := l2 + (-1)) dX2_carryOver_37 rfl rfl (by decide) ?_
      refine r_goto (pc := 40) (L := [some (.ref b0), some (.ref b1), some (.int (l2 + (-1)))]) (tgt := 18) dX2_carryOver_40 (by decide) ?_
      exact r_le (L' := [some (.ref b0), some (.ref b1), some (.int (l2 + (-1)))]) ⟨rfl, ⟨rfl, ⟨rfl, trivial⟩⟩⟩ K0
section
theorem sp_X2_carryOver_lp {x : Cn} {Q : Cn → Prop} {hr : TT} {W C S N n : Nat} {H : Nat → TT} : ∀ m (t : TT × Nat) v, m ≤ 24 → (∀ a, a < m → ¬ hr a = -1 → a < t.2) → AC x v W C S t.2 N n t.1 H → PLf v → (∀ a, a < m → gi v 174 a = hr a) → (∀ w, AC x w W C S (dpF hr m t).2 N n (dpF hr m t).1 H → (∀ a j, ¬ (2 ≤ a ∧ a < 56) → gi w a j = gi v a j) → (∀ a j, ¬ (2 ≤ a ∧ a < 56) → gr w a j = gr v a j) → Q w) → GV mX2_carryOver 18 [some (.ref 117), some (.ref 2), some (.int (nI m - 1))] [] KW v Q := by
  intro m
  induction m with
  | zero =>
    intro t v hm h1 av P h2 k
    exact v_X2_carryOver_18 k117 P.2.2.2 k174 (ks0 av.2.2.2.2.1) ⟨fun _ => k v av (fun _ _ _ => rfl) (fun _ _ _ => rfl), fun z => absurd (by decide) z⟩
  | succ m ih =>
    intro t v hm h1 av P h2 k
    have em : nI (m + 1) - 1 = nI m := pk_sub (b := 1) (by omega)
    have em2 : nI m + (-1) = nI m - 1 := (Int32.sub_eq_add_neg _ _).symm
    rw [em]
    refine v_X2_carryOver_18 k117 P.2.2.2 k174 (ks0 av.2.2.2.2.1) ⟨fun z => absurd z (nI_pos (by omega)), fun _ => ⟨vp_in_nI (by omega) (by decide), ?_⟩⟩
    rw [nI_clamp (by omega), h2 m (by omega), em2]
    refine ⟨fun z => ?_, fun z => ?_⟩
    · have e : dpF hr (m + 1) t = dpF hr m t := by
        show dpF hr m (if hr m = -1 then t else (drT t.1 m t.2, t.2 - 1)) = _
        rw [if_pos z]
      rw [e] at k
      exact ih t v (by omega) (fun a ha => h1 a (by omega)) av P (fun a ha => h2 a (by omega)) k
    · have e : dpF hr (m + 1) t = dpF hr m (drT t.1 m t.2, t.2 - 1) := by
        show dpF hr m (if hr m = -1 then t else (drT t.1 m t.2, t.2 - 1)) = _
        rw [if_neg z]
      rw [e] at k
      have hlt := h1 m (by omega) z
      refine sp_X4_removeAsk av.2.2.2.2 hlt (fun w w1 w2 w3 w4 => ?_)
      have aw : AC x w W C S (t.2 - 1) N n (drT t.1 m t.2) H := av.up2 (fun d i hd => w1 d i (by omega)) (fun d i hd => w3 d i (by omega)) (av.2.2.2.2.drop hlt w1 w2 w3 w4)
      have Pw : PLf w := ⟨(w3 117 0 (by decide)).trans P.1, (w3 117 1 (by decide)).trans P.2.1, (w3 117 2 (by decide)).trans P.2.2.1, (w3 117 3 (by decide)).trans P.2.2.2⟩
      exact ih (drT t.1 m t.2, t.2 - 1) w (by omega) (fun a ha _ => show a < t.2 - 1 by omega) aw Pw (fun a ha => by rw [w1 174 a (by omega)]; exact h2 a (by omega)) (fun u au u1 u2 => k u au (fun a j ha => (u1 a j ha).trans (w1 a j (by omega))) (fun a j ha => (u2 a j ha).trans (w3 a j (by omega))))
end
set_option maxHeartbeats 2000000 in
theorem v_X7_pool_0 {K : Sh} {x : Cn} {Q : Int32 → Cn → Prop} {b0 : Nat} {b0_2 : Nat} {b0_9 : Nat} (k_b0 : kk K b0 = some (7, 0)) (g_b0_2 : gr x b0 2 = some b0_2) (k_b0_2 : kk K b0_2 = some (4, 0)) (g_b0_9 : gr x b0 9 = some b0_9) (k_b0_9 : kk K b0_9 = some (2, 0)) (K0 : ((0 < gi x b0_2 0) → (mSV mX2_serve [.ref b0_9, .ref b0_2, .int (-1)] K x (fun y_2 => gr y_2 b0 9 = some b0_9 ∧ (((gi y_2 b0_9 4) ≤ 0 → (Q (gi y_2 b0_9 4) y_2)) ∧ (¬ (gi y_2 b0_9 4) ≤ 0 → (mSV mX7_remember [.ref b0] K y_2 (fun y_5 => gr y_5 b0 9 = some b0_9 ∧ (gr y_5 b0 2 = some b0_2 ∧ (mSV mX2_carryOver [.ref b0_9, .ref b0_2] K y_5 (fun y_8 => gr y_8 b0 9 = some b0_9 ∧ (Q (gi y_8 b0_9 4) y_8))))))))))) ∧ (¬ (0 < gi x b0_2 0) → (Q (-2) x))) : mSI mX7_pool [.ref b0] K x Q := by
  refine s_I (by decide) (by simp [Value.category]) (Nat.le_of_ble_eq_true rfl) ?_
  show mGM mX7_pool 0 [some (.ref b0)] [] (hp K x) (PI K Q)
  refine r_aload_n (pc := 0) dX7_pool_0 rfl ?_
  refine s_VI (pc := 1) mX7_hasText (ci := 7) (a := b0) (As := []) dX7_pool_1 lk_X7_121 in_X7_hasText mo_X7_hasText ⟨by decide, rfl⟩ ⟨by decide, by decide⟩ (Nat.le_of_ble_eq_true rfl) k_b0 (sp_X7_hasText k_b0 g_b0_2 k_b0_2 ?_)
  refine r_if_ne (pc := 4) (tgt := 10) dX7_pool_4 (by decide) (fun q => ?_) (fun q => ?_)
  · have q := b2i_nz q
    have K0 := K0.1 q
    refine r_aload_n (pc := 10) dX7_pool_10 rfl ?_
    refine s_getR (pc := 11) dX7_pool_11 fl_X7_54 rfl k_b0 g_b0_9 ?_
    refine r_aload_n (pc := 14) dX7_pool_14 rfl ?_
    refine s_getR (pc := 15) dX7_pool_15 fl_X7_20 rfl k_b0 g_b0_2 ?_
    refine r_iconst (pc := 18) (v := (-1)) dX7_pool_18 (by decide) ?_
    refine s_VV (pc := 19) mX2_serve (ci := 2) (a := b0_9) (As := [.ref b0_2, .int (-1)]) dX7_pool_19 lk_X7_314 in_X2_serve mo_X2_serve ⟨by decide, rfl⟩ ⟨by decide, by decide⟩ (Nat.le_of_ble_eq_true rfl) k_b0_9 (mSV_mono K0 (fun y_2 K0 => ?_))
    refine r_aload_n (pc := 22) dX7_pool_22 rfl ?_
    obtain ⟨g_3, K0⟩ := K0
    refine s_getR (pc := 23) dX7_pool_23 fl_X7_54 rfl k_b0 g_3 ?_
    refine s_getI (pc := 26) dX7_pool_26 fl_X7_318 rfl k_b0_9 ?_
    refine r_if_le (pc := 29) (tgt := 47) dX7_pool_29 (by decide) (fun q => ?_) (fun q => ?_)
    · have K0 := K0.1 q
      refine r_aload_n (pc := 47) dX7_pool_47 rfl ?_
      refine s_getR (pc := 48) dX7_pool_48 fl_X7_54 rfl k_b0 g_3 ?_
      refine s_getI (pc := 51) dX7_pool_51 fl_X7_318 rfl k_b0_9 ?_
      exact s_iret rfl dX7_pool_54 K0
    · have K0 := K0.2 q
      refine r_aload_n (pc := 32) dX7_pool_32 rfl ?_
      refine s_VV (pc := 33) mX7_remember (ci := 7) (a := b0) (As := []) dX7_pool_33 lk_X7_333 in_X7_remember mo_X7_remember ⟨by decide, rfl⟩ ⟨by decide, by decide⟩ (Nat.le_of_ble_eq_true rfl) k_b0 (mSV_mono K0 (fun y_5 K0 => ?_))
      refine r_aload_n (pc := 36) dX7_pool_36 rfl ?_
      obtain ⟨g_6, K0⟩ := K0
      refine s_getR (pc := 37) dX7_pool_37 fl_X7_54 rfl k_b0 g_6 ?_
      refine r_aload_n (pc := 40) dX7_pool_40 rfl ?_
      obtain ⟨g_7, K0⟩ := K0
      refine s_getR (pc := 41) dX7_pool_41 fl_X7_20 rfl k_b0 g_7 ?_
      refine s_VV (pc := 44) mX2_carryOver (ci := 2) (a := b0_9) (As := [.ref b0_2]) dX7_pool_44 lk_X7_351 in_X2_carryOver mo_X2_carryOver ⟨by decide, rfl⟩ ⟨by decide, by decide⟩ (Nat.le_of_ble_eq_true rfl) k_b0_9 (mSV_mono K0 (fun y_8 K0 => ?_))
      refine r_aload_n (pc := 47) dX7_pool_47 rfl ?_
      obtain ⟨g_9, K0⟩ := K0
      refine s_getR (pc := 48) dX7_pool_48 fl_X7_54 rfl k_b0 g_9 ?_
      refine s_getI (pc := 51) dX7_pool_51 fl_X7_318 rfl k_b0_9 ?_
      exact s_iret rfl dX7_pool_54 K0
  · have q := (b2i_z _).mp q
    have K0 := K0.2 q
    refine r_bipush (pc := 7) (v := (-2)) dX7_pool_7 (by decide) ?_
    exact s_iret rfl dX7_pool_9 K0
set_option maxHeartbeats 2000000 in
theorem v_X8_pool_0 {K : Sh} {x : Cn} {Q : Int32 → Cn → Prop} {b0 : Nat} {b0_1 : Nat} {n_b0_1 : Nat} (k_b0 : kk K b0 = some (8, 0)) (g_b0_1 : gr x b0 1 = some b0_1) (k_b0_1 : kk K b0_1 = some (20, n_b0_1)) (K0 : vp_in 0 n_b0_1 ∧ (((0 < gi x b0_1 0) → (mSI mX8_playsAside [.ref b0, .int (-1)] K x (fun r_4 y_3 => (¬ r_4 = 0 → (mSV mX8_keeps [.ref b0] K y_3 (fun y_6 => GI mX8_pool 28 [some (.ref b0), some (.int r_4), some (.int 0)] [] K y_6 Q))) ∧ (r_4 = 0 → (Q 0 y_3))))) ∧ (¬ (0 < gi x b0_1 0) → (Q (-2) x)))) : mSI mX8_pool [.ref b0] K x Q := by
  refine s_I (by decide) (by simp [Value.category]) (Nat.le_of_ble_eq_true rfl) ?_
  show mGM mX8_pool 0 [some (.ref b0), none, none] [] (hp K x) (PI K Q)
  refine r_aload_n (pc := 0) dX8_pool_0 rfl ?_
  obtain ⟨i_1, K0⟩ := K0
  refine s_VI (pc := 1) mX8_isThere (ci := 8) (a := b0) (As := []) dX8_pool_1 lk_X8_49 in_X8_isThere mo_X8_isThere ⟨by decide, rfl⟩ ⟨by decide, by decide⟩ (Nat.le_of_ble_eq_true rfl) k_b0 (sp_X8_isThere k_b0 g_b0_1 k_b0_1 i_1 ?_)
  refine r_if_ne (pc := 4) (tgt := 10) dX8_pool_4 (by decide) (fun q => ?_) (fun q => ?_)
  · have q := b2i_nz q
    have K0 := K0.1 q
    refine r_aload_n (pc := 10) dX8_pool_10 rfl ?_
    refine r_iconst (pc := 11) (v := (-1)) dX8_pool_11 (by decide) ?_
    refine s_VI (pc := 12) mX8_playsAside (ci := 8) (a := b0) (As := [.int (-1)]) dX8_pool_12 lk_X8_354 in_X8_playsAside mo_X8_playsAside ⟨by decide, rfl⟩ ⟨by decide, by decide⟩ (Nat.le_of_ble_eq_true rfl) k_b0 (mSI_mono K0 (fun r_4 y_3 K0 => ?_))
    refine r_istore_n (pc := 15) dX8_pool_15 (by decide) ?_
    refine r_iload_n (pc := 16) (L := [some (.ref b0), some (.int r_4), none]) dX8_pool_16 rfl ?_
    refine r_if_ne (pc := 17) (tgt := 22) dX8_pool_17 (by decide) (fun q => ?_) (fun q => ?_)
    · have K0 := K0.1 q
      refine r_aload_n (pc := 22) dX8_pool_22 rfl ?_
      refine s_VV (pc := 23) mX8_keeps (ci := 8) (a := b0) (As := []) dX8_pool_23 lk_X8_366 in_X8_keeps mo_X8_keeps ⟨by decide, rfl⟩ ⟨by decide, by decide⟩ (Nat.le_of_ble_eq_true rfl) k_b0 (mSV_mono K0 (fun y_6 K0 => ?_))
      refine r_iconst (pc := 26) (v := 0) dX8_pool_26 (by decide) ?_
      refine r_istore_n (pc := 27) dX8_pool_27 (by decide) ?_
      exact r_le (L' := [some (.ref b0), some (.int r_4), some (.int 0)]) ⟨rfl, ⟨rfl, ⟨rfl, trivial⟩⟩⟩ K0
    · have K0 := K0.2 q
      refine r_iconst (pc := 20) (v := 0) dX8_pool_20 (by decide) ?_
      exact s_iret rfl dX8_pool_21 K0
  · have q := (b2i_z _).mp q
    have K0 := K0.2 q
    refine r_bipush (pc := 7) (v := (-2)) dX8_pool_7 (by decide) ?_
    exact s_iret rfl dX8_pool_9 K0
set_option maxHeartbeats 2000000 in
theorem v_X8_pool_28 {K : Sh} {x : Cn} {Q : Int32 → Cn → Prop} {b0 : Nat} {l1 : Int32} {l2 : Int32} {b0_1 : Nat} {b0_2 : Nat} {n_b0_2 : Nat} {n_b0_1 : Nat} (k_b0 : kk K b0 = some (8, 0)) (g_b0_1 : gr x b0 1 = some b0_1) (g_b0_2 : gr x b0 2 = some b0_2) (k_b0_2 : kk K b0_2 = some (20, n_b0_2)) (k_b0_1 : kk K b0_1 = some (20, n_b0_1)) (K0 : (518 ≤ l2 → (GI mX8_pool 56 [some (.ref b0), some (.int l1), some (.int 23)] [] K x Q)) ∧ (¬ 518 ≤ l2 → (vp_in l2 n_b0_2 ∧ (vp_in l2 n_b0_1 ∧ (GI mX8_pool 28 [some (.ref b0), some (.int l1), some (.int (l2 + 1))] [] K (ui x b0_1 (l2 : Int32).toNatClampNeg (gi x b0_2 (l2 : Int32).toNatClampNeg)) Q))))) : GI mX8_pool 28 [some (.ref b0), some (.int l1), some (.int l2)] [] K x Q := by
  show mGM mX8_pool 28 [some (.ref b0), some (.int l1), some (.int l2)] [] (hp K x) (PI K Q)
  refine r_iload_n (pc := 28) dX8_pool_28 rfl ?_
  refine r_sipush (pc := 29) (v := 518) dX8_pool_29 (by decide) ?_
  refine r_icmp_ge (pc := 32) (tgt := 53) dX8_pool_32 (by decide) (fun q => ?_) (fun q => ?_)
  · have K0 := K0.1 q
    refine r_bipush (pc := 53) (v := 23) dX8_pool_53 (by decide) ?_
    refine r_istore_n (pc := 55) dX8_pool_55 (by decide) ?_
    exact r_le (L' := [some (.ref b0), some (.int l1), some (.int 23)]) ⟨rfl, ⟨rfl, ⟨rfl, trivial⟩⟩⟩ K0
  · have K0 := K0.2 q
    refine r_aload_n (pc := 35) dX8_pool_35 rfl ?_
    refine s_getR (pc := 36) dX8_pool_36 fl_X8_9 rfl k_b0 g_b0_1 ?_
    refine r_iload_n (pc := 39) dX8_pool_39 rfl ?_
    refine r_aload_n (pc := 40) dX8_pool_40 rfl ?_
    refine s_getR (pc := 41) dX8_pool_41 fl_X8_13 rfl k_b0 g_b0_2 ?_
    refine r_iload_n (pc := 44) dX8_pool_44 rfl ?_
    obtain ⟨i_2, K0⟩ := K0
    refine s_iald (pc := 45) dX8_pool_45 k_b0_2 i_2 ?_
    obtain ⟨i_3, K0⟩ := K0
    refine s_iast (pc := 46) dX8_pool_46 k_b0_1 i_3 ?_
    refine r_iinc (pc := 47) (v := l2 + 1) dX8_pool_47 rfl rfl (by decide) ?_
    refine r_goto (pc := 50) (L := [some (.ref b0), some (.int l1), some (.int (l2 + 1))]) (tgt := 28) dX8_pool_50 (by decide) ?_
    exact r_le (L' := [some (.ref b0), some (.int l1), some (.int (l2 + 1))]) ⟨rfl, ⟨rfl, ⟨rfl, trivial⟩⟩⟩ K0
set_option maxHeartbeats 2000000 in
theorem v_X8_pool_56 {K : Sh} {x : Cn} {Q : Int32 → Cn → Prop} {b0 : Nat} {l1 : Int32} {l2 : Int32} {b0_17 : Nat} {n_b0_17 : Nat} (k_b0 : kk K b0 = some (8, 0)) (g_b0_17 : gr x b0 17 = some b0_17) (k_b0_17 : kk K b0_17 = some (20, n_b0_17)) (K0 : (l2 < 0 → (Q l1 x)) ∧ (¬ l2 < 0 → (vp_in l2 n_b0_17 ∧ (((gi x b0_17 (l2 : Int32).toNatClampNeg) = (-1) → (GI mX8_pool 56 [some (.ref b0), some (.int l1), some (.int (l2 + (-1)))] [] K x Q)) ∧ (¬ (gi x b0_17 (l2 : Int32).toNatClampNeg) = (-1) → (mSV mX8_dropsAsk [.ref b0, .int l2] K x (fun y_4 => GI mX8_pool 56 [some (.ref b0), some (.int l1), some (.int (l2 + (-1)))] [] K y_4 Q))))))) : GI mX8_pool 56 [some (.ref b0), some (.int l1), some (.int l2)] [] K x Q := by
  show mGM mX8_pool 56 [some (.ref b0), some (.int l1), some (.int l2)] [] (hp K x) (PI K Q)
  refine r_iload_n (pc := 56) dX8_pool_56 rfl ?_
  refine r_if_lt (pc := 57) (tgt := 81) dX8_pool_57 (by decide) (fun q => ?_) (fun q => ?_)
  · have K0 := K0.1 q
    refine r_iload_n (pc := 81) dX8_pool_81 rfl ?_
    exact s_iret rfl dX8_pool_82 K0
  · have K0 := K0.2 q
    refine r_aload_n (pc := 60) dX8_pool_60 rfl ?_
    refine s_getR (pc := 61) dX8_pool_61 fl_X8_33 rfl k_b0 g_b0_17 ?_
    refine r_iload_n (pc := 64) dX8_pool_64 rfl ?_
    obtain ⟨i_2, K0⟩ := K0
    refine s_iald (pc := 65) dX8_pool_65 k_b0_17 i_2 ?_
    refine r_iconst (pc := 66) (v := (-1)) dX8_pool_66 (by decide) ?_
    refine r_icmp_eq (pc := 67) (tgt := 75) dX8_pool_67 (by decide) (fun q => ?_) (fun q => ?_)
    · have K0 := K0.1 q
      refine r_iinc (pc := 75) (v := l2 + (-1)) dX8_pool_75 rfl rfl (by decide) ?_
      refine r_goto (pc := 78) (L := [some (.ref b0), some (.int l1), some (.int (l2 + (-1)))]) (tgt := 56) dX8_pool_78 (by decide) ?_
      exact r_le (L' := [some (.ref b0), some (.int l1), some (.int (l2 + (-1)))]) ⟨rfl, ⟨rfl, ⟨rfl, trivial⟩⟩⟩ K0
    · have K0 := K0.2 q
      refine r_aload_n (pc := 70) dX8_pool_70 rfl ?_
      refine r_iload_n (pc := 71) dX8_pool_71 rfl ?_
      refine s_VV (pc := 72) mX8_dropsAsk (ci := 8) (a := b0) (As := [.int l2]) dX8_pool_72 lk_X8_376 in_X8_dropsAsk mo_X8_dropsAsk ⟨by decide, rfl⟩ ⟨by decide, by decide⟩ (Nat.le_of_ble_eq_true rfl) k_b0 (mSV_mono K0 (fun y_4 K0 => ?_))
      refine r_iinc (pc := 75) (v := l2 + (-1)) dX8_pool_75 rfl rfl (by decide) ?_
      refine r_goto (pc := 78) (L := [some (.ref b0), some (.int l1), some (.int (l2 + (-1)))]) (tgt := 56) dX8_pool_78 (by decide) ?_
      exact r_le (L' := [some (.ref b0), some (.int l1), some (.int (l2 + (-1)))]) ⟨rfl, ⟨rfl, ⟨rfl, trivial⟩⟩⟩ K0
section
theorem sp_X8_pool_56 {x : Cn} {Q : Int32 → Cn → Prop} {hr : TT} {n : Nat} {H : Nat → TT} {g : Int32} : ∀ m (t : TT × Nat) v, m ≤ 24 → t.2 ≤ 24 → t.1 3 = nI t.2 → (∀ a, a < m → ¬ hr a = -1 → a < t.2) → RS v t.1 n H → (∀ a, a < m → gi v 723 a = hr a) → (∀ w, EQx v w 718 → RS w (dpF hr m t).1 n H → Q g w) → GI mX8_pool 56 [some (.ref 717), some (.int g), some (.int (nI m - 1))] [] KW v Q := by
  intro m
  induction m with
  | zero =>
    intro t v hm ht h3 h1 rv h2 k
    exact v_X8_pool_56 km rv.1.2.2.2.2.2.2.1 km723 ⟨fun _ => k v (EQx.rf v _) rv, fun z => absurd (by decide) z⟩
  | succ m ih =>
    intro t v hm ht h3 h1 rv h2 k
    have em : nI (m + 1) - 1 = nI m := pk_sub (b := 1) (by omega)
    have em2 : nI m + (-1) = nI m - 1 := (Int32.sub_eq_add_neg _ _).symm
    rw [em]
    refine v_X8_pool_56 km rv.1.2.2.2.2.2.2.1 km723 ⟨fun z => absurd z (nI_pos (by omega)), fun _ => ⟨vp_in_nI (by omega) (by decide), ?_⟩⟩
    rw [nI_clamp (by omega), h2 m (by omega), em2]
    refine ⟨fun z => ?_, fun z => ?_⟩
    · have e : dpF hr (m + 1) t = dpF hr m t := by
        show dpF hr m (if hr m = -1 then t else (drT t.1 m t.2, t.2 - 1)) = _
        rw [if_pos z]
      rw [e] at k
      exact ih t v (by omega) ht h3 (fun a ha => h1 a (by omega)) rv (fun a ha => h2 a (by omega)) k
    · have e : dpF hr (m + 1) t = dpF hr m (drT t.1 m t.2, t.2 - 1) := by
        show dpF hr m (if hr m = -1 then t else (drT t.1 m t.2, t.2 - 1)) = _
        rw [if_neg z]
      rw [e] at k
      have hlt := h1 m (by omega) z
      refine sp_X8_dropsAsk rv h3 hlt ht (fun w f1 r1 => ?_)
      exact ih (drT t.1 m t.2, t.2 - 1) w (by omega) (show t.2 - 1 ≤ 24 by omega) (show drT t.1 m t.2 3 = nI (t.2 - 1) from if_pos rfl) (fun a ha _ => show a < t.2 - 1 by omega) r1 (fun a ha => by rw [f1.2 723 a (by decide)]; exact h2 a (by omega)) (fun u f2 r2 => k u (f1.tr f2) r2)
theorem sp_X8_pool_28 {x : Cn} {Q : Int32 → Cn → Prop} {T p : TT} {n : Nat} {H : Nat → TT} {g : Int32} (r : RS x T n H) (hp : gi x 719 = p) (k : ∀ w, EQx x w 718 → RS w (fun i => if i < 518 then p i else T i) n H → GI mX8_pool 56 [some (.ref 717), some (.int g), some (.int 23)] [] KW w Q) : GI mX8_pool 28 [some (.ref 717), some (.int g), some (.int 0)] [] KW x Q := by
  have key : ∀ c m y, m + c = 518 → EQx x y 718 → RS y (fun i => if i < m then p i else T i) n H → GI mX8_pool 28 [some (.ref 717), some (.int g), some (.int (nI m))] [] KW y Q := by
    intro c
    induction c with
    | zero =>
      intro m y hm f1 r1
      have : m = 518 := by omega
      subst this
      exact v_X8_pool_28 km r1.1.1 r1.1.2.1 km2 km1 ⟨fun _ => k y f1 r1, fun z => absurd (Int32.le_refl _) z⟩
    | succ c ih =>
      intro m y hm f1 r1
      refine v_X8_pool_28 km r1.1.1 r1.1.2.1 km2 km1 ⟨fun z => absurd z (nI_ge (b := 518) (by omega) (by decide)), fun _ => ⟨vp_in_nI (by omega) (by decide), vp_in_nI (by omega) (by decide), ?_⟩⟩
      rw [nI_1, nI_clamp (by omega), show gi y 719 m = p m by rw [f1.2 719 m (by decide), hp]]
      refine ih (m + 1) _ (by omega) f1.ui ?_
      have := r1.u8 (k := m) (v := p m)
      have e : uT (fun i => if i < m then p i else T i) m (p m) = (fun i => if i < m + 1 then p i else T i) := by
        funext i
        show (if i = m then p m else if i < m then p i else T i) = (if i < m + 1 then p i else T i)
        by_cases c1 : i = m
        · rw [if_pos c1, if_pos (by omega), c1]
        · rw [if_neg c1]
          by_cases c2 : i < m
          · rw [if_pos c2, if_pos (show i < m + 1 by omega)]
          · rw [if_neg c2, if_neg (show ¬ i < m + 1 by omega)]
      rw [e] at this
      exact this
  refine key 518 0 x (by omega) (EQx.rf x _) ?_
  have e : (fun i => if i < 0 then p i else T i) = T := by
    funext i
    rw [if_neg (by omega)]
  rw [e]
  exact r
end
theorem eq_pool : Both mX7_pool mX8_pool [] := by
  intro x R
  obtain ⟨W, C, S, A, N, n, H, ac, rs, nm⟩ := R.ac
  have E := ac.2.2.2.2
  have hn := E.nums
  have hA : A ≤ 24 := hn.2.2.2.2.2.2.2.1
  have hC : C ≤ 8 := hn.2.2.2.2.2.1
  have t0 := (Rel.t2 E).1
  have hh : ((-1 : Int32) = -1 ∧ mixT x = mixT x) ∨ ∃ h, h < 24 ∧ (-1 : Int32) = nI h ∧ mixT x = hlT (mixT x) h := Or.inl ⟨rfl, rfl⟩
  have iv := PIV.run (pl_wf E hh) A (Nat.le_refl _)
  refine v_X7_pool_0 k0 R.1.2.1 (ks0 E.1) R.1.c9 k117 ?_
  rw [hn.1]
  refine ⟨fun z1 => pl_cls R E (PCr.rf x) hh (fun y fy cy => ⟨(R.1.keep fy.1).c9, ?_⟩), fun z => v_X8_pool_0 km R.2.1.1 km1 ⟨v0 (k := 0) (by decide) rfl rfl, fun u => absurd (by rw [t0] at u; exact u) z, fun _ => ⟨rfl, R⟩⟩⟩
  have ce : ∀ a, a < A → gi y 173 a = (accT (plS A N) A (pl0 (mixT x) S)).2.2.1 a ∧ gi y 174 a = (accT (plS A N) A (pl0 (mixT x) S)).2.2.2.1 a := fun a ha => cy.end (pl_wf E hh) ha
  have Ry := R.keep fy.kp
  have ay := ac.pc fy
  rw [cy.2.2.1]
  have pr : ∀ {v : Cn} {Q : Int32 → Cn → Prop}, MRf v 718 → (∀ i, gi v 718 i = gi x 718 i) → (∀ i, gi v 719 i = gi x 719 i) → (∀ u, PFr v u → gi u 719 = (accT (plS A N) A (pl0 (mixT x) S)).1 → (∀ a, a < 24 → gi u 723 a = (accT (plS A N) A (pl0 (mixT x) S)).2.2.2.1 a) → Q (nI (accT (plS A N) A (pl0 (mixT x) S)).2.2.2.2) u) → mSI mX8_playsAside [.ref 717, .int (-1)] KW v Q := by
    intro v Q Mv v1 v2 k
    have hm : mixT v = mixT x := by
      funext i
      unfold mixT
      rw [v1, v2]
    exact sp_X8_playsAside Mv (T0 := mixT x) (Or.inl ⟨rfl, hm.symm⟩) (pl_wf E hh) (fun u fu u1 u2 u3 => k u fu u1 u3)
  generalize hp : accT (plS A N) A (pl0 (mixT x) S) = p at cy ce iv pr ⊢
  have hg : p.2.2.2.2 ≤ A := iv.2.2.2.2.1
  rw [show nI p.2.2.2.2 ≤ 0 ↔ p.2.2.2.2 ≤ 0 from nI_leI (b := 0) (by omega) (by decide)]
  refine ⟨fun z2 => ?_, fun z2 => ?_⟩
  · refine v_X8_pool_0 km Ry.2.1.1 km1 ⟨v0 (k := 0) (by decide) rfl rfl, fun _ => ?_, fun u => absurd (by rw [fy.2 718 0 (by omega), t0]; exact z1) u⟩
    have g0 : p.2.2.2.2 = 0 := by omega
    refine pr Ry.2.1 (fun i => fy.2 718 i (by omega)) (fun i => fy.2 719 i (by omega)) (fun u fu u1 u2 => ⟨fun c => absurd (by rw [g0]; rfl) c, fun c => ⟨by rw [g0]; rfl, Ry.keep fu.kp⟩⟩)
  · refine ay.rem2 (fun _ _ => rfl) (fun z az z3 z4 => ⟨az.2.1.c9, az.2.1.2.1, ?_⟩)
    have I118 : Isea 118 := Or.inr (Or.inr (Or.inl rfl))
    have lm : LM9 p.1 := fun h h24 => by
      rw [iv.2.2.2.1 (6 + 2 * h) (by omega) (by omega), iv.2.2.2.1 (7 + 2 * h) (by omega) (by omega), mix_lt (by omega), mix_lt (by omega)]
      exact E.2.2.2.2.2.2.2.2.2.2.2.2.2.2.1 h h24
    have Ez : SEA z 118 p.1 W C p.2.1 A N := (cy.1.w lm).mv (fun a j a1 a2 => z4 a j (by omega)) (fun a j a1 a2 _ => z3 a j (by omega) (by omega)) (fun _ _ => rfl)
    refine v_X2_carryOver_0 k117 az.2.1.pl.1 (ks0 E.1) (ks0 I118) (sp_X4_copyFrom E.1 az.2.2.2.2.2.1 Ez (by decide) (fun v fv Ev => ⟨(az.2.1.pl.keep fv.1).1, ?_⟩))
    have e4 : gi v 118 4 = nI A := (fv.2 118 4 (by omega)).trans Ez.nums.2.2.2.1
    rw [e4]
    have av : AC x v W C p.2.1 A N (pn n) (fun i => if i < 518 then p.1 i else gi x 718 i) (push H n (gi x 718)) := az.up (fun b k hb => fv.2 b k (by omega)) fv.1 (Ev.mv (fun _ _ _ _ => rfl) (fun _ _ _ _ _ => rfl) (fun i hi => if_pos hi))
    have hA3 : (fun i => if i < 518 then p.1 i else gi x 718 i : TT) 3 = nI A := (if_pos (by decide)).trans iv.1.2.2.2.2.2.2.2.1
    refine sp_X2_carryOver_lp (hr := p.2.2.2.1) A (fun i => if i < 518 then p.1 i else gi x 718 i, A) v hA (fun a ha _ => ha) av (az.2.1.pl.keep fv.1) (fun a ha => ?_) (fun w aw w1 w2 => ⟨aw.2.1.c9, ?_⟩)
    · rw [fv.2 174 a (by omega), z3 174 a (by omega) (by omega)]; exact (ce a ha).2
    · have w4 : gi w 117 4 = nI p.2.2.2.2 := by
        rw [w1 117 4 (by omega), fv.2 117 4 (by omega), z3 117 4 (by omega) (by omega)]; exact cy.2.2.1
      rw [w4]
      have rw0 := aw.rs rs
      have b8 : ∀ b i, 717 ≤ b → gi w b i = gi x b i := fun b i hb => aw.1 b i (by omega) (by omega) (by omega) (by omega)
      refine v_X8_pool_0 km rw0.1.1 km1 ⟨v0 (k := 0) (by decide) rfl rfl, fun _ => ?_, fun u => absurd (by rw [b8 718 0 (by decide), t0]; exact z1) u⟩
      refine pr rw0.1 (fun i => b8 718 i (by decide)) (fun i => b8 719 i (by decide)) (fun u fu u1 u2 => ⟨fun _ => ?_, fun c => absurd ((nI_z (by omega)).mp c) (by omega)⟩)
      have ru := rw0.pf fu
      refine ru.keeps2 (fun u3 f3 f4 r3 => sp_X8_pool_28 (p := p.1) r3 (by rw [← u1]; exact funext (fun i => f4 719 i (by decide) (by omega))) (fun u5 f5 r5 => ?_))
      have sk := dp_skip (hr := p.2.2.2.1) (A := A) (fun a ha => (iv.2.2.1 a ha).2) 24 hA (fun i => if i < 518 then p.1 i else gi x 718 i, A)
      refine sp_X8_pool_56 (x := x) (hr := p.2.2.2.1) 24 (fun i => if i < 518 then p.1 i else gi x 718 i, A) u5 (Nat.le_refl _) hA hA3 (fun a ha hne => ?_) r5 (fun a ha => ?_) (fun u6 f6 r6 => ⟨rfl, ?_⟩)
      · by_cases c : a < A
        · exact c
        · exact absurd (iv.2.2.1 a (by omega)).2 hne
      · rw [f5.2 723 a (by decide), f4 723 a (by decide) (by omega)]; exact u2 a ha
      · rw [sk] at r6
        refine aw.fin R nm (fun c hc => ?_) (fu.rfr.tr (f3.tr (f5.rfr.tr f6.rfr))) r6
        rw [dp_off _ _ _ (by omega) (by omega)]
        show (if 54 + c < 518 then p.1 (54 + c) else gi x 718 (54 + c)) = _
        rw [if_pos (by omega), iv.2.2.2.1 (54 + c) (by omega) (by omega), mix_lt (by omega)]
end

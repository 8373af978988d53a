def WFB (T : TT) (W C S A N : Nat) : Prop := T 0 = nI W ∧ ((W = 0 ∧ C = 0) ∨ 5 ≤ W) ∧ W ≤ 30 ∧ T 1 = nI C ∧ C ≤ 8 ∧ T 2 = nI S ∧ S ≤ 24 ∧ T 3 = nI A ∧ A ≤ 24 ∧ T 4 = nI N ∧ N ≤ W ∧ (∀ h : Nat, h < 24 → True) ∧ (∀ s, s < S → Wse T C W s) ∧ ∀ a, a < A → Was T C W a
def SEB (x : Cn) (q : Nat) (T : TT) (W C S A N : Nat) : Prop := Isea q ∧ SRf x q ∧ SVl x q T S A ∧ WFB T W C S A N
def LM9 (T : TT) : Prop := ∀ h, h < 24 → ∃ a b, a ≤ 10 ∧ b ≤ 10 ∧ T (6 + 2 * h) = nI a ∧ T (7 + 2 * h) = nI b
theorem WF.b {T : TT} {W C S A N : Nat} (F : WF T W C S A N) : WFB T W C S A N := by
  obtain ⟨w1, w2, w3, w4, w5, w6, w7, w8, w9, w10, w11, w12, w13, w14⟩ := F
  exact ⟨w1, w2, w3, w4, w5, w6, w7, w8, w9, w10, w11, fun _ _ => trivial, w13, w14⟩
theorem WFB.w {T : TT} {W C S A N : Nat} (F : WFB T W C S A N) (l : LM9 T) : WF T W C S A N := by
  obtain ⟨w1, w2, w3, w4, w5, w6, w7, w8, w9, w10, w11, w12, w13, w14⟩ := F
  exact ⟨w1, w2, w3, w4, w5, w6, w7, w8, w9, w10, w11, l, w13, w14⟩
theorem SEA.b {x : Cn} {q : Nat} {T : TT} {W C S A N : Nat} (E : SEA x q T W C S A N) : SEB x q T W C S A N := ⟨E.1, E.2.1, E.2.2.1, E.2.2.2.b⟩
theorem SEB.w {x : Cn} {q : Nat} {T : TT} {W C S A N : Nat} (E : SEB x q T W C S A N) (l : LM9 T) : SEA x q T W C S A N := ⟨E.1, E.2.1, E.2.2.1, E.2.2.2.w l⟩
theorem WFB.cg {T T' : TT} {W C S A N : Nat} (w : WFB T W C S A N) (h : ∀ i, i < 518 → T' i = T i) : WFB T' W C S A N := by
  obtain ⟨w1, w2, w3, w4, w5, w6, w7, w8, w9, w10, w11, w12, w13, w14⟩ := w
  exact ⟨by rw [h 0 (by decide)]; exact w1, w2, w3, by rw [h 1 (by decide)]; exact w4, w5, by rw [h 2 (by decide)]; exact w6, w7, by rw [h 3 (by decide)]; exact w8, w9, by rw [h 4 (by decide)]; exact w10, w11, w12, fun s hs => (w13 s hs).cg (fun k hk => h _ (by omega)), fun a ha => (w14 a ha).cg (fun k hk => h _ (by omega))⟩
theorem SEB.ser {x : Cn} {q : Nat} {T : TT} {W C S A N s : Nat} (E : SEB x q T W C S A N) (hs : s < S) : ∃ p, gr x (q + 3) s = some p ∧ kk KW p = some (5, 0) ∧ SER x p T s ∧ f_held x p = bas T s ∧ f_open x p = so T s 7 ∧ Wse T C W s := by
  obtain ⟨h1, ⟨-, -, -, -, -, h2, -⟩, ⟨-, -, -, -, -, -, h3, -⟩, ⟨-, -, -, -, -, -, hS, -, -, -, -, -, h4, -⟩⟩ := E
  obtain ⟨j, hj, e⟩ := h2 s (by omega)
  have hse := h3 s _ hs e
  exact ⟨_, e, ks6 h1 hj, hse, hse.held (h4 s hs), hse.opn (h4 s hs), h4 s hs⟩
theorem SEB.ask {x : Cn} {q : Nat} {T : TT} {W C S A N s : Nat} (E : SEB x q T W C S A N) (hs : s < A) : ∃ p, gr x (q + 4) s = some p ∧ kk KW p = some (0, 0) ∧ ASR x p T s ∧ Was T C W s := by
  obtain ⟨h1, ⟨-, -, -, -, -, -, -, h2, -⟩, ⟨-, -, -, -, -, -, -, h3⟩, ⟨-, -, -, -, -, -, -, -, hA, -, -, -, -, h4⟩⟩ := E
  obtain ⟨j, hj, e⟩ := h2 s (by omega)
  exact ⟨_, e, ks30 h1 hj, h3 s _ hs e, h4 s hs⟩
theorem SEB.nums {x : Cn} {q : Nat} {T : TT} {W C S A N : Nat} (E : SEB x q T W C S A N) : gi x q 0 = nI W ∧ gi x q 1 = nI N ∧ gi x q 3 = nI S ∧ gi x q 4 = nI A ∧ W ≤ 30 ∧ C ≤ 8 ∧ S ≤ 24 ∧ A ≤ 24 ∧ N ≤ W := by
  obtain ⟨h1, -, ⟨v0, v1, -, v3, v4, -⟩, ⟨w0, -, w1, -, w2, w3, w4, w5, w6, w7, w8, -⟩⟩ := E
  exact ⟨v0.trans w0, v1.trans w7, v3.trans w3, v4.trans w5, w1, w2, w4, w6, w8⟩
theorem SEB.eqx {x y : Cn} {q : Nat} {T : TT} {W C S A N : Nat} (E : SEB x q T W C S A N) {a : Nat} (h : EQx x y a) (ha : a = q + 5 ∨ a < q ∨ q + 54 ≤ a) : SEB y q T W C S A N := by
  obtain ⟨e1, e2, ⟨v0, v1, v2, v3, v4, v5, v6, v7⟩, e4⟩ := E
  have hg : ∀ b k, gr y b k = gr x b k := fun b k => by unfold gr; rw [h.1]
  have hi : ∀ b k, b ≠ a → gi y b k = gi x b k := h.2
  have hr := e2
  obtain ⟨r1, r2, r3, r4, r5, r6, r7, r8, r9⟩ := e2
  refine ⟨e1, ?_, ⟨?_, ?_, ?_, ?_, ?_, ?_, ?_, ?_⟩, e4⟩
  · unfold SRf at hr ⊢
    simp only [hg]
    exact hr
  · rw [hi q 0 (by omega)]; exact v0
  · rw [hi q 1 (by omega)]; exact v1
  · rw [hi q 2 (by omega)]; exact v2
  · rw [hi q 3 (by omega)]; exact v3
  · rw [hi q 4 (by omega)]; exact v4
  · intro hh h24
    rw [hi (q + 1) hh (by omega), hi (q + 2) hh (by omega)]
    exact v5 hh h24
  · intro s p hs hp
    rw [hg] at hp
    have h0 := v6 s p hs hp
    obtain ⟨j, hj, ej⟩ := r6 s (by have := e4.2.2.2.2.2.2.1; omega)
    have hpe : p = q + 6 + j := Option.some.inj (hp.symm.trans ej)
    exact ⟨fun k h1 h2 => by rw [hi p k (by omega)]; exact h0.1 k h1 h2, by rw [hi p 7 (by omega)]; exact h0.2⟩
  · intro s p hs hp
    rw [hg] at hp
    have h0 := v7 s p hs hp
    obtain ⟨j, hj, ej⟩ := r8 s (by have := e4.2.2.2.2.2.2.2.2.1; omega)
    have hpe : p = q + 30 + j := Option.some.inj (hp.symm.trans ej)
    exact fun k h1 => by rw [hi p k (by omega)]; exact h0 k h1
theorem lb_X4_weeksLoaded_118 {x : Cn} {Q : Int32 → Cn → Prop} {q : Nat} {T : TT} {W C S A N : Nat} (E : SEB x q T W C S A N) {d h io wo held : Int32} {b7 m s : Nat} (hm : m ≤ 24) (hh : ∀ i, i < 32 → tb held i = cW T s i d h io wo) (hs : s < 24)
    (k : ∀ y, EQx x y (q + 5) → (∀ j, j ≤ m → ∀ i, i < 32 → tb (gi y (q + 5) j) i = decide (j ≤ nW T (s + 1) i d h io wo)) → GI mX4_weeksLoaded 49 [some (.ref q), some (.int d), some (.int h), some (.int (nI m)), some (.int io), some (.int wo), some (.int (nI (s + 1))), none, none, none] [] KW y Q) :
    ∀ (n : Nat) (y : Cn), n ≤ m → EQx x y (q + 5) → (∀ j, j ≤ n → ∀ i, i < 32 → tb (gi y (q + 5) j) i = decide (j ≤ nW T s i d h io wo)) → (∀ j, n < j → j ≤ m → ∀ i, i < 32 → tb (gi y (q + 5) j) i = decide (j ≤ nW T (s + 1) i d h io wo)) → GI mX4_weeksLoaded 118 [some (.ref q), some (.int d), some (.int h), some (.int (nI m)), some (.int io), some (.int wo), some (.int (nI s)), some (.ref b7), some (.int held), some (.int (nI n))] [] KW y Q := by
  intro n
  induction n with
  | zero =>
    intro y hn hy h0 h1
    have E2 := E.eqx hy (Or.inl rfl)
    refine v_X4_weeksLoaded_118 (ks0 E.1) E2.2.1.2.2.2.2.1 (ks5 E.1) ⟨fun _ => ?_, fun z => ?_⟩
    · rw [nI_1]
      refine k y hy (fun j hj i hi => ?_)
      rcases Nat.eq_zero_or_pos j with rfl | hp
      · rw [h0 0 (Nat.le_refl 0) i hi]
        simp
      · exact h1 j hp hj i hi
    · exact absurd (by decide) z
  | succ n ih =>
    intro y hn hy h0 h1
    have E2 := E.eqx hy (Or.inl rfl)
    refine v_X4_weeksLoaded_118 (ks0 E.1) E2.2.1.2.2.2.2.1 (ks5 E.1) ⟨fun z => ?_, fun _ => ⟨vp_in_nI (by omega) (by decide), ?_, ?_⟩⟩
    · exact absurd z (show ¬ nI (n + 1) < nI 1 from nI_nlt (by omega) (by omega))
    · rw [nI_pred]
      exact vp_in_nI (by omega) (by decide)
    · rw [pk_m1, nI_pred, nI_clamp (by omega), nI_clamp (by omega)]
      refine ih _ (by omega) hy.ui (fun j hj i hi => ?_) (fun j hj hjm i hi => ?_)
      · rw [gi_ui, if_neg (by omega)]
        exact h0 j (by omega) i hi
      · by_cases hjn : j = n + 1
        · subst hjn
          rw [gi_ui, if_pos ⟨rfl, rfl⟩, tb_or, tb_and, h0 (n + 1) (Nat.le_refl _) i hi, h0 n (by omega) i hi, hh i hi]
          have : nW T (s + 1) i d h io wo = nW T s i d h io wo + (if cW T s i d h io wo = true then 1 else 0) := rfl
          rw [this]
          cases cW T s i d h io wo <;> simp <;> omega
        · rw [gi_ui, if_neg (by omega)]
          exact h1 j (by omega) hjm i hi

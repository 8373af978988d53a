section
variable {x : Cn} {Q : Int32 → Cn → Prop}
theorem sb_X8_hourFor {t : Nat} (M : MRf x t) (ht : kk KW t = some (20, 518)) {W C S A N : Nat} (F : WFB (gi x t) W C S A N) {a : Nat} (ha : a < A) (k : Q (hrF (gi x t) S N a) x) : mSI mX8_hourFor [.ref 717, .int (nI a)] KW x Q := by
  have hA : A ≤ 24 := F.2.2.2.2.2.2.2.2.1
  have hS : S ≤ 24 := F.2.2.2.2.2.2.1
  have hW : W ≤ 30 := F.2.2.1
  have hN : N ≤ W := F.2.2.2.2.2.2.2.2.2.2.1
  obtain ⟨-, -, ⟨h, h1, h2⟩, a3, ⟨f, l, f1, f2, f3, f4⟩, ⟨b, b1, b2⟩⟩ := F.2.2.2.2.2.2.2.2.2.2.2.2.2 a ha
  refine v_X8_hourFor_0 km M.2.2.1 ht ⟨l24_nI (by omega) rfl, ?_⟩
  rw [nI_clamp (by omega), F.1, F.2.2.2.2.2.2.2.2.2.1, f3, f4, span_and0 (by omega) f2 hW hN, F.2.2.2.2.2.1, h2]
  unfold hrF at k
  rw [f4, nI_clamp (by omega), h2, nI_clamp (by omega), b2, nI_clamp (by omega)] at k
  refine ⟨fun z => by rwa [if_pos (Or.inl z)] at k, fun z => ⟨v0 (k := 2) (by decide) rfl rfl, fun z2 => ?_, fun z2 => ?_⟩⟩
  · rw [if_neg (fun u => u.elim z (fun e => z2 (by rw [e]; rfl)))] at k
    refine lp_gen (stH (fun h => fitA (gi x t) S N a h 0) h) (fun _ => -1) (fun d _ => GI mX8_hourFor 30 [some (.ref 717), some (.int (nI a)), some (.int (nI h)), some (.int (nI d))] [] KW x Q) (fun r => Q r x) (b + 1) (fun _ k => ?_) (fun d _ hd n1 n2 => ?_) (b + 1) 0 () (by omega) k
    · refine v_X8_hourFor_30 km M.2.2.1 ht ⟨l24_nI (by omega) rfl, ?_⟩
      rw [nI_clamp (by omega), b2]
      exact ⟨fun _ => k, fun z => absurd (nI_lt (by omega) (by omega)) z⟩
    · refine v_X8_hourFor_30 km M.2.2.1 ht ⟨l24_nI (by omega) rfl, ?_⟩
      rw [nI_clamp (by omega), b2, nI_add, nI_1]
      refine ⟨fun z => absurd z (nI_nlt (by omega) (by omega)), fun _ => ?_⟩
      have up : ¬ (d ≤ h ∧ ¬ bP (fitA (gi x t) S N a (h - d) 0) = 0) → (nI 24 ≤ nI (h + d) → GI mX8_hourFor 30 [some (.ref 717), some (.int (nI a)), some (.int (nI h)), some (.int (nI (d + 1)))] [] KW x Q) ∧ (¬ nI 24 ≤ nI (h + d) → mSI mX8_canAsk [.ref 717, .int (nI a), .int (nI (h + d)), .int (-1)] KW x (fun r y_4 => (r = 0 → GI mX8_hourFor 30 [some (.ref 717), some (.int (nI a)), some (.int (nI h)), some (.int (nI (d + 1)))] [] KW y_4 Q) ∧ (¬ r = 0 → Q (nI (h + d)) y_4))) := by
        intro w
        refine ⟨fun z => n1 () ?_, fun z => ?_⟩
        · unfold stH
          rw [if_neg w, if_neg (fun u => nI_ge u.1 (by decide) z)]
        · have hd2 : h + d < 24 := by
            by_cases c : h + d < 24
            · exact c
            · exact absurd (nI_le (by omega) (by omega)) z
          refine sb_X8_canAsk M ht F ha hd2 wo_0 ⟨fun u => n1 () ?_, fun u => n2 _ ?_⟩
          · unfold stH
            rw [if_neg w, if_neg (fun g => g.2 u)]
          · unfold stH
            rw [if_neg w, if_pos ⟨hd2, u⟩]
      refine ⟨fun z => up (fun u => nI_nlt u.1 (by omega) z), fun z => ?_⟩
      have hd2 : d ≤ h := by
        by_cases c : d ≤ h
        · exact c
        · exact absurd (nI_lt (by omega) (by omega)) z
      rw [pk_sub hd2]
      refine sb_X8_canAsk M ht F ha (by omega) wo_0 ⟨fun u => up (fun g => g.2 u), fun u => n2 _ ?_⟩
      unfold stH
      rw [if_pos ⟨hd2, u⟩]
  · have hz : S = 24 := (nI_eq (b := 24) (by omega) (by decide)).mp z2
    rwa [if_pos (Or.inr hz)] at k
end
theorem SEB.mv {x y : Cn} {q : Nat} {T T' : TT} {W C S A N : Nat} (E : SEB x q T W C S A N) (h1 : ∀ a k, q ≤ a → a < q + 54 → gr y a k = gr x a k) (h2 : ∀ a k, q ≤ a → a < q + 54 → a ≠ q + 5 → gi y a k = gi x a k) (hT : ∀ i, i < 518 → T' i = T i) : SEB y q T' W C S A N := by
  obtain ⟨e1, e2, ⟨v0, v1, v2, v3, v4, v5, v6, v7⟩, e4⟩ := E
  have hS : S ≤ 24 := e4.2.2.2.2.2.2.1
  have hA : A ≤ 24 := e4.2.2.2.2.2.2.2.2.1
  have g0 : ∀ k, gr y q k = gr x q k := fun k => h1 q k (by omega) (by omega)
  have g3 : ∀ k, gr y (q + 3) k = gr x (q + 3) k := fun k => h1 (q + 3) k (by omega) (by omega)
  have g4 : ∀ k, gr y (q + 4) k = gr x (q + 4) k := fun k => h1 (q + 4) k (by omega) (by omega)
  have hr := e2
  obtain ⟨r1, r2, r3, r4, r5, r6, r7, r8, r9⟩ := e2
  refine ⟨e1, ?_, ⟨?_, ?_, ?_, ?_, ?_, ?_, ?_, ?_⟩, e4.cg hT⟩
  · unfold SRf at hr ⊢
    simp only [g0, g3, g4]
    exact hr
  · rw [h2 q 0 (by omega) (by omega) (by omega), hT 0 (by decide)]; exact v0
  · rw [h2 q 1 (by omega) (by omega) (by omega), hT 4 (by decide)]; exact v1
  · rw [h2 q 2 (by omega) (by omega) (by omega), hT 5 (by decide)]; exact v2
  · rw [h2 q 3 (by omega) (by omega) (by omega), hT 2 (by decide)]; exact v3
  · rw [h2 q 4 (by omega) (by omega) (by omega), hT 3 (by decide)]; exact v4
  · intro hh h24
    rw [h2 (q + 1) hh (by omega) (by omega) (by omega), h2 (q + 2) hh (by omega) (by omega) (by omega), hT _ (by omega), hT _ (by omega)]
    exact v5 hh h24
  · intro s p hs hp
    rw [g3] at hp
    obtain ⟨j, hj, ej⟩ := r6 s (by omega)
    have hpe : p = q + 6 + j := Option.some.inj (hp.symm.trans ej)
    exact (v6 s p hs hp).cg (fun k _ => h2 p k (by omega) (by omega) (by omega)) (fun k hk => hT _ (by omega))
  · intro s p hs hp
    rw [g4] at hp
    obtain ⟨j, hj, ej⟩ := r8 s (by omega)
    have hpe : p = q + 30 + j := Option.some.inj (hp.symm.trans ej)
    exact (v7 s p hs hp).cg (fun k _ => h2 p k (by omega) (by omega) (by omega)) (fun k hk => hT _ (by omega))
